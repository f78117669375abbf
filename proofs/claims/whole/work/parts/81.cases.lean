/-! 09.d: the law, case by case -/
theorem mmL_c77 : Cond.constantLong RL 77 (4294967295) ∈ lw_tbl := lx_10
def nq_LC (Y : Cy) (E : Ev) (l : Launch) (b Ln : Nat) (xs : Nat → Int32) (L1 L2 : List Nat) (cs ss : Nat) : Prop :=
  nq_OK (nq_X Y cs ss) (nq_Ew E (nq_adL (L1 ++ L2))) l room_1 cL_law 4 RL lw_tbl ∧ nq_A E = (fun q => (nq_Ys Y).heap.size ≤ q) ∧ va_X b Ln xs (nq_Ys Y) (nq_Ys Y).heap ∧ b < (nq_Ys Y).heap.size ∧ L1.length = 95 ∧ L2.length = 15 ∧ Ln ≤ 3072
abbrev nq_LG (Y : Cy) (E : Ev) (L1 L2 : List Nat) (cs ss pc : Nat) (lv : List (Nat × Value)) (st : List Value) (Mx Mm : Mem) : Prop := nq_G (nq_X Y cs ss) (nq_Ew E (nq_adL (L1 ++ L2))) 4 pc lv st (nq_kN (nq_adL L1) (nq_xa E) ++ nq_kM (nq_adL L2)) (nq_mg 95 Mx Mm)
theorem nq_ixc {i c Ln : Nat} (h : i + c < Ln) (hL : Ln ≤ 3072) : vp_in (nI i + nI c) Ln := by
  rw [nI_add, vp_in_iff, nI_toInt (by omega)]; omega
theorem nq_ix0 {i Ln : Nat} (h : i < Ln) (hL : Ln ≤ 3072) : vp_in (nI i) Ln := by
  rw [vp_in_iff, nI_toInt (by omega)]; omega
theorem nq_lg0 (r : Int64) : lg_cmp r r = 0 := by simp [lg_cmp]
set_option maxHeartbeats 4000000 in
theorem lc_place {R : Mem → Mem → Prop} {Y : Cy} {E : Ev} {l : Launch} {b Ln : Nat} {xs : Nat → Int32} {L1 L2 : List Nat} {cs ss i : Nat} {Mx Mm : Mem} (C : nq_LC Y E l b Ln xs L1 L2 cs ss) (hbA : ¬ nq_A E b) (hi : i + 6 ≤ Ln) (hR : R Mx Mm) (hop : ∀  (Mx Mm : Mem), R Mx Mm → ∃ (r : Int32) (Mx1 Mm1 : Mem), fX8_place  Mx = some (r, Mx1) ∧ fX9_place  Mm = some (r, Mm1) ∧ R Mx1 Mm1) (kk : ∀ Mx1 Mm1, R Mx1 Mm1 → nq_LG Y E L1 L2 cs ss 1728 [(0, .ref b), (1, .ref (nq_adL L1 0)), (2, .ref (nq_adL L2 0)), (3, .int (nI i))] [] Mx1 Mm1) : nq_LG Y E L1 L2 cs ss 224 [(0, .ref b), (1, .ref (nq_adL L1 0)), (2, .ref (nq_adL L2 0)), (3, .int (nI i))] [] Mx Mm := by
  obtain ⟨r, Mx1, Mm1, hx1, hm1, hR1⟩ := hop  Mx Mm hR
  refine nq_aload_n C.1 rfl 1 rfl dL_law_224 ?_
  refine nq_law1 (sf := .int r) C.1 C.2.1 C.2.2.2.2.1 C.2.2.2.2.2.1 (tX8_place (nq_N0 E L1) hx1) gl_X8_place rfl rfl dsX8_place (by decide) rfl rfl rfl (Nat.le_of_ble_eq_true rfl) dL_law_225 ?_
  refine nq_aload_n C.1 rfl 2 rfl dL_law_228 ?_
  refine nq_law2 (sf := .int r) C.1 C.2.1 C.2.2.2.2.1 C.2.2.2.2.2.1 (tX9_place (nq_M0 E L2) hm1) gl_X9_place rfl rfl dsX9_place (by decide) rfl rfl rfl (Nat.le_of_ble_eq_true rfl) dL_law_229 ?_
  refine nq_icmp_eq C.1 (tgt := 1728) (by decide) dL_law_232 (fun _ => ?_) (fun c => absurd rfl c)
  exact kk Mx1 Mm1 hR1
set_option maxHeartbeats 4000000 in
theorem lc_near {R : Mem → Mem → Prop} {Y : Cy} {E : Ev} {l : Launch} {b Ln : Nat} {xs : Nat → Int32} {L1 L2 : List Nat} {cs ss i : Nat} {Mx Mm : Mem} (C : nq_LC Y E l b Ln xs L1 L2 cs ss) (hbA : ¬ nq_A E b) (hi : i + 6 ≤ Ln) (hR : R Mx Mm) (hop : ∀ (a0 : Int32) (a1 : Int32) (a2 : Int32) (Mx Mm : Mem), R Mx Mm → ∃ (r : Int32) (Mx1 Mm1 : Mem), fX8_near a0 a1 a2 Mx = some (r, Mx1) ∧ fX9_near a0 a1 a2 Mm = some (r, Mm1) ∧ R Mx1 Mm1) (kk : ∀ Mx1 Mm1, R Mx1 Mm1 → nq_LG Y E L1 L2 cs ss 1728 [(0, .ref b), (1, .ref (nq_adL L1 0)), (2, .ref (nq_adL L2 0)), (3, .int (nI i))] [] Mx1 Mm1) : nq_LG Y E L1 L2 cs ss 237 [(0, .ref b), (1, .ref (nq_adL L1 0)), (2, .ref (nq_adL L2 0)), (3, .int (nI i))] [] Mx Mm := by
  obtain ⟨r, Mx1, Mm1, hx1, hm1, hR1⟩ := hop (xs (nI i + 1).toNatClampNeg) (xs (nI i + 2).toNatClampNeg) (xs (nI i + 3).toNatClampNeg) Mx Mm hR
  refine nq_aload_n C.1 rfl 1 rfl dL_law_237 ?_
  refine nq_aload_n C.1 rfl 0 rfl dL_law_238 ?_
  refine nq_iload_n C.1 rfl 3 rfl dL_law_239 ?_
  refine nq_iconst C.1 (v := 1) (by decide) dL_law_240 ?_
  refine nq_iadd C.1 dL_law_241 ?_
  refine nq_sld C.1 C.2.2.1 C.2.2.2.1 hbA (nq_ixc (c := 1) (by omega) C.2.2.2.2.2.2) dL_law_242 ?_
  refine nq_aload_n C.1 rfl 0 rfl dL_law_243 ?_
  refine nq_iload_n C.1 rfl 3 rfl dL_law_244 ?_
  refine nq_iconst C.1 (v := 2) (by decide) dL_law_245 ?_
  refine nq_iadd C.1 dL_law_246 ?_
  refine nq_sld C.1 C.2.2.1 C.2.2.2.1 hbA (nq_ixc (c := 2) (by omega) C.2.2.2.2.2.2) dL_law_247 ?_
  refine nq_aload_n C.1 rfl 0 rfl dL_law_248 ?_
  refine nq_iload_n C.1 rfl 3 rfl dL_law_249 ?_
  refine nq_iconst C.1 (v := 3) (by decide) dL_law_250 ?_
  refine nq_iadd C.1 dL_law_251 ?_
  refine nq_sld C.1 C.2.2.1 C.2.2.2.1 hbA (nq_ixc (c := 3) (by omega) C.2.2.2.2.2.2) dL_law_252 ?_
  refine nq_law1 (sf := .int r) C.1 C.2.1 C.2.2.2.2.1 C.2.2.2.2.2.1 (tX8_near (nq_N0 E L1) hx1) gl_X8_near rfl rfl dsX8_near (by decide) rfl rfl rfl (Nat.le_of_ble_eq_true rfl) dL_law_253 ?_
  refine nq_aload_n C.1 rfl 2 rfl dL_law_256 ?_
  refine nq_aload_n C.1 rfl 0 rfl dL_law_257 ?_
  refine nq_iload_n C.1 rfl 3 rfl dL_law_258 ?_
  refine nq_iconst C.1 (v := 1) (by decide) dL_law_259 ?_
  refine nq_iadd C.1 dL_law_260 ?_
  refine nq_sld C.1 C.2.2.1 C.2.2.2.1 hbA (nq_ixc (c := 1) (by omega) C.2.2.2.2.2.2) dL_law_261 ?_
  refine nq_aload_n C.1 rfl 0 rfl dL_law_262 ?_
  refine nq_iload_n C.1 rfl 3 rfl dL_law_263 ?_
  refine nq_iconst C.1 (v := 2) (by decide) dL_law_264 ?_
  refine nq_iadd C.1 dL_law_265 ?_
  refine nq_sld C.1 C.2.2.1 C.2.2.2.1 hbA (nq_ixc (c := 2) (by omega) C.2.2.2.2.2.2) dL_law_266 ?_
  refine nq_aload_n C.1 rfl 0 rfl dL_law_267 ?_
  refine nq_iload_n C.1 rfl 3 rfl dL_law_268 ?_
  refine nq_iconst C.1 (v := 3) (by decide) dL_law_269 ?_
  refine nq_iadd C.1 dL_law_270 ?_
  refine nq_sld C.1 C.2.2.1 C.2.2.2.1 hbA (nq_ixc (c := 3) (by omega) C.2.2.2.2.2.2) dL_law_271 ?_
  refine nq_law2 (sf := .int r) C.1 C.2.1 C.2.2.2.2.1 C.2.2.2.2.2.1 (tX9_near (nq_M0 E L2) hm1) gl_X9_near rfl rfl dsX9_near (by decide) rfl rfl rfl (Nat.le_of_ble_eq_true rfl) dL_law_272 ?_
  refine nq_icmp_eq C.1 (tgt := 1728) (by decide) dL_law_275 (fun _ => ?_) (fun c => absurd rfl c)
  exact kk Mx1 Mm1 hR1
set_option maxHeartbeats 4000000 in
theorem lc_way {R : Mem → Mem → Prop} {Y : Cy} {E : Ev} {l : Launch} {b Ln : Nat} {xs : Nat → Int32} {L1 L2 : List Nat} {cs ss i : Nat} {Mx Mm : Mem} (C : nq_LC Y E l b Ln xs L1 L2 cs ss) (hbA : ¬ nq_A E b) (hi : i + 6 ≤ Ln) (hR : R Mx Mm) (hop : ∀ (a0 : Int32) (a1 : Int32) (Mx Mm : Mem), R Mx Mm → ∃ (r : Int32) (Mx1 Mm1 : Mem), fX8_way a0 a1 Mx = some (r, Mx1) ∧ fX9_way a0 a1 Mm = some (r, Mm1) ∧ R Mx1 Mm1) (kk : ∀ Mx1 Mm1, R Mx1 Mm1 → nq_LG Y E L1 L2 cs ss 1728 [(0, .ref b), (1, .ref (nq_adL L1 0)), (2, .ref (nq_adL L2 0)), (3, .int (nI i))] [] Mx1 Mm1) : nq_LG Y E L1 L2 cs ss 280 [(0, .ref b), (1, .ref (nq_adL L1 0)), (2, .ref (nq_adL L2 0)), (3, .int (nI i))] [] Mx Mm := by
  obtain ⟨r, Mx1, Mm1, hx1, hm1, hR1⟩ := hop (xs (nI i + 1).toNatClampNeg) (xs (nI i + 2).toNatClampNeg) Mx Mm hR
  refine nq_aload_n C.1 rfl 1 rfl dL_law_280 ?_
  refine nq_aload_n C.1 rfl 0 rfl dL_law_281 ?_
  refine nq_iload_n C.1 rfl 3 rfl dL_law_282 ?_
  refine nq_iconst C.1 (v := 1) (by decide) dL_law_283 ?_
  refine nq_iadd C.1 dL_law_284 ?_
  refine nq_sld C.1 C.2.2.1 C.2.2.2.1 hbA (nq_ixc (c := 1) (by omega) C.2.2.2.2.2.2) dL_law_285 ?_
  refine nq_aload_n C.1 rfl 0 rfl dL_law_286 ?_
  refine nq_iload_n C.1 rfl 3 rfl dL_law_287 ?_
  refine nq_iconst C.1 (v := 2) (by decide) dL_law_288 ?_
  refine nq_iadd C.1 dL_law_289 ?_
  refine nq_sld C.1 C.2.2.1 C.2.2.2.1 hbA (nq_ixc (c := 2) (by omega) C.2.2.2.2.2.2) dL_law_290 ?_
  refine nq_law1 (sf := .int r) C.1 C.2.1 C.2.2.2.2.1 C.2.2.2.2.2.1 (tX8_way (nq_N0 E L1) hx1) gl_X8_way rfl rfl dsX8_way (by decide) rfl rfl rfl (Nat.le_of_ble_eq_true rfl) dL_law_291 ?_
  refine nq_aload_n C.1 rfl 2 rfl dL_law_294 ?_
  refine nq_aload_n C.1 rfl 0 rfl dL_law_295 ?_
  refine nq_iload_n C.1 rfl 3 rfl dL_law_296 ?_
  refine nq_iconst C.1 (v := 1) (by decide) dL_law_297 ?_
  refine nq_iadd C.1 dL_law_298 ?_
  refine nq_sld C.1 C.2.2.1 C.2.2.2.1 hbA (nq_ixc (c := 1) (by omega) C.2.2.2.2.2.2) dL_law_299 ?_
  refine nq_aload_n C.1 rfl 0 rfl dL_law_300 ?_
  refine nq_iload_n C.1 rfl 3 rfl dL_law_301 ?_
  refine nq_iconst C.1 (v := 2) (by decide) dL_law_302 ?_
  refine nq_iadd C.1 dL_law_303 ?_
  refine nq_sld C.1 C.2.2.1 C.2.2.2.1 hbA (nq_ixc (c := 2) (by omega) C.2.2.2.2.2.2) dL_law_304 ?_
  refine nq_law2 (sf := .int r) C.1 C.2.1 C.2.2.2.2.1 C.2.2.2.2.2.1 (tX9_way (nq_M0 E L2) hm1) gl_X9_way rfl rfl dsX9_way (by decide) rfl rfl rfl (Nat.le_of_ble_eq_true rfl) dL_law_305 ?_
  refine nq_icmp_eq C.1 (tgt := 1728) (by decide) dL_law_308 (fun _ => ?_) (fun c => absurd rfl c)
  exact kk Mx1 Mm1 hR1
set_option maxHeartbeats 4000000 in
theorem lc_route {R : Mem → Mem → Prop} {Y : Cy} {E : Ev} {l : Launch} {b Ln : Nat} {xs : Nat → Int32} {L1 L2 : List Nat} {cs ss i : Nat} {Mx Mm : Mem} (C : nq_LC Y E l b Ln xs L1 L2 cs ss) (hbA : ¬ nq_A E b) (hi : i + 6 ≤ Ln) (hR : R Mx Mm) (hop : ∀ (a0 : Int32) (a1 : Int32) (a2 : Int32) (Mx Mm : Mem), R Mx Mm → ∃ (r : Int32) (Mx1 Mm1 : Mem), fX8_route a0 a1 a2 Mx = some (r, Mx1) ∧ fX9_route a0 a1 a2 Mm = some (r, Mm1) ∧ R Mx1 Mm1) (kk : ∀ Mx1 Mm1, R Mx1 Mm1 → nq_LG Y E L1 L2 cs ss 1728 [(0, .ref b), (1, .ref (nq_adL L1 0)), (2, .ref (nq_adL L2 0)), (3, .int (nI i))] [] Mx1 Mm1) : nq_LG Y E L1 L2 cs ss 313 [(0, .ref b), (1, .ref (nq_adL L1 0)), (2, .ref (nq_adL L2 0)), (3, .int (nI i))] [] Mx Mm := by
  obtain ⟨r, Mx1, Mm1, hx1, hm1, hR1⟩ := hop (xs (nI i + 1).toNatClampNeg) (xs (nI i + 2).toNatClampNeg) (xs (nI i + 3).toNatClampNeg) Mx Mm hR
  refine nq_aload_n C.1 rfl 1 rfl dL_law_313 ?_
  refine nq_aload_n C.1 rfl 0 rfl dL_law_314 ?_
  refine nq_iload_n C.1 rfl 3 rfl dL_law_315 ?_
  refine nq_iconst C.1 (v := 1) (by decide) dL_law_316 ?_
  refine nq_iadd C.1 dL_law_317 ?_
  refine nq_sld C.1 C.2.2.1 C.2.2.2.1 hbA (nq_ixc (c := 1) (by omega) C.2.2.2.2.2.2) dL_law_318 ?_
  refine nq_aload_n C.1 rfl 0 rfl dL_law_319 ?_
  refine nq_iload_n C.1 rfl 3 rfl dL_law_320 ?_
  refine nq_iconst C.1 (v := 2) (by decide) dL_law_321 ?_
  refine nq_iadd C.1 dL_law_322 ?_
  refine nq_sld C.1 C.2.2.1 C.2.2.2.1 hbA (nq_ixc (c := 2) (by omega) C.2.2.2.2.2.2) dL_law_323 ?_
  refine nq_aload_n C.1 rfl 0 rfl dL_law_324 ?_
  refine nq_iload_n C.1 rfl 3 rfl dL_law_325 ?_
  refine nq_iconst C.1 (v := 3) (by decide) dL_law_326 ?_
  refine nq_iadd C.1 dL_law_327 ?_
  refine nq_sld C.1 C.2.2.1 C.2.2.2.1 hbA (nq_ixc (c := 3) (by omega) C.2.2.2.2.2.2) dL_law_328 ?_
  refine nq_law1 (sf := .int r) C.1 C.2.1 C.2.2.2.2.1 C.2.2.2.2.2.1 (tX8_route (nq_N0 E L1) hx1) gl_X8_route rfl rfl dsX8_route (by decide) rfl rfl rfl (Nat.le_of_ble_eq_true rfl) dL_law_329 ?_
  refine nq_aload_n C.1 rfl 2 rfl dL_law_332 ?_
  refine nq_aload_n C.1 rfl 0 rfl dL_law_333 ?_
  refine nq_iload_n C.1 rfl 3 rfl dL_law_334 ?_
  refine nq_iconst C.1 (v := 1) (by decide) dL_law_335 ?_
  refine nq_iadd C.1 dL_law_336 ?_
  refine nq_sld C.1 C.2.2.1 C.2.2.2.1 hbA (nq_ixc (c := 1) (by omega) C.2.2.2.2.2.2) dL_law_337 ?_
  refine nq_aload_n C.1 rfl 0 rfl dL_law_338 ?_
  refine nq_iload_n C.1 rfl 3 rfl dL_law_339 ?_
  refine nq_iconst C.1 (v := 2) (by decide) dL_law_340 ?_
  refine nq_iadd C.1 dL_law_341 ?_
  refine nq_sld C.1 C.2.2.1 C.2.2.2.1 hbA (nq_ixc (c := 2) (by omega) C.2.2.2.2.2.2) dL_law_342 ?_
  refine nq_aload_n C.1 rfl 0 rfl dL_law_343 ?_
  refine nq_iload_n C.1 rfl 3 rfl dL_law_344 ?_
  refine nq_iconst C.1 (v := 3) (by decide) dL_law_345 ?_
  refine nq_iadd C.1 dL_law_346 ?_
  refine nq_sld C.1 C.2.2.1 C.2.2.2.1 hbA (nq_ixc (c := 3) (by omega) C.2.2.2.2.2.2) dL_law_347 ?_
  refine nq_law2 (sf := .int r) C.1 C.2.1 C.2.2.2.2.1 C.2.2.2.2.2.1 (tX9_route (nq_M0 E L2) hm1) gl_X9_route rfl rfl dsX9_route (by decide) rfl rfl rfl (Nat.le_of_ble_eq_true rfl) dL_law_348 ?_
  refine nq_icmp_eq C.1 (tgt := 1728) (by decide) dL_law_351 (fun _ => ?_) (fun c => absurd rfl c)
  exact kk Mx1 Mm1 hR1
set_option maxHeartbeats 4000000 in
theorem lc_rule {R : Mem → Mem → Prop} {Y : Cy} {E : Ev} {l : Launch} {b Ln : Nat} {xs : Nat → Int32} {L1 L2 : List Nat} {cs ss i : Nat} {Mx Mm : Mem} (C : nq_LC Y E l b Ln xs L1 L2 cs ss) (hbA : ¬ nq_A E b) (hi : i + 6 ≤ Ln) (hR : R Mx Mm) (hop : ∀ (a0 : Int32) (a1 : Int32) (Mx Mm : Mem), R Mx Mm → ∃ (r : Int32) (Mx1 Mm1 : Mem), fX8_rule a0 a1 Mx = some (r, Mx1) ∧ fX9_rule a0 a1 Mm = some (r, Mm1) ∧ R Mx1 Mm1) (kk : ∀ Mx1 Mm1, R Mx1 Mm1 → nq_LG Y E L1 L2 cs ss 1728 [(0, .ref b), (1, .ref (nq_adL L1 0)), (2, .ref (nq_adL L2 0)), (3, .int (nI i))] [] Mx1 Mm1) : nq_LG Y E L1 L2 cs ss 356 [(0, .ref b), (1, .ref (nq_adL L1 0)), (2, .ref (nq_adL L2 0)), (3, .int (nI i))] [] Mx Mm := by
  obtain ⟨r, Mx1, Mm1, hx1, hm1, hR1⟩ := hop (xs (nI i + 1).toNatClampNeg) (xs (nI i + 2).toNatClampNeg) Mx Mm hR
  refine nq_aload_n C.1 rfl 1 rfl dL_law_356 ?_
  refine nq_aload_n C.1 rfl 0 rfl dL_law_357 ?_
  refine nq_iload_n C.1 rfl 3 rfl dL_law_358 ?_
  refine nq_iconst C.1 (v := 1) (by decide) dL_law_359 ?_
  refine nq_iadd C.1 dL_law_360 ?_
  refine nq_sld C.1 C.2.2.1 C.2.2.2.1 hbA (nq_ixc (c := 1) (by omega) C.2.2.2.2.2.2) dL_law_361 ?_
  refine nq_aload_n C.1 rfl 0 rfl dL_law_362 ?_
  refine nq_iload_n C.1 rfl 3 rfl dL_law_363 ?_
  refine nq_iconst C.1 (v := 2) (by decide) dL_law_364 ?_
  refine nq_iadd C.1 dL_law_365 ?_
  refine nq_sld C.1 C.2.2.1 C.2.2.2.1 hbA (nq_ixc (c := 2) (by omega) C.2.2.2.2.2.2) dL_law_366 ?_
  refine nq_law1 (sf := .int r) C.1 C.2.1 C.2.2.2.2.1 C.2.2.2.2.2.1 (tX8_rule (nq_N0 E L1) hx1) gl_X8_rule rfl rfl dsX8_rule (by decide) rfl rfl rfl (Nat.le_of_ble_eq_true rfl) dL_law_367 ?_
  refine nq_aload_n C.1 rfl 2 rfl dL_law_370 ?_
  refine nq_aload_n C.1 rfl 0 rfl dL_law_371 ?_
  refine nq_iload_n C.1 rfl 3 rfl dL_law_372 ?_
  refine nq_iconst C.1 (v := 1) (by decide) dL_law_373 ?_
  refine nq_iadd C.1 dL_law_374 ?_
  refine nq_sld C.1 C.2.2.1 C.2.2.2.1 hbA (nq_ixc (c := 1) (by omega) C.2.2.2.2.2.2) dL_law_375 ?_
  refine nq_aload_n C.1 rfl 0 rfl dL_law_376 ?_
  refine nq_iload_n C.1 rfl 3 rfl dL_law_377 ?_
  refine nq_iconst C.1 (v := 2) (by decide) dL_law_378 ?_
  refine nq_iadd C.1 dL_law_379 ?_
  refine nq_sld C.1 C.2.2.1 C.2.2.2.1 hbA (nq_ixc (c := 2) (by omega) C.2.2.2.2.2.2) dL_law_380 ?_
  refine nq_law2 (sf := .int r) C.1 C.2.1 C.2.2.2.2.1 C.2.2.2.2.2.1 (tX9_rule (nq_M0 E L2) hm1) gl_X9_rule rfl rfl dsX9_rule (by decide) rfl rfl rfl (Nat.le_of_ble_eq_true rfl) dL_law_381 ?_
  refine nq_icmp_eq C.1 (tgt := 1728) (by decide) dL_law_384 (fun _ => ?_) (fun c => absurd rfl c)
  exact kk Mx1 Mm1 hR1
set_option maxHeartbeats 4000000 in
theorem lc_loss {R : Mem → Mem → Prop} {Y : Cy} {E : Ev} {l : Launch} {b Ln : Nat} {xs : Nat → Int32} {L1 L2 : List Nat} {cs ss i : Nat} {Mx Mm : Mem} (C : nq_LC Y E l b Ln xs L1 L2 cs ss) (hbA : ¬ nq_A E b) (hi : i + 6 ≤ Ln) (hR : R Mx Mm) (hop : ∀ (a0 : Int32) (Mx Mm : Mem), R Mx Mm → ∃ (r : Int32) (Mx1 Mm1 : Mem), fX8_loss a0 Mx = some (r, Mx1) ∧ fX9_loss a0 Mm = some (r, Mm1) ∧ R Mx1 Mm1) (kk : ∀ Mx1 Mm1, R Mx1 Mm1 → nq_LG Y E L1 L2 cs ss 1728 [(0, .ref b), (1, .ref (nq_adL L1 0)), (2, .ref (nq_adL L2 0)), (3, .int (nI i))] [] Mx1 Mm1) : nq_LG Y E L1 L2 cs ss 389 [(0, .ref b), (1, .ref (nq_adL L1 0)), (2, .ref (nq_adL L2 0)), (3, .int (nI i))] [] Mx Mm := by
  obtain ⟨r, Mx1, Mm1, hx1, hm1, hR1⟩ := hop (xs (nI i + 1).toNatClampNeg) Mx Mm hR
  refine nq_aload_n C.1 rfl 1 rfl dL_law_389 ?_
  refine nq_aload_n C.1 rfl 0 rfl dL_law_390 ?_
  refine nq_iload_n C.1 rfl 3 rfl dL_law_391 ?_
  refine nq_iconst C.1 (v := 1) (by decide) dL_law_392 ?_
  refine nq_iadd C.1 dL_law_393 ?_
  refine nq_sld C.1 C.2.2.1 C.2.2.2.1 hbA (nq_ixc (c := 1) (by omega) C.2.2.2.2.2.2) dL_law_394 ?_
  refine nq_law1 (sf := .int r) C.1 C.2.1 C.2.2.2.2.1 C.2.2.2.2.2.1 (tX8_loss (nq_N0 E L1) hx1) gl_X8_loss rfl rfl dsX8_loss (by decide) rfl rfl rfl (Nat.le_of_ble_eq_true rfl) dL_law_395 ?_
  refine nq_aload_n C.1 rfl 2 rfl dL_law_398 ?_
  refine nq_aload_n C.1 rfl 0 rfl dL_law_399 ?_
  refine nq_iload_n C.1 rfl 3 rfl dL_law_400 ?_
  refine nq_iconst C.1 (v := 1) (by decide) dL_law_401 ?_
  refine nq_iadd C.1 dL_law_402 ?_
  refine nq_sld C.1 C.2.2.1 C.2.2.2.1 hbA (nq_ixc (c := 1) (by omega) C.2.2.2.2.2.2) dL_law_403 ?_
  refine nq_law2 (sf := .int r) C.1 C.2.1 C.2.2.2.2.1 C.2.2.2.2.2.1 (tX9_loss (nq_M0 E L2) hm1) gl_X9_loss rfl rfl dsX9_loss (by decide) rfl rfl rfl (Nat.le_of_ble_eq_true rfl) dL_law_404 ?_
  refine nq_icmp_eq C.1 (tgt := 1728) (by decide) dL_law_407 (fun _ => ?_) (fun c => absurd rfl c)
  exact kk Mx1 Mm1 hR1
set_option maxHeartbeats 4000000 in
theorem lc_word {R : Mem → Mem → Prop} {Y : Cy} {E : Ev} {l : Launch} {b Ln : Nat} {xs : Nat → Int32} {L1 L2 : List Nat} {cs ss i : Nat} {Mx Mm : Mem} (C : nq_LC Y E l b Ln xs L1 L2 cs ss) (hbA : ¬ nq_A E b) (hi : i + 6 ≤ Ln) (hR : R Mx Mm) (hop : ∀ (a0 : Int32) (a1 : Int32) (a2 : Int32) (Mx Mm : Mem), R Mx Mm → ∃ (r : Int32) (Mx1 Mm1 : Mem), fX8_word a0 a1 a2 Mx = some (r, Mx1) ∧ fX9_word a0 a1 a2 Mm = some (r, Mm1) ∧ R Mx1 Mm1) (kk : ∀ Mx1 Mm1, R Mx1 Mm1 → nq_LG Y E L1 L2 cs ss 1728 [(0, .ref b), (1, .ref (nq_adL L1 0)), (2, .ref (nq_adL L2 0)), (3, .int (nI i))] [] Mx1 Mm1) : nq_LG Y E L1 L2 cs ss 412 [(0, .ref b), (1, .ref (nq_adL L1 0)), (2, .ref (nq_adL L2 0)), (3, .int (nI i))] [] Mx Mm := by
  obtain ⟨r, Mx1, Mm1, hx1, hm1, hR1⟩ := hop (xs (nI i + 1).toNatClampNeg) (xs (nI i + 2).toNatClampNeg) (xs (nI i + 3).toNatClampNeg) Mx Mm hR
  refine nq_aload_n C.1 rfl 1 rfl dL_law_412 ?_
  refine nq_aload_n C.1 rfl 0 rfl dL_law_413 ?_
  refine nq_iload_n C.1 rfl 3 rfl dL_law_414 ?_
  refine nq_iconst C.1 (v := 1) (by decide) dL_law_415 ?_
  refine nq_iadd C.1 dL_law_416 ?_
  refine nq_sld C.1 C.2.2.1 C.2.2.2.1 hbA (nq_ixc (c := 1) (by omega) C.2.2.2.2.2.2) dL_law_417 ?_
  refine nq_aload_n C.1 rfl 0 rfl dL_law_418 ?_
  refine nq_iload_n C.1 rfl 3 rfl dL_law_419 ?_
  refine nq_iconst C.1 (v := 2) (by decide) dL_law_420 ?_
  refine nq_iadd C.1 dL_law_421 ?_
  refine nq_sld C.1 C.2.2.1 C.2.2.2.1 hbA (nq_ixc (c := 2) (by omega) C.2.2.2.2.2.2) dL_law_422 ?_
  refine nq_aload_n C.1 rfl 0 rfl dL_law_423 ?_
  refine nq_iload_n C.1 rfl 3 rfl dL_law_424 ?_
  refine nq_iconst C.1 (v := 3) (by decide) dL_law_425 ?_
  refine nq_iadd C.1 dL_law_426 ?_
  refine nq_sld C.1 C.2.2.1 C.2.2.2.1 hbA (nq_ixc (c := 3) (by omega) C.2.2.2.2.2.2) dL_law_427 ?_
  refine nq_law1 (sf := .int r) C.1 C.2.1 C.2.2.2.2.1 C.2.2.2.2.2.1 (tX8_word (nq_N0 E L1) hx1) gl_X8_word rfl rfl dsX8_word (by decide) rfl rfl rfl (Nat.le_of_ble_eq_true rfl) dL_law_428 ?_
  refine nq_aload_n C.1 rfl 2 rfl dL_law_431 ?_
  refine nq_aload_n C.1 rfl 0 rfl dL_law_432 ?_
  refine nq_iload_n C.1 rfl 3 rfl dL_law_433 ?_
  refine nq_iconst C.1 (v := 1) (by decide) dL_law_434 ?_
  refine nq_iadd C.1 dL_law_435 ?_
  refine nq_sld C.1 C.2.2.1 C.2.2.2.1 hbA (nq_ixc (c := 1) (by omega) C.2.2.2.2.2.2) dL_law_436 ?_
  refine nq_aload_n C.1 rfl 0 rfl dL_law_437 ?_
  refine nq_iload_n C.1 rfl 3 rfl dL_law_438 ?_
  refine nq_iconst C.1 (v := 2) (by decide) dL_law_439 ?_
  refine nq_iadd C.1 dL_law_440 ?_
  refine nq_sld C.1 C.2.2.1 C.2.2.2.1 hbA (nq_ixc (c := 2) (by omega) C.2.2.2.2.2.2) dL_law_441 ?_
  refine nq_aload_n C.1 rfl 0 rfl dL_law_442 ?_
  refine nq_iload_n C.1 rfl 3 rfl dL_law_443 ?_
  refine nq_iconst C.1 (v := 3) (by decide) dL_law_444 ?_
  refine nq_iadd C.1 dL_law_445 ?_
  refine nq_sld C.1 C.2.2.1 C.2.2.2.1 hbA (nq_ixc (c := 3) (by omega) C.2.2.2.2.2.2) dL_law_446 ?_
  refine nq_law2 (sf := .int r) C.1 C.2.1 C.2.2.2.2.1 C.2.2.2.2.2.1 (tX9_word (nq_M0 E L2) hm1) gl_X9_word rfl rfl dsX9_word (by decide) rfl rfl rfl (Nat.le_of_ble_eq_true rfl) dL_law_447 ?_
  refine nq_icmp_eq C.1 (tgt := 1728) (by decide) dL_law_450 (fun _ => ?_) (fun c => absurd rfl c)
  exact kk Mx1 Mm1 hR1
set_option maxHeartbeats 4000000 in
theorem lc_ofWord {R : Mem → Mem → Prop} {Y : Cy} {E : Ev} {l : Launch} {b Ln : Nat} {xs : Nat → Int32} {L1 L2 : List Nat} {cs ss i : Nat} {Mx Mm : Mem} (C : nq_LC Y E l b Ln xs L1 L2 cs ss) (hbA : ¬ nq_A E b) (hi : i + 6 ≤ Ln) (hR : R Mx Mm) (hop : ∀ (a0 : Int32) (a1 : Int32) (Mx Mm : Mem), R Mx Mm → ∃ (r : Int32) (Mx1 Mm1 : Mem), fX8_ofWord a0 a1 Mx = some (r, Mx1) ∧ fX9_ofWord a0 a1 Mm = some (r, Mm1) ∧ R Mx1 Mm1) (kk : ∀ Mx1 Mm1, R Mx1 Mm1 → nq_LG Y E L1 L2 cs ss 1728 [(0, .ref b), (1, .ref (nq_adL L1 0)), (2, .ref (nq_adL L2 0)), (3, .int (nI i))] [] Mx1 Mm1) : nq_LG Y E L1 L2 cs ss 455 [(0, .ref b), (1, .ref (nq_adL L1 0)), (2, .ref (nq_adL L2 0)), (3, .int (nI i))] [] Mx Mm := by
  obtain ⟨r, Mx1, Mm1, hx1, hm1, hR1⟩ := hop (xs (nI i + 1).toNatClampNeg) (xs (nI i + 2).toNatClampNeg) Mx Mm hR
  refine nq_aload_n C.1 rfl 1 rfl dL_law_455 ?_
  refine nq_aload_n C.1 rfl 0 rfl dL_law_456 ?_
  refine nq_iload_n C.1 rfl 3 rfl dL_law_457 ?_
  refine nq_iconst C.1 (v := 1) (by decide) dL_law_458 ?_
  refine nq_iadd C.1 dL_law_459 ?_
  refine nq_sld C.1 C.2.2.1 C.2.2.2.1 hbA (nq_ixc (c := 1) (by omega) C.2.2.2.2.2.2) dL_law_460 ?_
  refine nq_aload_n C.1 rfl 0 rfl dL_law_461 ?_
  refine nq_iload_n C.1 rfl 3 rfl dL_law_462 ?_
  refine nq_iconst C.1 (v := 2) (by decide) dL_law_463 ?_
  refine nq_iadd C.1 dL_law_464 ?_
  refine nq_sld C.1 C.2.2.1 C.2.2.2.1 hbA (nq_ixc (c := 2) (by omega) C.2.2.2.2.2.2) dL_law_465 ?_
  refine nq_law1 (sf := .int r) C.1 C.2.1 C.2.2.2.2.1 C.2.2.2.2.2.1 (tX8_ofWord (nq_N0 E L1) hx1) gl_X8_ofWord rfl rfl dsX8_ofWord (by decide) rfl rfl rfl (Nat.le_of_ble_eq_true rfl) dL_law_466 ?_
  refine nq_aload_n C.1 rfl 2 rfl dL_law_469 ?_
  refine nq_aload_n C.1 rfl 0 rfl dL_law_470 ?_
  refine nq_iload_n C.1 rfl 3 rfl dL_law_471 ?_
  refine nq_iconst C.1 (v := 1) (by decide) dL_law_472 ?_
  refine nq_iadd C.1 dL_law_473 ?_
  refine nq_sld C.1 C.2.2.1 C.2.2.2.1 hbA (nq_ixc (c := 1) (by omega) C.2.2.2.2.2.2) dL_law_474 ?_
  refine nq_aload_n C.1 rfl 0 rfl dL_law_475 ?_
  refine nq_iload_n C.1 rfl 3 rfl dL_law_476 ?_
  refine nq_iconst C.1 (v := 2) (by decide) dL_law_477 ?_
  refine nq_iadd C.1 dL_law_478 ?_
  refine nq_sld C.1 C.2.2.1 C.2.2.2.1 hbA (nq_ixc (c := 2) (by omega) C.2.2.2.2.2.2) dL_law_479 ?_
  refine nq_law2 (sf := .int r) C.1 C.2.1 C.2.2.2.2.1 C.2.2.2.2.2.1 (tX9_ofWord (nq_M0 E L2) hm1) gl_X9_ofWord rfl rfl dsX9_ofWord (by decide) rfl rfl rfl (Nat.le_of_ble_eq_true rfl) dL_law_480 ?_
  refine nq_icmp_eq C.1 (tgt := 1728) (by decide) dL_law_483 (fun _ => ?_) (fun c => absurd rfl c)
  exact kk Mx1 Mm1 hR1
set_option maxHeartbeats 4000000 in
theorem lc_lose {R : Mem → Mem → Prop} {Y : Cy} {E : Ev} {l : Launch} {b Ln : Nat} {xs : Nat → Int32} {L1 L2 : List Nat} {cs ss i : Nat} {Mx Mm : Mem} (C : nq_LC Y E l b Ln xs L1 L2 cs ss) (hbA : ¬ nq_A E b) (hi : i + 6 ≤ Ln) (hR : R Mx Mm) (hop : ∀ (a0 : Int32) (Mx Mm : Mem), R Mx Mm → ∃ (r : Int32) (Mx1 Mm1 : Mem), fX8_lose a0 Mx = some (r, Mx1) ∧ fX9_lose a0 Mm = some (r, Mm1) ∧ R Mx1 Mm1) (kk : ∀ Mx1 Mm1, R Mx1 Mm1 → nq_LG Y E L1 L2 cs ss 1728 [(0, .ref b), (1, .ref (nq_adL L1 0)), (2, .ref (nq_adL L2 0)), (3, .int (nI i))] [] Mx1 Mm1) : nq_LG Y E L1 L2 cs ss 488 [(0, .ref b), (1, .ref (nq_adL L1 0)), (2, .ref (nq_adL L2 0)), (3, .int (nI i))] [] Mx Mm := by
  obtain ⟨r, Mx1, Mm1, hx1, hm1, hR1⟩ := hop (xs (nI i + 1).toNatClampNeg) Mx Mm hR
  refine nq_aload_n C.1 rfl 1 rfl dL_law_488 ?_
  refine nq_aload_n C.1 rfl 0 rfl dL_law_489 ?_
  refine nq_iload_n C.1 rfl 3 rfl dL_law_490 ?_
  refine nq_iconst C.1 (v := 1) (by decide) dL_law_491 ?_
  refine nq_iadd C.1 dL_law_492 ?_
  refine nq_sld C.1 C.2.2.1 C.2.2.2.1 hbA (nq_ixc (c := 1) (by omega) C.2.2.2.2.2.2) dL_law_493 ?_
  refine nq_law1 (sf := .int r) C.1 C.2.1 C.2.2.2.2.1 C.2.2.2.2.2.1 (tX8_lose (nq_N0 E L1) hx1) gl_X8_lose rfl rfl dsX8_lose (by decide) rfl rfl rfl (Nat.le_of_ble_eq_true rfl) dL_law_494 ?_
  refine nq_aload_n C.1 rfl 2 rfl dL_law_497 ?_
  refine nq_aload_n C.1 rfl 0 rfl dL_law_498 ?_
  refine nq_iload_n C.1 rfl 3 rfl dL_law_499 ?_
  refine nq_iconst C.1 (v := 1) (by decide) dL_law_500 ?_
  refine nq_iadd C.1 dL_law_501 ?_
  refine nq_sld C.1 C.2.2.1 C.2.2.2.1 hbA (nq_ixc (c := 1) (by omega) C.2.2.2.2.2.2) dL_law_502 ?_
  refine nq_law2 (sf := .int r) C.1 C.2.1 C.2.2.2.2.1 C.2.2.2.2.2.1 (tX9_lose (nq_M0 E L2) hm1) gl_X9_lose rfl rfl dsX9_lose (by decide) rfl rfl rfl (Nat.le_of_ble_eq_true rfl) dL_law_503 ?_
  refine nq_icmp_eq C.1 (tgt := 1728) (by decide) dL_law_506 (fun _ => ?_) (fun c => absurd rfl c)
  exact kk Mx1 Mm1 hR1
set_option maxHeartbeats 4000000 in
theorem lc_as {R : Mem → Mem → Prop} {Y : Cy} {E : Ev} {l : Launch} {b Ln : Nat} {xs : Nat → Int32} {L1 L2 : List Nat} {cs ss i : Nat} {Mx Mm : Mem} (C : nq_LC Y E l b Ln xs L1 L2 cs ss) (hbA : ¬ nq_A E b) (hi : i + 6 ≤ Ln) (hR : R Mx Mm) (hop : ∀ (a0 : Int32) (a1 : Int32) (Mx Mm : Mem), R Mx Mm → ∃ (r : Int32) (Mx1 Mm1 : Mem), fX8_as a0 a1 Mx = some (r, Mx1) ∧ fX9_as a0 a1 Mm = some (r, Mm1) ∧ R Mx1 Mm1) (kk : ∀ Mx1 Mm1, R Mx1 Mm1 → nq_LG Y E L1 L2 cs ss 1728 [(0, .ref b), (1, .ref (nq_adL L1 0)), (2, .ref (nq_adL L2 0)), (3, .int (nI i))] [] Mx1 Mm1) : nq_LG Y E L1 L2 cs ss 511 [(0, .ref b), (1, .ref (nq_adL L1 0)), (2, .ref (nq_adL L2 0)), (3, .int (nI i))] [] Mx Mm := by
  obtain ⟨r, Mx1, Mm1, hx1, hm1, hR1⟩ := hop (xs (nI i + 1).toNatClampNeg) (xs (nI i + 2).toNatClampNeg) Mx Mm hR
  refine nq_aload_n C.1 rfl 1 rfl dL_law_511 ?_
  refine nq_aload_n C.1 rfl 0 rfl dL_law_512 ?_
  refine nq_iload_n C.1 rfl 3 rfl dL_law_513 ?_
  refine nq_iconst C.1 (v := 1) (by decide) dL_law_514 ?_
  refine nq_iadd C.1 dL_law_515 ?_
  refine nq_sld C.1 C.2.2.1 C.2.2.2.1 hbA (nq_ixc (c := 1) (by omega) C.2.2.2.2.2.2) dL_law_516 ?_
  refine nq_aload_n C.1 rfl 0 rfl dL_law_517 ?_
  refine nq_iload_n C.1 rfl 3 rfl dL_law_518 ?_
  refine nq_iconst C.1 (v := 2) (by decide) dL_law_519 ?_
  refine nq_iadd C.1 dL_law_520 ?_
  refine nq_sld C.1 C.2.2.1 C.2.2.2.1 hbA (nq_ixc (c := 2) (by omega) C.2.2.2.2.2.2) dL_law_521 ?_
  refine nq_law1 (sf := .int r) C.1 C.2.1 C.2.2.2.2.1 C.2.2.2.2.2.1 (tX8_as (nq_N0 E L1) hx1) gl_X8_as rfl rfl dsX8_as (by decide) rfl rfl rfl (Nat.le_of_ble_eq_true rfl) dL_law_522 ?_
  refine nq_aload_n C.1 rfl 2 rfl dL_law_525 ?_
  refine nq_aload_n C.1 rfl 0 rfl dL_law_526 ?_
  refine nq_iload_n C.1 rfl 3 rfl dL_law_527 ?_
  refine nq_iconst C.1 (v := 1) (by decide) dL_law_528 ?_
  refine nq_iadd C.1 dL_law_529 ?_
  refine nq_sld C.1 C.2.2.1 C.2.2.2.1 hbA (nq_ixc (c := 1) (by omega) C.2.2.2.2.2.2) dL_law_530 ?_
  refine nq_aload_n C.1 rfl 0 rfl dL_law_531 ?_
  refine nq_iload_n C.1 rfl 3 rfl dL_law_532 ?_
  refine nq_iconst C.1 (v := 2) (by decide) dL_law_533 ?_
  refine nq_iadd C.1 dL_law_534 ?_
  refine nq_sld C.1 C.2.2.1 C.2.2.2.1 hbA (nq_ixc (c := 2) (by omega) C.2.2.2.2.2.2) dL_law_535 ?_
  refine nq_law2 (sf := .int r) C.1 C.2.1 C.2.2.2.2.1 C.2.2.2.2.2.1 (tX9_as (nq_M0 E L2) hm1) gl_X9_as rfl rfl dsX9_as (by decide) rfl rfl rfl (Nat.le_of_ble_eq_true rfl) dL_law_536 ?_
  refine nq_icmp_eq C.1 (tgt := 1728) (by decide) dL_law_539 (fun _ => ?_) (fun c => absurd rfl c)
  exact kk Mx1 Mm1 hR1
set_option maxHeartbeats 4000000 in
theorem lc_words {R : Mem → Mem → Prop} {Y : Cy} {E : Ev} {l : Launch} {b Ln : Nat} {xs : Nat → Int32} {L1 L2 : List Nat} {cs ss i : Nat} {Mx Mm : Mem} (C : nq_LC Y E l b Ln xs L1 L2 cs ss) (hbA : ¬ nq_A E b) (hi : i + 6 ≤ Ln) (hR : R Mx Mm) (hop : ∀ (a0 : Int32) (Mx Mm : Mem), R Mx Mm → ∃ (r : Int32) (Mx1 Mm1 : Mem), fX8_words a0 Mx = some (r, Mx1) ∧ fX9_words a0 Mm = some (r, Mm1) ∧ R Mx1 Mm1) (kk : ∀ Mx1 Mm1, R Mx1 Mm1 → nq_LG Y E L1 L2 cs ss 1728 [(0, .ref b), (1, .ref (nq_adL L1 0)), (2, .ref (nq_adL L2 0)), (3, .int (nI i))] [] Mx1 Mm1) : nq_LG Y E L1 L2 cs ss 544 [(0, .ref b), (1, .ref (nq_adL L1 0)), (2, .ref (nq_adL L2 0)), (3, .int (nI i))] [] Mx Mm := by
  obtain ⟨r, Mx1, Mm1, hx1, hm1, hR1⟩ := hop (xs (nI i + 1).toNatClampNeg) Mx Mm hR
  refine nq_aload_n C.1 rfl 1 rfl dL_law_544 ?_
  refine nq_aload_n C.1 rfl 0 rfl dL_law_545 ?_
  refine nq_iload_n C.1 rfl 3 rfl dL_law_546 ?_
  refine nq_iconst C.1 (v := 1) (by decide) dL_law_547 ?_
  refine nq_iadd C.1 dL_law_548 ?_
  refine nq_sld C.1 C.2.2.1 C.2.2.2.1 hbA (nq_ixc (c := 1) (by omega) C.2.2.2.2.2.2) dL_law_549 ?_
  refine nq_law1 (sf := .int r) C.1 C.2.1 C.2.2.2.2.1 C.2.2.2.2.2.1 (tX8_words (nq_N0 E L1) hx1) gl_X8_words rfl rfl dsX8_words (by decide) rfl rfl rfl (Nat.le_of_ble_eq_true rfl) dL_law_550 ?_
  refine nq_aload_n C.1 rfl 2 rfl dL_law_553 ?_
  refine nq_aload_n C.1 rfl 0 rfl dL_law_554 ?_
  refine nq_iload_n C.1 rfl 3 rfl dL_law_555 ?_
  refine nq_iconst C.1 (v := 1) (by decide) dL_law_556 ?_
  refine nq_iadd C.1 dL_law_557 ?_
  refine nq_sld C.1 C.2.2.1 C.2.2.2.1 hbA (nq_ixc (c := 1) (by omega) C.2.2.2.2.2.2) dL_law_558 ?_
  refine nq_law2 (sf := .int r) C.1 C.2.1 C.2.2.2.2.1 C.2.2.2.2.2.1 (tX9_words (nq_M0 E L2) hm1) gl_X9_words rfl rfl dsX9_words (by decide) rfl rfl rfl (Nat.le_of_ble_eq_true rfl) dL_law_559 ?_
  refine nq_icmp_eq C.1 (tgt := 1728) (by decide) dL_law_562 (fun _ => ?_) (fun c => absurd rfl c)
  exact kk Mx1 Mm1 hR1
set_option maxHeartbeats 4000000 in
theorem lc_came {R : Mem → Mem → Prop} {Y : Cy} {E : Ev} {l : Launch} {b Ln : Nat} {xs : Nat → Int32} {L1 L2 : List Nat} {cs ss i : Nat} {Mx Mm : Mem} (C : nq_LC Y E l b Ln xs L1 L2 cs ss) (hbA : ¬ nq_A E b) (hi : i + 6 ≤ Ln) (hR : R Mx Mm) (hop : ∀ (a0 : Int32) (a1 : Int32) (a2 : Int32) (Mx Mm : Mem), R Mx Mm → ∃ (r : Int32) (Mx1 Mm1 : Mem), fX8_came a0 a1 a2 Mx = some (r, Mx1) ∧ fX9_came a0 a1 a2 Mm = some (r, Mm1) ∧ R Mx1 Mm1) (kk : ∀ Mx1 Mm1, R Mx1 Mm1 → nq_LG Y E L1 L2 cs ss 1728 [(0, .ref b), (1, .ref (nq_adL L1 0)), (2, .ref (nq_adL L2 0)), (3, .int (nI i))] [] Mx1 Mm1) : nq_LG Y E L1 L2 cs ss 567 [(0, .ref b), (1, .ref (nq_adL L1 0)), (2, .ref (nq_adL L2 0)), (3, .int (nI i))] [] Mx Mm := by
  obtain ⟨r, Mx1, Mm1, hx1, hm1, hR1⟩ := hop (xs (nI i + 1).toNatClampNeg) (xs (nI i + 2).toNatClampNeg) (xs (nI i + 3).toNatClampNeg) Mx Mm hR
  refine nq_aload_n C.1 rfl 1 rfl dL_law_567 ?_
  refine nq_aload_n C.1 rfl 0 rfl dL_law_568 ?_
  refine nq_iload_n C.1 rfl 3 rfl dL_law_569 ?_
  refine nq_iconst C.1 (v := 1) (by decide) dL_law_570 ?_
  refine nq_iadd C.1 dL_law_571 ?_
  refine nq_sld C.1 C.2.2.1 C.2.2.2.1 hbA (nq_ixc (c := 1) (by omega) C.2.2.2.2.2.2) dL_law_572 ?_
  refine nq_aload_n C.1 rfl 0 rfl dL_law_573 ?_
  refine nq_iload_n C.1 rfl 3 rfl dL_law_574 ?_
  refine nq_iconst C.1 (v := 2) (by decide) dL_law_575 ?_
  refine nq_iadd C.1 dL_law_576 ?_
  refine nq_sld C.1 C.2.2.1 C.2.2.2.1 hbA (nq_ixc (c := 2) (by omega) C.2.2.2.2.2.2) dL_law_577 ?_
  refine nq_aload_n C.1 rfl 0 rfl dL_law_578 ?_
  refine nq_iload_n C.1 rfl 3 rfl dL_law_579 ?_
  refine nq_iconst C.1 (v := 3) (by decide) dL_law_580 ?_
  refine nq_iadd C.1 dL_law_581 ?_
  refine nq_sld C.1 C.2.2.1 C.2.2.2.1 hbA (nq_ixc (c := 3) (by omega) C.2.2.2.2.2.2) dL_law_582 ?_
  refine nq_law1 (sf := .int r) C.1 C.2.1 C.2.2.2.2.1 C.2.2.2.2.2.1 (tX8_came (nq_N0 E L1) hx1) gl_X8_came rfl rfl dsX8_came (by decide) rfl rfl rfl (Nat.le_of_ble_eq_true rfl) dL_law_583 ?_
  refine nq_aload_n C.1 rfl 2 rfl dL_law_586 ?_
  refine nq_aload_n C.1 rfl 0 rfl dL_law_587 ?_
  refine nq_iload_n C.1 rfl 3 rfl dL_law_588 ?_
  refine nq_iconst C.1 (v := 1) (by decide) dL_law_589 ?_
  refine nq_iadd C.1 dL_law_590 ?_
  refine nq_sld C.1 C.2.2.1 C.2.2.2.1 hbA (nq_ixc (c := 1) (by omega) C.2.2.2.2.2.2) dL_law_591 ?_
  refine nq_aload_n C.1 rfl 0 rfl dL_law_592 ?_
  refine nq_iload_n C.1 rfl 3 rfl dL_law_593 ?_
  refine nq_iconst C.1 (v := 2) (by decide) dL_law_594 ?_
  refine nq_iadd C.1 dL_law_595 ?_
  refine nq_sld C.1 C.2.2.1 C.2.2.2.1 hbA (nq_ixc (c := 2) (by omega) C.2.2.2.2.2.2) dL_law_596 ?_
  refine nq_aload_n C.1 rfl 0 rfl dL_law_597 ?_
  refine nq_iload_n C.1 rfl 3 rfl dL_law_598 ?_
  refine nq_iconst C.1 (v := 3) (by decide) dL_law_599 ?_
  refine nq_iadd C.1 dL_law_600 ?_
  refine nq_sld C.1 C.2.2.1 C.2.2.2.1 hbA (nq_ixc (c := 3) (by omega) C.2.2.2.2.2.2) dL_law_601 ?_
  refine nq_law2 (sf := .int r) C.1 C.2.1 C.2.2.2.2.1 C.2.2.2.2.2.1 (tX9_came (nq_M0 E L2) hm1) gl_X9_came rfl rfl dsX9_came (by decide) rfl rfl rfl (Nat.le_of_ble_eq_true rfl) dL_law_602 ?_
  refine nq_icmp_eq C.1 (tgt := 1728) (by decide) dL_law_605 (fun _ => ?_) (fun c => absurd rfl c)
  exact kk Mx1 Mm1 hR1
set_option maxHeartbeats 4000000 in
theorem lc_stance {R : Mem → Mem → Prop} {Y : Cy} {E : Ev} {l : Launch} {b Ln : Nat} {xs : Nat → Int32} {L1 L2 : List Nat} {cs ss i : Nat} {Mx Mm : Mem} (C : nq_LC Y E l b Ln xs L1 L2 cs ss) (hbA : ¬ nq_A E b) (hi : i + 6 ≤ Ln) (hR : R Mx Mm) (hop : ∀ (a0 : Int32) (a1 : Int32) (a2 : Int32) (Mx Mm : Mem), R Mx Mm → ∃ (r : Int32) (Mx1 Mm1 : Mem), fX8_stance a0 a1 a2 Mx = some (r, Mx1) ∧ fX9_stance a0 a1 a2 Mm = some (r, Mm1) ∧ R Mx1 Mm1) (kk : ∀ Mx1 Mm1, R Mx1 Mm1 → nq_LG Y E L1 L2 cs ss 1728 [(0, .ref b), (1, .ref (nq_adL L1 0)), (2, .ref (nq_adL L2 0)), (3, .int (nI i))] [] Mx1 Mm1) : nq_LG Y E L1 L2 cs ss 610 [(0, .ref b), (1, .ref (nq_adL L1 0)), (2, .ref (nq_adL L2 0)), (3, .int (nI i))] [] Mx Mm := by
  obtain ⟨r, Mx1, Mm1, hx1, hm1, hR1⟩ := hop (xs (nI i + 1).toNatClampNeg) (xs (nI i + 2).toNatClampNeg) (xs (nI i + 3).toNatClampNeg) Mx Mm hR
  refine nq_aload_n C.1 rfl 1 rfl dL_law_610 ?_
  refine nq_aload_n C.1 rfl 0 rfl dL_law_611 ?_
  refine nq_iload_n C.1 rfl 3 rfl dL_law_612 ?_
  refine nq_iconst C.1 (v := 1) (by decide) dL_law_613 ?_
  refine nq_iadd C.1 dL_law_614 ?_
  refine nq_sld C.1 C.2.2.1 C.2.2.2.1 hbA (nq_ixc (c := 1) (by omega) C.2.2.2.2.2.2) dL_law_615 ?_
  refine nq_aload_n C.1 rfl 0 rfl dL_law_616 ?_
  refine nq_iload_n C.1 rfl 3 rfl dL_law_617 ?_
  refine nq_iconst C.1 (v := 2) (by decide) dL_law_618 ?_
  refine nq_iadd C.1 dL_law_619 ?_
  refine nq_sld C.1 C.2.2.1 C.2.2.2.1 hbA (nq_ixc (c := 2) (by omega) C.2.2.2.2.2.2) dL_law_620 ?_
  refine nq_aload_n C.1 rfl 0 rfl dL_law_621 ?_
  refine nq_iload_n C.1 rfl 3 rfl dL_law_622 ?_
  refine nq_iconst C.1 (v := 3) (by decide) dL_law_623 ?_
  refine nq_iadd C.1 dL_law_624 ?_
  refine nq_sld C.1 C.2.2.1 C.2.2.2.1 hbA (nq_ixc (c := 3) (by omega) C.2.2.2.2.2.2) dL_law_625 ?_
  refine nq_law1 (sf := .int r) C.1 C.2.1 C.2.2.2.2.1 C.2.2.2.2.2.1 (tX8_stance (nq_N0 E L1) hx1) gl_X8_stance rfl rfl dsX8_stance (by decide) rfl rfl rfl (Nat.le_of_ble_eq_true rfl) dL_law_626 ?_
  refine nq_aload_n C.1 rfl 2 rfl dL_law_629 ?_
  refine nq_aload_n C.1 rfl 0 rfl dL_law_630 ?_
  refine nq_iload_n C.1 rfl 3 rfl dL_law_631 ?_
  refine nq_iconst C.1 (v := 1) (by decide) dL_law_632 ?_
  refine nq_iadd C.1 dL_law_633 ?_
  refine nq_sld C.1 C.2.2.1 C.2.2.2.1 hbA (nq_ixc (c := 1) (by omega) C.2.2.2.2.2.2) dL_law_634 ?_
  refine nq_aload_n C.1 rfl 0 rfl dL_law_635 ?_
  refine nq_iload_n C.1 rfl 3 rfl dL_law_636 ?_
  refine nq_iconst C.1 (v := 2) (by decide) dL_law_637 ?_
  refine nq_iadd C.1 dL_law_638 ?_
  refine nq_sld C.1 C.2.2.1 C.2.2.2.1 hbA (nq_ixc (c := 2) (by omega) C.2.2.2.2.2.2) dL_law_639 ?_
  refine nq_aload_n C.1 rfl 0 rfl dL_law_640 ?_
  refine nq_iload_n C.1 rfl 3 rfl dL_law_641 ?_
  refine nq_iconst C.1 (v := 3) (by decide) dL_law_642 ?_
  refine nq_iadd C.1 dL_law_643 ?_
  refine nq_sld C.1 C.2.2.1 C.2.2.2.1 hbA (nq_ixc (c := 3) (by omega) C.2.2.2.2.2.2) dL_law_644 ?_
  refine nq_law2 (sf := .int r) C.1 C.2.1 C.2.2.2.2.1 C.2.2.2.2.2.1 (tX9_stance (nq_M0 E L2) hm1) gl_X9_stance rfl rfl dsX9_stance (by decide) rfl rfl rfl (Nat.le_of_ble_eq_true rfl) dL_law_645 ?_
  refine nq_icmp_eq C.1 (tgt := 1728) (by decide) dL_law_648 (fun _ => ?_) (fun c => absurd rfl c)
  exact kk Mx1 Mm1 hR1
set_option maxHeartbeats 4000000 in
theorem lc_made {R : Mem → Mem → Prop} {Y : Cy} {E : Ev} {l : Launch} {b Ln : Nat} {xs : Nat → Int32} {L1 L2 : List Nat} {cs ss i : Nat} {Mx Mm : Mem} (C : nq_LC Y E l b Ln xs L1 L2 cs ss) (hbA : ¬ nq_A E b) (hi : i + 6 ≤ Ln) (hR : R Mx Mm) (hop : ∀ (a0 : Int32) (a1 : Int32) (a2 : Int32) (Mx Mm : Mem), R Mx Mm → ∃ (r : Int32) (Mx1 Mm1 : Mem), fX8_made a0 a1 a2 Mx = some (r, Mx1) ∧ fX9_made a0 a1 a2 Mm = some (r, Mm1) ∧ R Mx1 Mm1) (kk : ∀ Mx1 Mm1, R Mx1 Mm1 → nq_LG Y E L1 L2 cs ss 1728 [(0, .ref b), (1, .ref (nq_adL L1 0)), (2, .ref (nq_adL L2 0)), (3, .int (nI i))] [] Mx1 Mm1) : nq_LG Y E L1 L2 cs ss 653 [(0, .ref b), (1, .ref (nq_adL L1 0)), (2, .ref (nq_adL L2 0)), (3, .int (nI i))] [] Mx Mm := by
  obtain ⟨r, Mx1, Mm1, hx1, hm1, hR1⟩ := hop (xs (nI i + 1).toNatClampNeg) (xs (nI i + 2).toNatClampNeg) (xs (nI i + 3).toNatClampNeg) Mx Mm hR
  refine nq_aload_n C.1 rfl 1 rfl dL_law_653 ?_
  refine nq_aload_n C.1 rfl 0 rfl dL_law_654 ?_
  refine nq_iload_n C.1 rfl 3 rfl dL_law_655 ?_
  refine nq_iconst C.1 (v := 1) (by decide) dL_law_656 ?_
  refine nq_iadd C.1 dL_law_657 ?_
  refine nq_sld C.1 C.2.2.1 C.2.2.2.1 hbA (nq_ixc (c := 1) (by omega) C.2.2.2.2.2.2) dL_law_658 ?_
  refine nq_aload_n C.1 rfl 0 rfl dL_law_659 ?_
  refine nq_iload_n C.1 rfl 3 rfl dL_law_660 ?_
  refine nq_iconst C.1 (v := 2) (by decide) dL_law_661 ?_
  refine nq_iadd C.1 dL_law_662 ?_
  refine nq_sld C.1 C.2.2.1 C.2.2.2.1 hbA (nq_ixc (c := 2) (by omega) C.2.2.2.2.2.2) dL_law_663 ?_
  refine nq_aload_n C.1 rfl 0 rfl dL_law_664 ?_
  refine nq_iload_n C.1 rfl 3 rfl dL_law_665 ?_
  refine nq_iconst C.1 (v := 3) (by decide) dL_law_666 ?_
  refine nq_iadd C.1 dL_law_667 ?_
  refine nq_sld C.1 C.2.2.1 C.2.2.2.1 hbA (nq_ixc (c := 3) (by omega) C.2.2.2.2.2.2) dL_law_668 ?_
  refine nq_law1 (sf := .int r) C.1 C.2.1 C.2.2.2.2.1 C.2.2.2.2.2.1 (tX8_made (nq_N0 E L1) hx1) gl_X8_made rfl rfl dsX8_made (by decide) rfl rfl rfl (Nat.le_of_ble_eq_true rfl) dL_law_669 ?_
  refine nq_aload_n C.1 rfl 2 rfl dL_law_672 ?_
  refine nq_aload_n C.1 rfl 0 rfl dL_law_673 ?_
  refine nq_iload_n C.1 rfl 3 rfl dL_law_674 ?_
  refine nq_iconst C.1 (v := 1) (by decide) dL_law_675 ?_
  refine nq_iadd C.1 dL_law_676 ?_
  refine nq_sld C.1 C.2.2.1 C.2.2.2.1 hbA (nq_ixc (c := 1) (by omega) C.2.2.2.2.2.2) dL_law_677 ?_
  refine nq_aload_n C.1 rfl 0 rfl dL_law_678 ?_
  refine nq_iload_n C.1 rfl 3 rfl dL_law_679 ?_
  refine nq_iconst C.1 (v := 2) (by decide) dL_law_680 ?_
  refine nq_iadd C.1 dL_law_681 ?_
  refine nq_sld C.1 C.2.2.1 C.2.2.2.1 hbA (nq_ixc (c := 2) (by omega) C.2.2.2.2.2.2) dL_law_682 ?_
  refine nq_aload_n C.1 rfl 0 rfl dL_law_683 ?_
  refine nq_iload_n C.1 rfl 3 rfl dL_law_684 ?_
  refine nq_iconst C.1 (v := 3) (by decide) dL_law_685 ?_
  refine nq_iadd C.1 dL_law_686 ?_
  refine nq_sld C.1 C.2.2.1 C.2.2.2.1 hbA (nq_ixc (c := 3) (by omega) C.2.2.2.2.2.2) dL_law_687 ?_
  refine nq_law2 (sf := .int r) C.1 C.2.1 C.2.2.2.2.1 C.2.2.2.2.2.1 (tX9_made (nq_M0 E L2) hm1) gl_X9_made rfl rfl dsX9_made (by decide) rfl rfl rfl (Nat.le_of_ble_eq_true rfl) dL_law_688 ?_
  refine nq_icmp_eq C.1 (tgt := 1728) (by decide) dL_law_691 (fun _ => ?_) (fun c => absurd rfl c)
  exact kk Mx1 Mm1 hR1
set_option maxHeartbeats 4000000 in
theorem lc_knows {R : Mem → Mem → Prop} {Y : Cy} {E : Ev} {l : Launch} {b Ln : Nat} {xs : Nat → Int32} {L1 L2 : List Nat} {cs ss i : Nat} {Mx Mm : Mem} (C : nq_LC Y E l b Ln xs L1 L2 cs ss) (hbA : ¬ nq_A E b) (hi : i + 6 ≤ Ln) (hR : R Mx Mm) (hop : ∀ (a0 : Int32) (a1 : Int32) (a2 : Int32) (Mx Mm : Mem), R Mx Mm → ∃ (r : Int32) (Mx1 Mm1 : Mem), fX8_knows a0 a1 a2 Mx = some (r, Mx1) ∧ fX9_knows a0 a1 a2 Mm = some (r, Mm1) ∧ R Mx1 Mm1) (kk : ∀ Mx1 Mm1, R Mx1 Mm1 → nq_LG Y E L1 L2 cs ss 1728 [(0, .ref b), (1, .ref (nq_adL L1 0)), (2, .ref (nq_adL L2 0)), (3, .int (nI i))] [] Mx1 Mm1) : nq_LG Y E L1 L2 cs ss 696 [(0, .ref b), (1, .ref (nq_adL L1 0)), (2, .ref (nq_adL L2 0)), (3, .int (nI i))] [] Mx Mm := by
  obtain ⟨r, Mx1, Mm1, hx1, hm1, hR1⟩ := hop (xs (nI i + 1).toNatClampNeg) (xs (nI i + 2).toNatClampNeg) (xs (nI i + 3).toNatClampNeg) Mx Mm hR
  refine nq_aload_n C.1 rfl 1 rfl dL_law_696 ?_
  refine nq_aload_n C.1 rfl 0 rfl dL_law_697 ?_
  refine nq_iload_n C.1 rfl 3 rfl dL_law_698 ?_
  refine nq_iconst C.1 (v := 1) (by decide) dL_law_699 ?_
  refine nq_iadd C.1 dL_law_700 ?_
  refine nq_sld C.1 C.2.2.1 C.2.2.2.1 hbA (nq_ixc (c := 1) (by omega) C.2.2.2.2.2.2) dL_law_701 ?_
  refine nq_aload_n C.1 rfl 0 rfl dL_law_702 ?_
  refine nq_iload_n C.1 rfl 3 rfl dL_law_703 ?_
  refine nq_iconst C.1 (v := 2) (by decide) dL_law_704 ?_
  refine nq_iadd C.1 dL_law_705 ?_
  refine nq_sld C.1 C.2.2.1 C.2.2.2.1 hbA (nq_ixc (c := 2) (by omega) C.2.2.2.2.2.2) dL_law_706 ?_
  refine nq_aload_n C.1 rfl 0 rfl dL_law_707 ?_
  refine nq_iload_n C.1 rfl 3 rfl dL_law_708 ?_
  refine nq_iconst C.1 (v := 3) (by decide) dL_law_709 ?_
  refine nq_iadd C.1 dL_law_710 ?_
  refine nq_sld C.1 C.2.2.1 C.2.2.2.1 hbA (nq_ixc (c := 3) (by omega) C.2.2.2.2.2.2) dL_law_711 ?_
  refine nq_law1 (sf := .int r) C.1 C.2.1 C.2.2.2.2.1 C.2.2.2.2.2.1 (tX8_knows (nq_N0 E L1) hx1) gl_X8_knows rfl rfl dsX8_knows (by decide) rfl rfl rfl (Nat.le_of_ble_eq_true rfl) dL_law_712 ?_
  refine nq_aload_n C.1 rfl 2 rfl dL_law_715 ?_
  refine nq_aload_n C.1 rfl 0 rfl dL_law_716 ?_
  refine nq_iload_n C.1 rfl 3 rfl dL_law_717 ?_
  refine nq_iconst C.1 (v := 1) (by decide) dL_law_718 ?_
  refine nq_iadd C.1 dL_law_719 ?_
  refine nq_sld C.1 C.2.2.1 C.2.2.2.1 hbA (nq_ixc (c := 1) (by omega) C.2.2.2.2.2.2) dL_law_720 ?_
  refine nq_aload_n C.1 rfl 0 rfl dL_law_721 ?_
  refine nq_iload_n C.1 rfl 3 rfl dL_law_722 ?_
  refine nq_iconst C.1 (v := 2) (by decide) dL_law_723 ?_
  refine nq_iadd C.1 dL_law_724 ?_
  refine nq_sld C.1 C.2.2.1 C.2.2.2.1 hbA (nq_ixc (c := 2) (by omega) C.2.2.2.2.2.2) dL_law_725 ?_
  refine nq_aload_n C.1 rfl 0 rfl dL_law_726 ?_
  refine nq_iload_n C.1 rfl 3 rfl dL_law_727 ?_
  refine nq_iconst C.1 (v := 3) (by decide) dL_law_728 ?_
  refine nq_iadd C.1 dL_law_729 ?_
  refine nq_sld C.1 C.2.2.1 C.2.2.2.1 hbA (nq_ixc (c := 3) (by omega) C.2.2.2.2.2.2) dL_law_730 ?_
  refine nq_law2 (sf := .int r) C.1 C.2.1 C.2.2.2.2.1 C.2.2.2.2.2.1 (tX9_knows (nq_M0 E L2) hm1) gl_X9_knows rfl rfl dsX9_knows (by decide) rfl rfl rfl (Nat.le_of_ble_eq_true rfl) dL_law_731 ?_
  refine nq_icmp_eq C.1 (tgt := 1728) (by decide) dL_law_734 (fun _ => ?_) (fun c => absurd rfl c)
  exact kk Mx1 Mm1 hR1
set_option maxHeartbeats 4000000 in
theorem lc_feed {R : Mem → Mem → Prop} {Y : Cy} {E : Ev} {l : Launch} {b Ln : Nat} {xs : Nat → Int32} {L1 L2 : List Nat} {cs ss i : Nat} {Mx Mm : Mem} (C : nq_LC Y E l b Ln xs L1 L2 cs ss) (hbA : ¬ nq_A E b) (hi : i + 6 ≤ Ln) (hR : R Mx Mm) (hop : ∀ (a0 : Int64) (a1 : Int32) (Mx Mm : Mem), R Mx Mm → ∃ (r : Int32) (Mx1 Mm1 : Mem), fX8_feed a0 a1 Mx = some (r, Mx1) ∧ fX9_feed a0 a1 Mm = some (r, Mm1) ∧ R Mx1 Mm1) (kk : ∀ Mx1 Mm1, R Mx1 Mm1 → nq_LG Y E L1 L2 cs ss 1728 [(0, .ref b), (1, .ref (nq_adL L1 0)), (2, .ref (nq_adL L2 0)), (3, .int (nI i))] [] Mx1 Mm1) : nq_LG Y E L1 L2 cs ss 739 [(0, .ref b), (1, .ref (nq_adL L1 0)), (2, .ref (nq_adL L2 0)), (3, .int (nI i))] [] Mx Mm := by
  obtain ⟨r, Mx1, Mm1, hx1, hm1, hR1⟩ := hop (((xs (nI i + 1).toNatClampNeg).toInt64 <<< ((32 : Int32).toInt64 &&& 63)) ||| ((xs (nI i + 2).toNatClampNeg).toInt64 &&& (4294967295 : Int64))) (xs (nI i + 3).toNatClampNeg) Mx Mm hR
  refine nq_aload_n C.1 rfl 1 rfl dL_law_739 ?_
  refine nq_aload_n C.1 rfl 0 rfl dL_law_740 ?_
  refine nq_iload_n C.1 rfl 3 rfl dL_law_741 ?_
  refine nq_iconst C.1 (v := 1) (by decide) dL_law_742 ?_
  refine nq_iadd C.1 dL_law_743 ?_
  refine nq_sld C.1 C.2.2.1 C.2.2.2.1 hbA (nq_ixc (c := 1) (by omega) C.2.2.2.2.2.2) dL_law_744 ?_
  refine nq_i2l C.1 dL_law_745 ?_
  refine nq_bipush C.1 (v := 32) (by decide) dL_law_746 ?_
  refine nq_lshl C.1 dL_law_748 ?_
  refine nq_aload_n C.1 rfl 0 rfl dL_law_749 ?_
  refine nq_iload_n C.1 rfl 3 rfl dL_law_750 ?_
  refine nq_iconst C.1 (v := 2) (by decide) dL_law_751 ?_
  refine nq_iadd C.1 dL_law_752 ?_
  refine nq_sld C.1 C.2.2.1 C.2.2.2.1 hbA (nq_ixc (c := 2) (by omega) C.2.2.2.2.2.2) dL_law_753 ?_
  refine nq_i2l C.1 dL_law_754 ?_
  refine nq_ldc2 C.1 (v := 4294967295) mmL_c77 dL_law_755 ?_
  refine nq_land C.1 dL_law_758 ?_
  refine nq_lor C.1 dL_law_759 ?_
  refine nq_aload_n C.1 rfl 0 rfl dL_law_760 ?_
  refine nq_iload_n C.1 rfl 3 rfl dL_law_761 ?_
  refine nq_iconst C.1 (v := 3) (by decide) dL_law_762 ?_
  refine nq_iadd C.1 dL_law_763 ?_
  refine nq_sld C.1 C.2.2.1 C.2.2.2.1 hbA (nq_ixc (c := 3) (by omega) C.2.2.2.2.2.2) dL_law_764 ?_
  refine nq_law1 (sf := .int r) C.1 C.2.1 C.2.2.2.2.1 C.2.2.2.2.2.1 (tX8_feed (nq_N0 E L1) hx1) gl_X8_feed rfl rfl dsX8_feed (by decide) rfl rfl rfl (Nat.le_of_ble_eq_true rfl) dL_law_765 ?_
  refine nq_aload_n C.1 rfl 2 rfl dL_law_768 ?_
  refine nq_aload_n C.1 rfl 0 rfl dL_law_769 ?_
  refine nq_iload_n C.1 rfl 3 rfl dL_law_770 ?_
  refine nq_iconst C.1 (v := 1) (by decide) dL_law_771 ?_
  refine nq_iadd C.1 dL_law_772 ?_
  refine nq_sld C.1 C.2.2.1 C.2.2.2.1 hbA (nq_ixc (c := 1) (by omega) C.2.2.2.2.2.2) dL_law_773 ?_
  refine nq_i2l C.1 dL_law_774 ?_
  refine nq_bipush C.1 (v := 32) (by decide) dL_law_775 ?_
  refine nq_lshl C.1 dL_law_777 ?_
  refine nq_aload_n C.1 rfl 0 rfl dL_law_778 ?_
  refine nq_iload_n C.1 rfl 3 rfl dL_law_779 ?_
  refine nq_iconst C.1 (v := 2) (by decide) dL_law_780 ?_
  refine nq_iadd C.1 dL_law_781 ?_
  refine nq_sld C.1 C.2.2.1 C.2.2.2.1 hbA (nq_ixc (c := 2) (by omega) C.2.2.2.2.2.2) dL_law_782 ?_
  refine nq_i2l C.1 dL_law_783 ?_
  refine nq_ldc2 C.1 (v := 4294967295) mmL_c77 dL_law_784 ?_
  refine nq_land C.1 dL_law_787 ?_
  refine nq_lor C.1 dL_law_788 ?_
  refine nq_aload_n C.1 rfl 0 rfl dL_law_789 ?_
  refine nq_iload_n C.1 rfl 3 rfl dL_law_790 ?_
  refine nq_iconst C.1 (v := 3) (by decide) dL_law_791 ?_
  refine nq_iadd C.1 dL_law_792 ?_
  refine nq_sld C.1 C.2.2.1 C.2.2.2.1 hbA (nq_ixc (c := 3) (by omega) C.2.2.2.2.2.2) dL_law_793 ?_
  refine nq_law2 (sf := .int r) C.1 C.2.1 C.2.2.2.2.1 C.2.2.2.2.2.1 (tX9_feed (nq_M0 E L2) hm1) gl_X9_feed rfl rfl dsX9_feed (by decide) rfl rfl rfl (Nat.le_of_ble_eq_true rfl) dL_law_794 ?_
  refine nq_icmp_eq C.1 (tgt := 1728) (by decide) dL_law_797 (fun _ => ?_) (fun c => absurd rfl c)
  exact kk Mx1 Mm1 hR1
set_option maxHeartbeats 4000000 in
theorem lc_text {R : Mem → Mem → Prop} {Y : Cy} {E : Ev} {l : Launch} {b Ln : Nat} {xs : Nat → Int32} {L1 L2 : List Nat} {cs ss i : Nat} {Mx Mm : Mem} (C : nq_LC Y E l b Ln xs L1 L2 cs ss) (hbA : ¬ nq_A E b) (hi : i + 6 ≤ Ln) (hR : R Mx Mm) (hop : ∀ (a0 : Int32) (Mx Mm : Mem), R Mx Mm → ∃ (r : Int32) (Mx1 Mm1 : Mem), fX8_text a0 Mx = some (r, Mx1) ∧ fX9_text a0 Mm = some (r, Mm1) ∧ R Mx1 Mm1) (kk : ∀ Mx1 Mm1, R Mx1 Mm1 → nq_LG Y E L1 L2 cs ss 1728 [(0, .ref b), (1, .ref (nq_adL L1 0)), (2, .ref (nq_adL L2 0)), (3, .int (nI i))] [] Mx1 Mm1) : nq_LG Y E L1 L2 cs ss 802 [(0, .ref b), (1, .ref (nq_adL L1 0)), (2, .ref (nq_adL L2 0)), (3, .int (nI i))] [] Mx Mm := by
  obtain ⟨r, Mx1, Mm1, hx1, hm1, hR1⟩ := hop (xs (nI i + 1).toNatClampNeg) Mx Mm hR
  refine nq_aload_n C.1 rfl 1 rfl dL_law_802 ?_
  refine nq_aload_n C.1 rfl 0 rfl dL_law_803 ?_
  refine nq_iload_n C.1 rfl 3 rfl dL_law_804 ?_
  refine nq_iconst C.1 (v := 1) (by decide) dL_law_805 ?_
  refine nq_iadd C.1 dL_law_806 ?_
  refine nq_sld C.1 C.2.2.1 C.2.2.2.1 hbA (nq_ixc (c := 1) (by omega) C.2.2.2.2.2.2) dL_law_807 ?_
  refine nq_law1 (sf := .int r) C.1 C.2.1 C.2.2.2.2.1 C.2.2.2.2.2.1 (tX8_text (nq_N0 E L1) hx1) gl_X8_text rfl rfl dsX8_text (by decide) rfl rfl rfl (Nat.le_of_ble_eq_true rfl) dL_law_808 ?_
  refine nq_aload_n C.1 rfl 2 rfl dL_law_811 ?_
  refine nq_aload_n C.1 rfl 0 rfl dL_law_812 ?_
  refine nq_iload_n C.1 rfl 3 rfl dL_law_813 ?_
  refine nq_iconst C.1 (v := 1) (by decide) dL_law_814 ?_
  refine nq_iadd C.1 dL_law_815 ?_
  refine nq_sld C.1 C.2.2.1 C.2.2.2.1 hbA (nq_ixc (c := 1) (by omega) C.2.2.2.2.2.2) dL_law_816 ?_
  refine nq_law2 (sf := .int r) C.1 C.2.1 C.2.2.2.2.1 C.2.2.2.2.2.1 (tX9_text (nq_M0 E L2) hm1) gl_X9_text rfl rfl dsX9_text (by decide) rfl rfl rfl (Nat.le_of_ble_eq_true rfl) dL_law_817 ?_
  refine nq_icmp_eq C.1 (tgt := 1728) (by decide) dL_law_820 (fun _ => ?_) (fun c => absurd rfl c)
  exact kk Mx1 Mm1 hR1
set_option maxHeartbeats 4000000 in
theorem lc_law {R : Mem → Mem → Prop} {Y : Cy} {E : Ev} {l : Launch} {b Ln : Nat} {xs : Nat → Int32} {L1 L2 : List Nat} {cs ss i : Nat} {Mx Mm : Mem} (C : nq_LC Y E l b Ln xs L1 L2 cs ss) (hbA : ¬ nq_A E b) (hi : i + 6 ≤ Ln) (hR : R Mx Mm) (hop : ∀ (a0 : Int32) (a1 : Int32) (a2 : Int32) (Mx Mm : Mem), R Mx Mm → ∃ (r : Int32) (Mx1 Mm1 : Mem), fX8_law a0 a1 a2 Mx = some (r, Mx1) ∧ fX9_law a0 a1 a2 Mm = some (r, Mm1) ∧ R Mx1 Mm1) (kk : ∀ Mx1 Mm1, R Mx1 Mm1 → nq_LG Y E L1 L2 cs ss 1728 [(0, .ref b), (1, .ref (nq_adL L1 0)), (2, .ref (nq_adL L2 0)), (3, .int (nI i))] [] Mx1 Mm1) : nq_LG Y E L1 L2 cs ss 825 [(0, .ref b), (1, .ref (nq_adL L1 0)), (2, .ref (nq_adL L2 0)), (3, .int (nI i))] [] Mx Mm := by
  obtain ⟨r, Mx1, Mm1, hx1, hm1, hR1⟩ := hop (xs (nI i + 1).toNatClampNeg) (xs (nI i + 2).toNatClampNeg) (xs (nI i + 3).toNatClampNeg) Mx Mm hR
  refine nq_aload_n C.1 rfl 1 rfl dL_law_825 ?_
  refine nq_aload_n C.1 rfl 0 rfl dL_law_826 ?_
  refine nq_iload_n C.1 rfl 3 rfl dL_law_827 ?_
  refine nq_iconst C.1 (v := 1) (by decide) dL_law_828 ?_
  refine nq_iadd C.1 dL_law_829 ?_
  refine nq_sld C.1 C.2.2.1 C.2.2.2.1 hbA (nq_ixc (c := 1) (by omega) C.2.2.2.2.2.2) dL_law_830 ?_
  refine nq_aload_n C.1 rfl 0 rfl dL_law_831 ?_
  refine nq_iload_n C.1 rfl 3 rfl dL_law_832 ?_
  refine nq_iconst C.1 (v := 2) (by decide) dL_law_833 ?_
  refine nq_iadd C.1 dL_law_834 ?_
  refine nq_sld C.1 C.2.2.1 C.2.2.2.1 hbA (nq_ixc (c := 2) (by omega) C.2.2.2.2.2.2) dL_law_835 ?_
  refine nq_aload_n C.1 rfl 0 rfl dL_law_836 ?_
  refine nq_iload_n C.1 rfl 3 rfl dL_law_837 ?_
  refine nq_iconst C.1 (v := 3) (by decide) dL_law_838 ?_
  refine nq_iadd C.1 dL_law_839 ?_
  refine nq_sld C.1 C.2.2.1 C.2.2.2.1 hbA (nq_ixc (c := 3) (by omega) C.2.2.2.2.2.2) dL_law_840 ?_
  refine nq_law1 (sf := .int r) C.1 C.2.1 C.2.2.2.2.1 C.2.2.2.2.2.1 (tX8_law (nq_N0 E L1) hx1) gl_X8_law rfl rfl dsX8_law (by decide) rfl rfl rfl (Nat.le_of_ble_eq_true rfl) dL_law_841 ?_
  refine nq_aload_n C.1 rfl 2 rfl dL_law_844 ?_
  refine nq_aload_n C.1 rfl 0 rfl dL_law_845 ?_
  refine nq_iload_n C.1 rfl 3 rfl dL_law_846 ?_
  refine nq_iconst C.1 (v := 1) (by decide) dL_law_847 ?_
  refine nq_iadd C.1 dL_law_848 ?_
  refine nq_sld C.1 C.2.2.1 C.2.2.2.1 hbA (nq_ixc (c := 1) (by omega) C.2.2.2.2.2.2) dL_law_849 ?_
  refine nq_aload_n C.1 rfl 0 rfl dL_law_850 ?_
  refine nq_iload_n C.1 rfl 3 rfl dL_law_851 ?_
  refine nq_iconst C.1 (v := 2) (by decide) dL_law_852 ?_
  refine nq_iadd C.1 dL_law_853 ?_
  refine nq_sld C.1 C.2.2.1 C.2.2.2.1 hbA (nq_ixc (c := 2) (by omega) C.2.2.2.2.2.2) dL_law_854 ?_
  refine nq_aload_n C.1 rfl 0 rfl dL_law_855 ?_
  refine nq_iload_n C.1 rfl 3 rfl dL_law_856 ?_
  refine nq_iconst C.1 (v := 3) (by decide) dL_law_857 ?_
  refine nq_iadd C.1 dL_law_858 ?_
  refine nq_sld C.1 C.2.2.1 C.2.2.2.1 hbA (nq_ixc (c := 3) (by omega) C.2.2.2.2.2.2) dL_law_859 ?_
  refine nq_law2 (sf := .int r) C.1 C.2.1 C.2.2.2.2.1 C.2.2.2.2.2.1 (tX9_law (nq_M0 E L2) hm1) gl_X9_law rfl rfl dsX9_law (by decide) rfl rfl rfl (Nat.le_of_ble_eq_true rfl) dL_law_860 ?_
  refine nq_icmp_eq C.1 (tgt := 1728) (by decide) dL_law_863 (fun _ => ?_) (fun c => absurd rfl c)
  exact kk Mx1 Mm1 hR1
set_option maxHeartbeats 4000000 in
theorem lc_aim {R : Mem → Mem → Prop} {Y : Cy} {E : Ev} {l : Launch} {b Ln : Nat} {xs : Nat → Int32} {L1 L2 : List Nat} {cs ss i : Nat} {Mx Mm : Mem} (C : nq_LC Y E l b Ln xs L1 L2 cs ss) (hbA : ¬ nq_A E b) (hi : i + 6 ≤ Ln) (hR : R Mx Mm) (hop : ∀ (a0 : Int32) (a1 : Int32) (Mx Mm : Mem), R Mx Mm → ∃ (r : Int32) (Mx1 Mm1 : Mem), fX8_aim a0 a1 Mx = some (r, Mx1) ∧ fX9_aim a0 a1 Mm = some (r, Mm1) ∧ R Mx1 Mm1) (kk : ∀ Mx1 Mm1, R Mx1 Mm1 → nq_LG Y E L1 L2 cs ss 1728 [(0, .ref b), (1, .ref (nq_adL L1 0)), (2, .ref (nq_adL L2 0)), (3, .int (nI i))] [] Mx1 Mm1) : nq_LG Y E L1 L2 cs ss 868 [(0, .ref b), (1, .ref (nq_adL L1 0)), (2, .ref (nq_adL L2 0)), (3, .int (nI i))] [] Mx Mm := by
  obtain ⟨r, Mx1, Mm1, hx1, hm1, hR1⟩ := hop (xs (nI i + 1).toNatClampNeg) (xs (nI i + 2).toNatClampNeg) Mx Mm hR
  refine nq_aload_n C.1 rfl 1 rfl dL_law_868 ?_
  refine nq_aload_n C.1 rfl 0 rfl dL_law_869 ?_
  refine nq_iload_n C.1 rfl 3 rfl dL_law_870 ?_
  refine nq_iconst C.1 (v := 1) (by decide) dL_law_871 ?_
  refine nq_iadd C.1 dL_law_872 ?_
  refine nq_sld C.1 C.2.2.1 C.2.2.2.1 hbA (nq_ixc (c := 1) (by omega) C.2.2.2.2.2.2) dL_law_873 ?_
  refine nq_aload_n C.1 rfl 0 rfl dL_law_874 ?_
  refine nq_iload_n C.1 rfl 3 rfl dL_law_875 ?_
  refine nq_iconst C.1 (v := 2) (by decide) dL_law_876 ?_
  refine nq_iadd C.1 dL_law_877 ?_
  refine nq_sld C.1 C.2.2.1 C.2.2.2.1 hbA (nq_ixc (c := 2) (by omega) C.2.2.2.2.2.2) dL_law_878 ?_
  refine nq_law1 (sf := .int r) C.1 C.2.1 C.2.2.2.2.1 C.2.2.2.2.2.1 (tX8_aim (nq_N0 E L1) hx1) gl_X8_aim rfl rfl dsX8_aim (by decide) rfl rfl rfl (Nat.le_of_ble_eq_true rfl) dL_law_879 ?_
  refine nq_aload_n C.1 rfl 2 rfl dL_law_882 ?_
  refine nq_aload_n C.1 rfl 0 rfl dL_law_883 ?_
  refine nq_iload_n C.1 rfl 3 rfl dL_law_884 ?_
  refine nq_iconst C.1 (v := 1) (by decide) dL_law_885 ?_
  refine nq_iadd C.1 dL_law_886 ?_
  refine nq_sld C.1 C.2.2.1 C.2.2.2.1 hbA (nq_ixc (c := 1) (by omega) C.2.2.2.2.2.2) dL_law_887 ?_
  refine nq_aload_n C.1 rfl 0 rfl dL_law_888 ?_
  refine nq_iload_n C.1 rfl 3 rfl dL_law_889 ?_
  refine nq_iconst C.1 (v := 2) (by decide) dL_law_890 ?_
  refine nq_iadd C.1 dL_law_891 ?_
  refine nq_sld C.1 C.2.2.1 C.2.2.2.1 hbA (nq_ixc (c := 2) (by omega) C.2.2.2.2.2.2) dL_law_892 ?_
  refine nq_law2 (sf := .int r) C.1 C.2.1 C.2.2.2.2.1 C.2.2.2.2.2.1 (tX9_aim (nq_M0 E L2) hm1) gl_X9_aim rfl rfl dsX9_aim (by decide) rfl rfl rfl (Nat.le_of_ble_eq_true rfl) dL_law_893 ?_
  refine nq_icmp_eq C.1 (tgt := 1728) (by decide) dL_law_896 (fun _ => ?_) (fun c => absurd rfl c)
  exact kk Mx1 Mm1 hR1
set_option maxHeartbeats 4000000 in
theorem lc_live {R : Mem → Mem → Prop} {Y : Cy} {E : Ev} {l : Launch} {b Ln : Nat} {xs : Nat → Int32} {L1 L2 : List Nat} {cs ss i : Nat} {Mx Mm : Mem} (C : nq_LC Y E l b Ln xs L1 L2 cs ss) (hbA : ¬ nq_A E b) (hi : i + 6 ≤ Ln) (hR : R Mx Mm) (hop : ∀ (a0 : Int32) (Mx Mm : Mem), R Mx Mm → ∃ (r : Int32) (Mx1 Mm1 : Mem), fX8_live a0 Mx = some (r, Mx1) ∧ fX9_live a0 Mm = some (r, Mm1) ∧ R Mx1 Mm1) (kk : ∀ Mx1 Mm1, R Mx1 Mm1 → nq_LG Y E L1 L2 cs ss 1728 [(0, .ref b), (1, .ref (nq_adL L1 0)), (2, .ref (nq_adL L2 0)), (3, .int (nI i))] [] Mx1 Mm1) : nq_LG Y E L1 L2 cs ss 901 [(0, .ref b), (1, .ref (nq_adL L1 0)), (2, .ref (nq_adL L2 0)), (3, .int (nI i))] [] Mx Mm := by
  obtain ⟨r, Mx1, Mm1, hx1, hm1, hR1⟩ := hop (xs (nI i + 1).toNatClampNeg) Mx Mm hR
  refine nq_aload_n C.1 rfl 1 rfl dL_law_901 ?_
  refine nq_aload_n C.1 rfl 0 rfl dL_law_902 ?_
  refine nq_iload_n C.1 rfl 3 rfl dL_law_903 ?_
  refine nq_iconst C.1 (v := 1) (by decide) dL_law_904 ?_
  refine nq_iadd C.1 dL_law_905 ?_
  refine nq_sld C.1 C.2.2.1 C.2.2.2.1 hbA (nq_ixc (c := 1) (by omega) C.2.2.2.2.2.2) dL_law_906 ?_
  refine nq_law1 (sf := .int r) C.1 C.2.1 C.2.2.2.2.1 C.2.2.2.2.2.1 (tX8_live (nq_N0 E L1) hx1) gl_X8_live rfl rfl dsX8_live (by decide) rfl rfl rfl (Nat.le_of_ble_eq_true rfl) dL_law_907 ?_
  refine nq_aload_n C.1 rfl 2 rfl dL_law_910 ?_
  refine nq_aload_n C.1 rfl 0 rfl dL_law_911 ?_
  refine nq_iload_n C.1 rfl 3 rfl dL_law_912 ?_
  refine nq_iconst C.1 (v := 1) (by decide) dL_law_913 ?_
  refine nq_iadd C.1 dL_law_914 ?_
  refine nq_sld C.1 C.2.2.1 C.2.2.2.1 hbA (nq_ixc (c := 1) (by omega) C.2.2.2.2.2.2) dL_law_915 ?_
  refine nq_law2 (sf := .int r) C.1 C.2.1 C.2.2.2.2.1 C.2.2.2.2.2.1 (tX9_live (nq_M0 E L2) hm1) gl_X9_live rfl rfl dsX9_live (by decide) rfl rfl rfl (Nat.le_of_ble_eq_true rfl) dL_law_916 ?_
  refine nq_icmp_eq C.1 (tgt := 1728) (by decide) dL_law_919 (fun _ => ?_) (fun c => absurd rfl c)
  exact kk Mx1 Mm1 hR1
set_option maxHeartbeats 4000000 in
theorem lc_soon {R : Mem → Mem → Prop} {Y : Cy} {E : Ev} {l : Launch} {b Ln : Nat} {xs : Nat → Int32} {L1 L2 : List Nat} {cs ss i : Nat} {Mx Mm : Mem} (C : nq_LC Y E l b Ln xs L1 L2 cs ss) (hbA : ¬ nq_A E b) (hi : i + 6 ≤ Ln) (hR : R Mx Mm) (hop : ∀ (a0 : Int32) (a1 : Int32) (a2 : Int32) (Mx Mm : Mem), R Mx Mm → ∃ (r : Int32) (Mx1 Mm1 : Mem), fX8_soon a0 a1 a2 Mx = some (r, Mx1) ∧ fX9_soon a0 a1 a2 Mm = some (r, Mm1) ∧ R Mx1 Mm1) (kk : ∀ Mx1 Mm1, R Mx1 Mm1 → nq_LG Y E L1 L2 cs ss 1728 [(0, .ref b), (1, .ref (nq_adL L1 0)), (2, .ref (nq_adL L2 0)), (3, .int (nI i))] [] Mx1 Mm1) : nq_LG Y E L1 L2 cs ss 924 [(0, .ref b), (1, .ref (nq_adL L1 0)), (2, .ref (nq_adL L2 0)), (3, .int (nI i))] [] Mx Mm := by
  obtain ⟨r, Mx1, Mm1, hx1, hm1, hR1⟩ := hop (xs (nI i + 1).toNatClampNeg) (xs (nI i + 2).toNatClampNeg) (xs (nI i + 3).toNatClampNeg) Mx Mm hR
  refine nq_aload_n C.1 rfl 1 rfl dL_law_924 ?_
  refine nq_aload_n C.1 rfl 0 rfl dL_law_925 ?_
  refine nq_iload_n C.1 rfl 3 rfl dL_law_926 ?_
  refine nq_iconst C.1 (v := 1) (by decide) dL_law_927 ?_
  refine nq_iadd C.1 dL_law_928 ?_
  refine nq_sld C.1 C.2.2.1 C.2.2.2.1 hbA (nq_ixc (c := 1) (by omega) C.2.2.2.2.2.2) dL_law_929 ?_
  refine nq_aload_n C.1 rfl 0 rfl dL_law_930 ?_
  refine nq_iload_n C.1 rfl 3 rfl dL_law_931 ?_
  refine nq_iconst C.1 (v := 2) (by decide) dL_law_932 ?_
  refine nq_iadd C.1 dL_law_933 ?_
  refine nq_sld C.1 C.2.2.1 C.2.2.2.1 hbA (nq_ixc (c := 2) (by omega) C.2.2.2.2.2.2) dL_law_934 ?_
  refine nq_aload_n C.1 rfl 0 rfl dL_law_935 ?_
  refine nq_iload_n C.1 rfl 3 rfl dL_law_936 ?_
  refine nq_iconst C.1 (v := 3) (by decide) dL_law_937 ?_
  refine nq_iadd C.1 dL_law_938 ?_
  refine nq_sld C.1 C.2.2.1 C.2.2.2.1 hbA (nq_ixc (c := 3) (by omega) C.2.2.2.2.2.2) dL_law_939 ?_
  refine nq_law1 (sf := .int r) C.1 C.2.1 C.2.2.2.2.1 C.2.2.2.2.2.1 (tX8_soon (nq_N0 E L1) hx1) gl_X8_soon rfl rfl dsX8_soon (by decide) rfl rfl rfl (Nat.le_of_ble_eq_true rfl) dL_law_940 ?_
  refine nq_aload_n C.1 rfl 2 rfl dL_law_943 ?_
  refine nq_aload_n C.1 rfl 0 rfl dL_law_944 ?_
  refine nq_iload_n C.1 rfl 3 rfl dL_law_945 ?_
  refine nq_iconst C.1 (v := 1) (by decide) dL_law_946 ?_
  refine nq_iadd C.1 dL_law_947 ?_
  refine nq_sld C.1 C.2.2.1 C.2.2.2.1 hbA (nq_ixc (c := 1) (by omega) C.2.2.2.2.2.2) dL_law_948 ?_
  refine nq_aload_n C.1 rfl 0 rfl dL_law_949 ?_
  refine nq_iload_n C.1 rfl 3 rfl dL_law_950 ?_
  refine nq_iconst C.1 (v := 2) (by decide) dL_law_951 ?_
  refine nq_iadd C.1 dL_law_952 ?_
  refine nq_sld C.1 C.2.2.1 C.2.2.2.1 hbA (nq_ixc (c := 2) (by omega) C.2.2.2.2.2.2) dL_law_953 ?_
  refine nq_aload_n C.1 rfl 0 rfl dL_law_954 ?_
  refine nq_iload_n C.1 rfl 3 rfl dL_law_955 ?_
  refine nq_iconst C.1 (v := 3) (by decide) dL_law_956 ?_
  refine nq_iadd C.1 dL_law_957 ?_
  refine nq_sld C.1 C.2.2.1 C.2.2.2.1 hbA (nq_ixc (c := 3) (by omega) C.2.2.2.2.2.2) dL_law_958 ?_
  refine nq_law2 (sf := .int r) C.1 C.2.1 C.2.2.2.2.1 C.2.2.2.2.2.1 (tX9_soon (nq_M0 E L2) hm1) gl_X9_soon rfl rfl dsX9_soon (by decide) rfl rfl rfl (Nat.le_of_ble_eq_true rfl) dL_law_959 ?_
  refine nq_icmp_eq C.1 (tgt := 1728) (by decide) dL_law_962 (fun _ => ?_) (fun c => absurd rfl c)
  exact kk Mx1 Mm1 hR1
set_option maxHeartbeats 4000000 in
theorem lc_odds {R : Mem → Mem → Prop} {Y : Cy} {E : Ev} {l : Launch} {b Ln : Nat} {xs : Nat → Int32} {L1 L2 : List Nat} {cs ss i : Nat} {Mx Mm : Mem} (C : nq_LC Y E l b Ln xs L1 L2 cs ss) (hbA : ¬ nq_A E b) (hi : i + 6 ≤ Ln) (hR : R Mx Mm) (hop : ∀ (a0 : Int32) (a1 : Int32) (a2 : Int32) (Mx Mm : Mem), R Mx Mm → ∃ (r : Int64) (Mx1 Mm1 : Mem), fX8_odds a0 a1 a2 Mx = some (r, Mx1) ∧ fX9_odds a0 a1 a2 Mm = some (r, Mm1) ∧ R Mx1 Mm1) (kk : ∀ Mx1 Mm1, R Mx1 Mm1 → nq_LG Y E L1 L2 cs ss 1728 [(0, .ref b), (1, .ref (nq_adL L1 0)), (2, .ref (nq_adL L2 0)), (3, .int (nI i))] [] Mx1 Mm1) : nq_LG Y E L1 L2 cs ss 967 [(0, .ref b), (1, .ref (nq_adL L1 0)), (2, .ref (nq_adL L2 0)), (3, .int (nI i))] [] Mx Mm := by
  obtain ⟨r, Mx1, Mm1, hx1, hm1, hR1⟩ := hop (xs (nI i + 1).toNatClampNeg) (xs (nI i + 2).toNatClampNeg) (xs (nI i + 3).toNatClampNeg) Mx Mm hR
  refine nq_aload_n C.1 rfl 1 rfl dL_law_967 ?_
  refine nq_aload_n C.1 rfl 0 rfl dL_law_968 ?_
  refine nq_iload_n C.1 rfl 3 rfl dL_law_969 ?_
  refine nq_iconst C.1 (v := 1) (by decide) dL_law_970 ?_
  refine nq_iadd C.1 dL_law_971 ?_
  refine nq_sld C.1 C.2.2.1 C.2.2.2.1 hbA (nq_ixc (c := 1) (by omega) C.2.2.2.2.2.2) dL_law_972 ?_
  refine nq_aload_n C.1 rfl 0 rfl dL_law_973 ?_
  refine nq_iload_n C.1 rfl 3 rfl dL_law_974 ?_
  refine nq_iconst C.1 (v := 2) (by decide) dL_law_975 ?_
  refine nq_iadd C.1 dL_law_976 ?_
  refine nq_sld C.1 C.2.2.1 C.2.2.2.1 hbA (nq_ixc (c := 2) (by omega) C.2.2.2.2.2.2) dL_law_977 ?_
  refine nq_aload_n C.1 rfl 0 rfl dL_law_978 ?_
  refine nq_iload_n C.1 rfl 3 rfl dL_law_979 ?_
  refine nq_iconst C.1 (v := 3) (by decide) dL_law_980 ?_
  refine nq_iadd C.1 dL_law_981 ?_
  refine nq_sld C.1 C.2.2.1 C.2.2.2.1 hbA (nq_ixc (c := 3) (by omega) C.2.2.2.2.2.2) dL_law_982 ?_
  refine nq_law1 (sf := .long r) C.1 C.2.1 C.2.2.2.2.1 C.2.2.2.2.2.1 (tX8_odds (nq_N0 E L1) hx1) gl_X8_odds rfl rfl dsX8_odds (by decide) rfl rfl rfl (Nat.le_of_ble_eq_true rfl) dL_law_983 ?_
  refine nq_aload_n C.1 rfl 2 rfl dL_law_986 ?_
  refine nq_aload_n C.1 rfl 0 rfl dL_law_987 ?_
  refine nq_iload_n C.1 rfl 3 rfl dL_law_988 ?_
  refine nq_iconst C.1 (v := 1) (by decide) dL_law_989 ?_
  refine nq_iadd C.1 dL_law_990 ?_
  refine nq_sld C.1 C.2.2.1 C.2.2.2.1 hbA (nq_ixc (c := 1) (by omega) C.2.2.2.2.2.2) dL_law_991 ?_
  refine nq_aload_n C.1 rfl 0 rfl dL_law_992 ?_
  refine nq_iload_n C.1 rfl 3 rfl dL_law_993 ?_
  refine nq_iconst C.1 (v := 2) (by decide) dL_law_994 ?_
  refine nq_iadd C.1 dL_law_995 ?_
  refine nq_sld C.1 C.2.2.1 C.2.2.2.1 hbA (nq_ixc (c := 2) (by omega) C.2.2.2.2.2.2) dL_law_996 ?_
  refine nq_aload_n C.1 rfl 0 rfl dL_law_997 ?_
  refine nq_iload_n C.1 rfl 3 rfl dL_law_998 ?_
  refine nq_iconst C.1 (v := 3) (by decide) dL_law_999 ?_
  refine nq_iadd C.1 dL_law_1000 ?_
  refine nq_sld C.1 C.2.2.1 C.2.2.2.1 hbA (nq_ixc (c := 3) (by omega) C.2.2.2.2.2.2) dL_law_1001 ?_
  refine nq_law2 (sf := .long r) C.1 C.2.1 C.2.2.2.2.1 C.2.2.2.2.2.1 (tX9_odds (nq_M0 E L2) hm1) gl_X9_odds rfl rfl dsX9_odds (by decide) rfl rfl rfl (Nat.le_of_ble_eq_true rfl) dL_law_1002 ?_
  refine nq_lcmp C.1 dL_law_1005 ?_
  refine nq_if_eq C.1 (tgt := 1728) (by decide) dL_law_1006 (fun _ => ?_) (fun c => absurd (nq_lg0 r) c)
  exact kk Mx1 Mm1 hR1
set_option maxHeartbeats 4000000 in
theorem lc_enough {R : Mem → Mem → Prop} {Y : Cy} {E : Ev} {l : Launch} {b Ln : Nat} {xs : Nat → Int32} {L1 L2 : List Nat} {cs ss i : Nat} {Mx Mm : Mem} (C : nq_LC Y E l b Ln xs L1 L2 cs ss) (hbA : ¬ nq_A E b) (hi : i + 6 ≤ Ln) (hR : R Mx Mm) (hop : ∀ (a0 : Int32) (a1 : Int32) (Mx Mm : Mem), R Mx Mm → ∃ (r : Int32) (Mx1 Mm1 : Mem), fX8_enough a0 a1 Mx = some (r, Mx1) ∧ fX9_enough a0 a1 Mm = some (r, Mm1) ∧ R Mx1 Mm1) (kk : ∀ Mx1 Mm1, R Mx1 Mm1 → nq_LG Y E L1 L2 cs ss 1728 [(0, .ref b), (1, .ref (nq_adL L1 0)), (2, .ref (nq_adL L2 0)), (3, .int (nI i))] [] Mx1 Mm1) : nq_LG Y E L1 L2 cs ss 1011 [(0, .ref b), (1, .ref (nq_adL L1 0)), (2, .ref (nq_adL L2 0)), (3, .int (nI i))] [] Mx Mm := by
  obtain ⟨r, Mx1, Mm1, hx1, hm1, hR1⟩ := hop (xs (nI i + 1).toNatClampNeg) (xs (nI i + 2).toNatClampNeg) Mx Mm hR
  refine nq_aload_n C.1 rfl 1 rfl dL_law_1011 ?_
  refine nq_aload_n C.1 rfl 0 rfl dL_law_1012 ?_
  refine nq_iload_n C.1 rfl 3 rfl dL_law_1013 ?_
  refine nq_iconst C.1 (v := 1) (by decide) dL_law_1014 ?_
  refine nq_iadd C.1 dL_law_1015 ?_
  refine nq_sld C.1 C.2.2.1 C.2.2.2.1 hbA (nq_ixc (c := 1) (by omega) C.2.2.2.2.2.2) dL_law_1016 ?_
  refine nq_aload_n C.1 rfl 0 rfl dL_law_1017 ?_
  refine nq_iload_n C.1 rfl 3 rfl dL_law_1018 ?_
  refine nq_iconst C.1 (v := 2) (by decide) dL_law_1019 ?_
  refine nq_iadd C.1 dL_law_1020 ?_
  refine nq_sld C.1 C.2.2.1 C.2.2.2.1 hbA (nq_ixc (c := 2) (by omega) C.2.2.2.2.2.2) dL_law_1021 ?_
  refine nq_law1 (sf := .int r) C.1 C.2.1 C.2.2.2.2.1 C.2.2.2.2.2.1 (tX8_enough (nq_N0 E L1) hx1) gl_X8_enough rfl rfl dsX8_enough (by decide) rfl rfl rfl (Nat.le_of_ble_eq_true rfl) dL_law_1022 ?_
  refine nq_aload_n C.1 rfl 2 rfl dL_law_1025 ?_
  refine nq_aload_n C.1 rfl 0 rfl dL_law_1026 ?_
  refine nq_iload_n C.1 rfl 3 rfl dL_law_1027 ?_
  refine nq_iconst C.1 (v := 1) (by decide) dL_law_1028 ?_
  refine nq_iadd C.1 dL_law_1029 ?_
  refine nq_sld C.1 C.2.2.1 C.2.2.2.1 hbA (nq_ixc (c := 1) (by omega) C.2.2.2.2.2.2) dL_law_1030 ?_
  refine nq_aload_n C.1 rfl 0 rfl dL_law_1031 ?_
  refine nq_iload_n C.1 rfl 3 rfl dL_law_1032 ?_
  refine nq_iconst C.1 (v := 2) (by decide) dL_law_1033 ?_
  refine nq_iadd C.1 dL_law_1034 ?_
  refine nq_sld C.1 C.2.2.1 C.2.2.2.1 hbA (nq_ixc (c := 2) (by omega) C.2.2.2.2.2.2) dL_law_1035 ?_
  refine nq_law2 (sf := .int r) C.1 C.2.1 C.2.2.2.2.1 C.2.2.2.2.2.1 (tX9_enough (nq_M0 E L2) hm1) gl_X9_enough rfl rfl dsX9_enough (by decide) rfl rfl rfl (Nat.le_of_ble_eq_true rfl) dL_law_1036 ?_
  refine nq_icmp_eq C.1 (tgt := 1728) (by decide) dL_law_1039 (fun _ => ?_) (fun c => absurd rfl c)
  exact kk Mx1 Mm1 hR1
set_option maxHeartbeats 4000000 in
theorem lc_pays {R : Mem → Mem → Prop} {Y : Cy} {E : Ev} {l : Launch} {b Ln : Nat} {xs : Nat → Int32} {L1 L2 : List Nat} {cs ss i : Nat} {Mx Mm : Mem} (C : nq_LC Y E l b Ln xs L1 L2 cs ss) (hbA : ¬ nq_A E b) (hi : i + 6 ≤ Ln) (hR : R Mx Mm) (hop : ∀ (a0 : Int32) (a1 : Int32) (Mx Mm : Mem), R Mx Mm → ∃ (r : Int32) (Mx1 Mm1 : Mem), fX8_pays a0 a1 Mx = some (r, Mx1) ∧ fX9_pays a0 a1 Mm = some (r, Mm1) ∧ R Mx1 Mm1) (kk : ∀ Mx1 Mm1, R Mx1 Mm1 → nq_LG Y E L1 L2 cs ss 1728 [(0, .ref b), (1, .ref (nq_adL L1 0)), (2, .ref (nq_adL L2 0)), (3, .int (nI i))] [] Mx1 Mm1) : nq_LG Y E L1 L2 cs ss 1044 [(0, .ref b), (1, .ref (nq_adL L1 0)), (2, .ref (nq_adL L2 0)), (3, .int (nI i))] [] Mx Mm := by
  obtain ⟨r, Mx1, Mm1, hx1, hm1, hR1⟩ := hop (xs (nI i + 1).toNatClampNeg) (xs (nI i + 2).toNatClampNeg) Mx Mm hR
  refine nq_aload_n C.1 rfl 1 rfl dL_law_1044 ?_
  refine nq_aload_n C.1 rfl 0 rfl dL_law_1045 ?_
  refine nq_iload_n C.1 rfl 3 rfl dL_law_1046 ?_
  refine nq_iconst C.1 (v := 1) (by decide) dL_law_1047 ?_
  refine nq_iadd C.1 dL_law_1048 ?_
  refine nq_sld C.1 C.2.2.1 C.2.2.2.1 hbA (nq_ixc (c := 1) (by omega) C.2.2.2.2.2.2) dL_law_1049 ?_
  refine nq_aload_n C.1 rfl 0 rfl dL_law_1050 ?_
  refine nq_iload_n C.1 rfl 3 rfl dL_law_1051 ?_
  refine nq_iconst C.1 (v := 2) (by decide) dL_law_1052 ?_
  refine nq_iadd C.1 dL_law_1053 ?_
  refine nq_sld C.1 C.2.2.1 C.2.2.2.1 hbA (nq_ixc (c := 2) (by omega) C.2.2.2.2.2.2) dL_law_1054 ?_
  refine nq_law1 (sf := .int r) C.1 C.2.1 C.2.2.2.2.1 C.2.2.2.2.2.1 (tX8_pays (nq_N0 E L1) hx1) gl_X8_pays rfl rfl dsX8_pays (by decide) rfl rfl rfl (Nat.le_of_ble_eq_true rfl) dL_law_1055 ?_
  refine nq_aload_n C.1 rfl 2 rfl dL_law_1058 ?_
  refine nq_aload_n C.1 rfl 0 rfl dL_law_1059 ?_
  refine nq_iload_n C.1 rfl 3 rfl dL_law_1060 ?_
  refine nq_iconst C.1 (v := 1) (by decide) dL_law_1061 ?_
  refine nq_iadd C.1 dL_law_1062 ?_
  refine nq_sld C.1 C.2.2.1 C.2.2.2.1 hbA (nq_ixc (c := 1) (by omega) C.2.2.2.2.2.2) dL_law_1063 ?_
  refine nq_aload_n C.1 rfl 0 rfl dL_law_1064 ?_
  refine nq_iload_n C.1 rfl 3 rfl dL_law_1065 ?_
  refine nq_iconst C.1 (v := 2) (by decide) dL_law_1066 ?_
  refine nq_iadd C.1 dL_law_1067 ?_
  refine nq_sld C.1 C.2.2.1 C.2.2.2.1 hbA (nq_ixc (c := 2) (by omega) C.2.2.2.2.2.2) dL_law_1068 ?_
  refine nq_law2 (sf := .int r) C.1 C.2.1 C.2.2.2.2.1 C.2.2.2.2.2.1 (tX9_pays (nq_M0 E L2) hm1) gl_X9_pays rfl rfl dsX9_pays (by decide) rfl rfl rfl (Nat.le_of_ble_eq_true rfl) dL_law_1069 ?_
  refine nq_icmp_eq C.1 (tgt := 1728) (by decide) dL_law_1072 (fun _ => ?_) (fun c => absurd rfl c)
  exact kk Mx1 Mm1 hR1
set_option maxHeartbeats 4000000 in
theorem lc_rest {R : Mem → Mem → Prop} {Y : Cy} {E : Ev} {l : Launch} {b Ln : Nat} {xs : Nat → Int32} {L1 L2 : List Nat} {cs ss i : Nat} {Mx Mm : Mem} (C : nq_LC Y E l b Ln xs L1 L2 cs ss) (hbA : ¬ nq_A E b) (hi : i + 6 ≤ Ln) (hR : R Mx Mm) (hop : ∀ (a0 : Int32) (Mx Mm : Mem), R Mx Mm → ∃ (r : Int32) (Mx1 Mm1 : Mem), fX8_rest a0 Mx = some (r, Mx1) ∧ fX9_rest a0 Mm = some (r, Mm1) ∧ R Mx1 Mm1) (kk : ∀ Mx1 Mm1, R Mx1 Mm1 → nq_LG Y E L1 L2 cs ss 1728 [(0, .ref b), (1, .ref (nq_adL L1 0)), (2, .ref (nq_adL L2 0)), (3, .int (nI i))] [] Mx1 Mm1) : nq_LG Y E L1 L2 cs ss 1077 [(0, .ref b), (1, .ref (nq_adL L1 0)), (2, .ref (nq_adL L2 0)), (3, .int (nI i))] [] Mx Mm := by
  obtain ⟨r, Mx1, Mm1, hx1, hm1, hR1⟩ := hop (xs (nI i + 1).toNatClampNeg) Mx Mm hR
  refine nq_aload_n C.1 rfl 1 rfl dL_law_1077 ?_
  refine nq_aload_n C.1 rfl 0 rfl dL_law_1078 ?_
  refine nq_iload_n C.1 rfl 3 rfl dL_law_1079 ?_
  refine nq_iconst C.1 (v := 1) (by decide) dL_law_1080 ?_
  refine nq_iadd C.1 dL_law_1081 ?_
  refine nq_sld C.1 C.2.2.1 C.2.2.2.1 hbA (nq_ixc (c := 1) (by omega) C.2.2.2.2.2.2) dL_law_1082 ?_
  refine nq_law1 (sf := .int r) C.1 C.2.1 C.2.2.2.2.1 C.2.2.2.2.2.1 (tX8_rest (nq_N0 E L1) hx1) gl_X8_rest rfl rfl dsX8_rest (by decide) rfl rfl rfl (Nat.le_of_ble_eq_true rfl) dL_law_1083 ?_
  refine nq_aload_n C.1 rfl 2 rfl dL_law_1086 ?_
  refine nq_aload_n C.1 rfl 0 rfl dL_law_1087 ?_
  refine nq_iload_n C.1 rfl 3 rfl dL_law_1088 ?_
  refine nq_iconst C.1 (v := 1) (by decide) dL_law_1089 ?_
  refine nq_iadd C.1 dL_law_1090 ?_
  refine nq_sld C.1 C.2.2.1 C.2.2.2.1 hbA (nq_ixc (c := 1) (by omega) C.2.2.2.2.2.2) dL_law_1091 ?_
  refine nq_law2 (sf := .int r) C.1 C.2.1 C.2.2.2.2.1 C.2.2.2.2.2.1 (tX9_rest (nq_M0 E L2) hm1) gl_X9_rest rfl rfl dsX9_rest (by decide) rfl rfl rfl (Nat.le_of_ble_eq_true rfl) dL_law_1092 ?_
  refine nq_icmp_eq C.1 (tgt := 1728) (by decide) dL_law_1095 (fun _ => ?_) (fun c => absurd rfl c)
  exact kk Mx1 Mm1 hR1
set_option maxHeartbeats 4000000 in
theorem lc_answer {R : Mem → Mem → Prop} {Y : Cy} {E : Ev} {l : Launch} {b Ln : Nat} {xs : Nat → Int32} {L1 L2 : List Nat} {cs ss i : Nat} {Mx Mm : Mem} (C : nq_LC Y E l b Ln xs L1 L2 cs ss) (hbA : ¬ nq_A E b) (hi : i + 6 ≤ Ln) (hR : R Mx Mm) (hop : ∀ (a0 : Int32) (a1 : Int32) (a2 : Int32) (Mx Mm : Mem), R Mx Mm → ∃ (r : Int32) (Mx1 Mm1 : Mem), fX8_answer a0 a1 a2 Mx = some (r, Mx1) ∧ fX9_answer a0 a1 a2 Mm = some (r, Mm1) ∧ R Mx1 Mm1) (kk : ∀ Mx1 Mm1, R Mx1 Mm1 → nq_LG Y E L1 L2 cs ss 1728 [(0, .ref b), (1, .ref (nq_adL L1 0)), (2, .ref (nq_adL L2 0)), (3, .int (nI i))] [] Mx1 Mm1) : nq_LG Y E L1 L2 cs ss 1100 [(0, .ref b), (1, .ref (nq_adL L1 0)), (2, .ref (nq_adL L2 0)), (3, .int (nI i))] [] Mx Mm := by
  obtain ⟨r, Mx1, Mm1, hx1, hm1, hR1⟩ := hop (xs (nI i + 1).toNatClampNeg) (xs (nI i + 2).toNatClampNeg) (xs (nI i + 3).toNatClampNeg) Mx Mm hR
  refine nq_aload_n C.1 rfl 1 rfl dL_law_1100 ?_
  refine nq_aload_n C.1 rfl 0 rfl dL_law_1101 ?_
  refine nq_iload_n C.1 rfl 3 rfl dL_law_1102 ?_
  refine nq_iconst C.1 (v := 1) (by decide) dL_law_1103 ?_
  refine nq_iadd C.1 dL_law_1104 ?_
  refine nq_sld C.1 C.2.2.1 C.2.2.2.1 hbA (nq_ixc (c := 1) (by omega) C.2.2.2.2.2.2) dL_law_1105 ?_
  refine nq_aload_n C.1 rfl 0 rfl dL_law_1106 ?_
  refine nq_iload_n C.1 rfl 3 rfl dL_law_1107 ?_
  refine nq_iconst C.1 (v := 2) (by decide) dL_law_1108 ?_
  refine nq_iadd C.1 dL_law_1109 ?_
  refine nq_sld C.1 C.2.2.1 C.2.2.2.1 hbA (nq_ixc (c := 2) (by omega) C.2.2.2.2.2.2) dL_law_1110 ?_
  refine nq_aload_n C.1 rfl 0 rfl dL_law_1111 ?_
  refine nq_iload_n C.1 rfl 3 rfl dL_law_1112 ?_
  refine nq_iconst C.1 (v := 3) (by decide) dL_law_1113 ?_
  refine nq_iadd C.1 dL_law_1114 ?_
  refine nq_sld C.1 C.2.2.1 C.2.2.2.1 hbA (nq_ixc (c := 3) (by omega) C.2.2.2.2.2.2) dL_law_1115 ?_
  refine nq_law1 (sf := .int r) C.1 C.2.1 C.2.2.2.2.1 C.2.2.2.2.2.1 (tX8_answer (nq_N0 E L1) hx1) gl_X8_answer rfl rfl dsX8_answer (by decide) rfl rfl rfl (Nat.le_of_ble_eq_true rfl) dL_law_1116 ?_
  refine nq_aload_n C.1 rfl 2 rfl dL_law_1119 ?_
  refine nq_aload_n C.1 rfl 0 rfl dL_law_1120 ?_
  refine nq_iload_n C.1 rfl 3 rfl dL_law_1121 ?_
  refine nq_iconst C.1 (v := 1) (by decide) dL_law_1122 ?_
  refine nq_iadd C.1 dL_law_1123 ?_
  refine nq_sld C.1 C.2.2.1 C.2.2.2.1 hbA (nq_ixc (c := 1) (by omega) C.2.2.2.2.2.2) dL_law_1124 ?_
  refine nq_aload_n C.1 rfl 0 rfl dL_law_1125 ?_
  refine nq_iload_n C.1 rfl 3 rfl dL_law_1126 ?_
  refine nq_iconst C.1 (v := 2) (by decide) dL_law_1127 ?_
  refine nq_iadd C.1 dL_law_1128 ?_
  refine nq_sld C.1 C.2.2.1 C.2.2.2.1 hbA (nq_ixc (c := 2) (by omega) C.2.2.2.2.2.2) dL_law_1129 ?_
  refine nq_aload_n C.1 rfl 0 rfl dL_law_1130 ?_
  refine nq_iload_n C.1 rfl 3 rfl dL_law_1131 ?_
  refine nq_iconst C.1 (v := 3) (by decide) dL_law_1132 ?_
  refine nq_iadd C.1 dL_law_1133 ?_
  refine nq_sld C.1 C.2.2.1 C.2.2.2.1 hbA (nq_ixc (c := 3) (by omega) C.2.2.2.2.2.2) dL_law_1134 ?_
  refine nq_law2 (sf := .int r) C.1 C.2.1 C.2.2.2.2.1 C.2.2.2.2.2.1 (tX9_answer (nq_M0 E L2) hm1) gl_X9_answer rfl rfl dsX9_answer (by decide) rfl rfl rfl (Nat.le_of_ble_eq_true rfl) dL_law_1135 ?_
  refine nq_icmp_eq C.1 (tgt := 1728) (by decide) dL_law_1138 (fun _ => ?_) (fun c => absurd rfl c)
  exact kk Mx1 Mm1 hR1
set_option maxHeartbeats 4000000 in
theorem lc_work {R : Mem → Mem → Prop} {Y : Cy} {E : Ev} {l : Launch} {b Ln : Nat} {xs : Nat → Int32} {L1 L2 : List Nat} {cs ss i : Nat} {Mx Mm : Mem} (C : nq_LC Y E l b Ln xs L1 L2 cs ss) (hbA : ¬ nq_A E b) (hi : i + 6 ≤ Ln) (hR : R Mx Mm) (hop : ∀ (a0 : Int32) (a1 : Int32) (Mx Mm : Mem), R Mx Mm → ∃ (r : Int32) (Mx1 Mm1 : Mem), fX8_work a0 a1 Mx = some (r, Mx1) ∧ fX9_work a0 a1 Mm = some (r, Mm1) ∧ R Mx1 Mm1) (kk : ∀ Mx1 Mm1, R Mx1 Mm1 → nq_LG Y E L1 L2 cs ss 1728 [(0, .ref b), (1, .ref (nq_adL L1 0)), (2, .ref (nq_adL L2 0)), (3, .int (nI i))] [] Mx1 Mm1) : nq_LG Y E L1 L2 cs ss 1143 [(0, .ref b), (1, .ref (nq_adL L1 0)), (2, .ref (nq_adL L2 0)), (3, .int (nI i))] [] Mx Mm := by
  obtain ⟨r, Mx1, Mm1, hx1, hm1, hR1⟩ := hop (xs (nI i + 1).toNatClampNeg) (xs (nI i + 2).toNatClampNeg) Mx Mm hR
  refine nq_aload_n C.1 rfl 1 rfl dL_law_1143 ?_
  refine nq_aload_n C.1 rfl 0 rfl dL_law_1144 ?_
  refine nq_iload_n C.1 rfl 3 rfl dL_law_1145 ?_
  refine nq_iconst C.1 (v := 1) (by decide) dL_law_1146 ?_
  refine nq_iadd C.1 dL_law_1147 ?_
  refine nq_sld C.1 C.2.2.1 C.2.2.2.1 hbA (nq_ixc (c := 1) (by omega) C.2.2.2.2.2.2) dL_law_1148 ?_
  refine nq_aload_n C.1 rfl 0 rfl dL_law_1149 ?_
  refine nq_iload_n C.1 rfl 3 rfl dL_law_1150 ?_
  refine nq_iconst C.1 (v := 2) (by decide) dL_law_1151 ?_
  refine nq_iadd C.1 dL_law_1152 ?_
  refine nq_sld C.1 C.2.2.1 C.2.2.2.1 hbA (nq_ixc (c := 2) (by omega) C.2.2.2.2.2.2) dL_law_1153 ?_
  refine nq_law1 (sf := .int r) C.1 C.2.1 C.2.2.2.2.1 C.2.2.2.2.2.1 (tX8_work (nq_N0 E L1) hx1) gl_X8_work rfl rfl dsX8_work (by decide) rfl rfl rfl (Nat.le_of_ble_eq_true rfl) dL_law_1154 ?_
  refine nq_aload_n C.1 rfl 2 rfl dL_law_1157 ?_
  refine nq_aload_n C.1 rfl 0 rfl dL_law_1158 ?_
  refine nq_iload_n C.1 rfl 3 rfl dL_law_1159 ?_
  refine nq_iconst C.1 (v := 1) (by decide) dL_law_1160 ?_
  refine nq_iadd C.1 dL_law_1161 ?_
  refine nq_sld C.1 C.2.2.1 C.2.2.2.1 hbA (nq_ixc (c := 1) (by omega) C.2.2.2.2.2.2) dL_law_1162 ?_
  refine nq_aload_n C.1 rfl 0 rfl dL_law_1163 ?_
  refine nq_iload_n C.1 rfl 3 rfl dL_law_1164 ?_
  refine nq_iconst C.1 (v := 2) (by decide) dL_law_1165 ?_
  refine nq_iadd C.1 dL_law_1166 ?_
  refine nq_sld C.1 C.2.2.1 C.2.2.2.1 hbA (nq_ixc (c := 2) (by omega) C.2.2.2.2.2.2) dL_law_1167 ?_
  refine nq_law2 (sf := .int r) C.1 C.2.1 C.2.2.2.2.1 C.2.2.2.2.2.1 (tX9_work (nq_M0 E L2) hm1) gl_X9_work rfl rfl dsX9_work (by decide) rfl rfl rfl (Nat.le_of_ble_eq_true rfl) dL_law_1168 ?_
  refine nq_icmp_eq C.1 (tgt := 1728) (by decide) dL_law_1171 (fun _ => ?_) (fun c => absurd rfl c)
  exact kk Mx1 Mm1 hR1
set_option maxHeartbeats 4000000 in
theorem lc_blind {R : Mem → Mem → Prop} {Y : Cy} {E : Ev} {l : Launch} {b Ln : Nat} {xs : Nat → Int32} {L1 L2 : List Nat} {cs ss i : Nat} {Mx Mm : Mem} (C : nq_LC Y E l b Ln xs L1 L2 cs ss) (hbA : ¬ nq_A E b) (hi : i + 6 ≤ Ln) (hR : R Mx Mm) (hop : ∀ (a0 : Int32) (a1 : Int32) (Mx Mm : Mem), R Mx Mm → ∃ (r : Int32) (Mx1 Mm1 : Mem), fX8_blind a0 a1 Mx = some (r, Mx1) ∧ fX9_blind a0 a1 Mm = some (r, Mm1) ∧ R Mx1 Mm1) (kk : ∀ Mx1 Mm1, R Mx1 Mm1 → nq_LG Y E L1 L2 cs ss 1728 [(0, .ref b), (1, .ref (nq_adL L1 0)), (2, .ref (nq_adL L2 0)), (3, .int (nI i))] [] Mx1 Mm1) : nq_LG Y E L1 L2 cs ss 1176 [(0, .ref b), (1, .ref (nq_adL L1 0)), (2, .ref (nq_adL L2 0)), (3, .int (nI i))] [] Mx Mm := by
  obtain ⟨r, Mx1, Mm1, hx1, hm1, hR1⟩ := hop (xs (nI i + 1).toNatClampNeg) (xs (nI i + 2).toNatClampNeg) Mx Mm hR
  refine nq_aload_n C.1 rfl 1 rfl dL_law_1176 ?_
  refine nq_aload_n C.1 rfl 0 rfl dL_law_1177 ?_
  refine nq_iload_n C.1 rfl 3 rfl dL_law_1178 ?_
  refine nq_iconst C.1 (v := 1) (by decide) dL_law_1179 ?_
  refine nq_iadd C.1 dL_law_1180 ?_
  refine nq_sld C.1 C.2.2.1 C.2.2.2.1 hbA (nq_ixc (c := 1) (by omega) C.2.2.2.2.2.2) dL_law_1181 ?_
  refine nq_aload_n C.1 rfl 0 rfl dL_law_1182 ?_
  refine nq_iload_n C.1 rfl 3 rfl dL_law_1183 ?_
  refine nq_iconst C.1 (v := 2) (by decide) dL_law_1184 ?_
  refine nq_iadd C.1 dL_law_1185 ?_
  refine nq_sld C.1 C.2.2.1 C.2.2.2.1 hbA (nq_ixc (c := 2) (by omega) C.2.2.2.2.2.2) dL_law_1186 ?_
  refine nq_law1 (sf := .int r) C.1 C.2.1 C.2.2.2.2.1 C.2.2.2.2.2.1 (tX8_blind (nq_N0 E L1) hx1) gl_X8_blind rfl rfl dsX8_blind (by decide) rfl rfl rfl (Nat.le_of_ble_eq_true rfl) dL_law_1187 ?_
  refine nq_aload_n C.1 rfl 2 rfl dL_law_1190 ?_
  refine nq_aload_n C.1 rfl 0 rfl dL_law_1191 ?_
  refine nq_iload_n C.1 rfl 3 rfl dL_law_1192 ?_
  refine nq_iconst C.1 (v := 1) (by decide) dL_law_1193 ?_
  refine nq_iadd C.1 dL_law_1194 ?_
  refine nq_sld C.1 C.2.2.1 C.2.2.2.1 hbA (nq_ixc (c := 1) (by omega) C.2.2.2.2.2.2) dL_law_1195 ?_
  refine nq_aload_n C.1 rfl 0 rfl dL_law_1196 ?_
  refine nq_iload_n C.1 rfl 3 rfl dL_law_1197 ?_
  refine nq_iconst C.1 (v := 2) (by decide) dL_law_1198 ?_
  refine nq_iadd C.1 dL_law_1199 ?_
  refine nq_sld C.1 C.2.2.1 C.2.2.2.1 hbA (nq_ixc (c := 2) (by omega) C.2.2.2.2.2.2) dL_law_1200 ?_
  refine nq_law2 (sf := .int r) C.1 C.2.1 C.2.2.2.2.1 C.2.2.2.2.2.1 (tX9_blind (nq_M0 E L2) hm1) gl_X9_blind rfl rfl dsX9_blind (by decide) rfl rfl rfl (Nat.le_of_ble_eq_true rfl) dL_law_1201 ?_
  refine nq_icmp_eq C.1 (tgt := 1728) (by decide) dL_law_1204 (fun _ => ?_) (fun c => absurd rfl c)
  exact kk Mx1 Mm1 hR1
set_option maxHeartbeats 4000000 in
theorem lc_edge {R : Mem → Mem → Prop} {Y : Cy} {E : Ev} {l : Launch} {b Ln : Nat} {xs : Nat → Int32} {L1 L2 : List Nat} {cs ss i : Nat} {Mx Mm : Mem} (C : nq_LC Y E l b Ln xs L1 L2 cs ss) (hbA : ¬ nq_A E b) (hi : i + 6 ≤ Ln) (hR : R Mx Mm) (hop : ∀ (a0 : Int32) (a1 : Int32) (Mx Mm : Mem), R Mx Mm → ∃ (r : Int32) (Mx1 Mm1 : Mem), fX8_edge a0 a1 Mx = some (r, Mx1) ∧ fX9_edge a0 a1 Mm = some (r, Mm1) ∧ R Mx1 Mm1) (kk : ∀ Mx1 Mm1, R Mx1 Mm1 → nq_LG Y E L1 L2 cs ss 1728 [(0, .ref b), (1, .ref (nq_adL L1 0)), (2, .ref (nq_adL L2 0)), (3, .int (nI i))] [] Mx1 Mm1) : nq_LG Y E L1 L2 cs ss 1209 [(0, .ref b), (1, .ref (nq_adL L1 0)), (2, .ref (nq_adL L2 0)), (3, .int (nI i))] [] Mx Mm := by
  obtain ⟨r, Mx1, Mm1, hx1, hm1, hR1⟩ := hop (xs (nI i + 1).toNatClampNeg) (xs (nI i + 2).toNatClampNeg) Mx Mm hR
  refine nq_aload_n C.1 rfl 1 rfl dL_law_1209 ?_
  refine nq_aload_n C.1 rfl 0 rfl dL_law_1210 ?_
  refine nq_iload_n C.1 rfl 3 rfl dL_law_1211 ?_
  refine nq_iconst C.1 (v := 1) (by decide) dL_law_1212 ?_
  refine nq_iadd C.1 dL_law_1213 ?_
  refine nq_sld C.1 C.2.2.1 C.2.2.2.1 hbA (nq_ixc (c := 1) (by omega) C.2.2.2.2.2.2) dL_law_1214 ?_
  refine nq_aload_n C.1 rfl 0 rfl dL_law_1215 ?_
  refine nq_iload_n C.1 rfl 3 rfl dL_law_1216 ?_
  refine nq_iconst C.1 (v := 2) (by decide) dL_law_1217 ?_
  refine nq_iadd C.1 dL_law_1218 ?_
  refine nq_sld C.1 C.2.2.1 C.2.2.2.1 hbA (nq_ixc (c := 2) (by omega) C.2.2.2.2.2.2) dL_law_1219 ?_
  refine nq_law1 (sf := .int r) C.1 C.2.1 C.2.2.2.2.1 C.2.2.2.2.2.1 (tX8_edge (nq_N0 E L1) hx1) gl_X8_edge rfl rfl dsX8_edge (by decide) rfl rfl rfl (Nat.le_of_ble_eq_true rfl) dL_law_1220 ?_
  refine nq_aload_n C.1 rfl 2 rfl dL_law_1223 ?_
  refine nq_aload_n C.1 rfl 0 rfl dL_law_1224 ?_
  refine nq_iload_n C.1 rfl 3 rfl dL_law_1225 ?_
  refine nq_iconst C.1 (v := 1) (by decide) dL_law_1226 ?_
  refine nq_iadd C.1 dL_law_1227 ?_
  refine nq_sld C.1 C.2.2.1 C.2.2.2.1 hbA (nq_ixc (c := 1) (by omega) C.2.2.2.2.2.2) dL_law_1228 ?_
  refine nq_aload_n C.1 rfl 0 rfl dL_law_1229 ?_
  refine nq_iload_n C.1 rfl 3 rfl dL_law_1230 ?_
  refine nq_iconst C.1 (v := 2) (by decide) dL_law_1231 ?_
  refine nq_iadd C.1 dL_law_1232 ?_
  refine nq_sld C.1 C.2.2.1 C.2.2.2.1 hbA (nq_ixc (c := 2) (by omega) C.2.2.2.2.2.2) dL_law_1233 ?_
  refine nq_law2 (sf := .int r) C.1 C.2.1 C.2.2.2.2.1 C.2.2.2.2.2.1 (tX9_edge (nq_M0 E L2) hm1) gl_X9_edge rfl rfl dsX9_edge (by decide) rfl rfl rfl (Nat.le_of_ble_eq_true rfl) dL_law_1234 ?_
  refine nq_icmp_eq C.1 (tgt := 1728) (by decide) dL_law_1237 (fun _ => ?_) (fun c => absurd rfl c)
  exact kk Mx1 Mm1 hR1
set_option maxHeartbeats 4000000 in
theorem lc_minds {R : Mem → Mem → Prop} {Y : Cy} {E : Ev} {l : Launch} {b Ln : Nat} {xs : Nat → Int32} {L1 L2 : List Nat} {cs ss i : Nat} {Mx Mm : Mem} (C : nq_LC Y E l b Ln xs L1 L2 cs ss) (hbA : ¬ nq_A E b) (hi : i + 6 ≤ Ln) (hR : R Mx Mm) (hop : ∀ (a0 : Int32) (a1 : Int32) (Mx Mm : Mem), R Mx Mm → ∃ (r : Int32) (Mx1 Mm1 : Mem), fX8_minds a0 a1 Mx = some (r, Mx1) ∧ fX9_minds a0 a1 Mm = some (r, Mm1) ∧ R Mx1 Mm1) (kk : ∀ Mx1 Mm1, R Mx1 Mm1 → nq_LG Y E L1 L2 cs ss 1728 [(0, .ref b), (1, .ref (nq_adL L1 0)), (2, .ref (nq_adL L2 0)), (3, .int (nI i))] [] Mx1 Mm1) : nq_LG Y E L1 L2 cs ss 1242 [(0, .ref b), (1, .ref (nq_adL L1 0)), (2, .ref (nq_adL L2 0)), (3, .int (nI i))] [] Mx Mm := by
  obtain ⟨r, Mx1, Mm1, hx1, hm1, hR1⟩ := hop (xs (nI i + 1).toNatClampNeg) (xs (nI i + 2).toNatClampNeg) Mx Mm hR
  refine nq_aload_n C.1 rfl 1 rfl dL_law_1242 ?_
  refine nq_aload_n C.1 rfl 0 rfl dL_law_1243 ?_
  refine nq_iload_n C.1 rfl 3 rfl dL_law_1244 ?_
  refine nq_iconst C.1 (v := 1) (by decide) dL_law_1245 ?_
  refine nq_iadd C.1 dL_law_1246 ?_
  refine nq_sld C.1 C.2.2.1 C.2.2.2.1 hbA (nq_ixc (c := 1) (by omega) C.2.2.2.2.2.2) dL_law_1247 ?_
  refine nq_aload_n C.1 rfl 0 rfl dL_law_1248 ?_
  refine nq_iload_n C.1 rfl 3 rfl dL_law_1249 ?_
  refine nq_iconst C.1 (v := 2) (by decide) dL_law_1250 ?_
  refine nq_iadd C.1 dL_law_1251 ?_
  refine nq_sld C.1 C.2.2.1 C.2.2.2.1 hbA (nq_ixc (c := 2) (by omega) C.2.2.2.2.2.2) dL_law_1252 ?_
  refine nq_law1 (sf := .int r) C.1 C.2.1 C.2.2.2.2.1 C.2.2.2.2.2.1 (tX8_minds (nq_N0 E L1) hx1) gl_X8_minds rfl rfl dsX8_minds (by decide) rfl rfl rfl (Nat.le_of_ble_eq_true rfl) dL_law_1253 ?_
  refine nq_aload_n C.1 rfl 2 rfl dL_law_1256 ?_
  refine nq_aload_n C.1 rfl 0 rfl dL_law_1257 ?_
  refine nq_iload_n C.1 rfl 3 rfl dL_law_1258 ?_
  refine nq_iconst C.1 (v := 1) (by decide) dL_law_1259 ?_
  refine nq_iadd C.1 dL_law_1260 ?_
  refine nq_sld C.1 C.2.2.1 C.2.2.2.1 hbA (nq_ixc (c := 1) (by omega) C.2.2.2.2.2.2) dL_law_1261 ?_
  refine nq_aload_n C.1 rfl 0 rfl dL_law_1262 ?_
  refine nq_iload_n C.1 rfl 3 rfl dL_law_1263 ?_
  refine nq_iconst C.1 (v := 2) (by decide) dL_law_1264 ?_
  refine nq_iadd C.1 dL_law_1265 ?_
  refine nq_sld C.1 C.2.2.1 C.2.2.2.1 hbA (nq_ixc (c := 2) (by omega) C.2.2.2.2.2.2) dL_law_1266 ?_
  refine nq_law2 (sf := .int r) C.1 C.2.1 C.2.2.2.2.1 C.2.2.2.2.2.1 (tX9_minds (nq_M0 E L2) hm1) gl_X9_minds rfl rfl dsX9_minds (by decide) rfl rfl rfl (Nat.le_of_ble_eq_true rfl) dL_law_1267 ?_
  refine nq_icmp_eq C.1 (tgt := 1728) (by decide) dL_law_1270 (fun _ => ?_) (fun c => absurd rfl c)
  exact kk Mx1 Mm1 hR1
set_option maxHeartbeats 4000000 in
theorem lc_heirs {R : Mem → Mem → Prop} {Y : Cy} {E : Ev} {l : Launch} {b Ln : Nat} {xs : Nat → Int32} {L1 L2 : List Nat} {cs ss i : Nat} {Mx Mm : Mem} (C : nq_LC Y E l b Ln xs L1 L2 cs ss) (hbA : ¬ nq_A E b) (hi : i + 6 ≤ Ln) (hR : R Mx Mm) (hop : ∀ (a0 : Int32) (a1 : Int32) (a2 : Int32) (Mx Mm : Mem), R Mx Mm → ∃ (r : Int64) (Mx1 Mm1 : Mem), fX8_heirs a0 a1 a2 Mx = some (r, Mx1) ∧ fX9_heirs a0 a1 a2 Mm = some (r, Mm1) ∧ R Mx1 Mm1) (kk : ∀ Mx1 Mm1, R Mx1 Mm1 → nq_LG Y E L1 L2 cs ss 1728 [(0, .ref b), (1, .ref (nq_adL L1 0)), (2, .ref (nq_adL L2 0)), (3, .int (nI i))] [] Mx1 Mm1) : nq_LG Y E L1 L2 cs ss 1275 [(0, .ref b), (1, .ref (nq_adL L1 0)), (2, .ref (nq_adL L2 0)), (3, .int (nI i))] [] Mx Mm := by
  obtain ⟨r, Mx1, Mm1, hx1, hm1, hR1⟩ := hop (xs (nI i + 1).toNatClampNeg) (xs (nI i + 2).toNatClampNeg) (xs (nI i + 3).toNatClampNeg) Mx Mm hR
  refine nq_aload_n C.1 rfl 1 rfl dL_law_1275 ?_
  refine nq_aload_n C.1 rfl 0 rfl dL_law_1276 ?_
  refine nq_iload_n C.1 rfl 3 rfl dL_law_1277 ?_
  refine nq_iconst C.1 (v := 1) (by decide) dL_law_1278 ?_
  refine nq_iadd C.1 dL_law_1279 ?_
  refine nq_sld C.1 C.2.2.1 C.2.2.2.1 hbA (nq_ixc (c := 1) (by omega) C.2.2.2.2.2.2) dL_law_1280 ?_
  refine nq_aload_n C.1 rfl 0 rfl dL_law_1281 ?_
  refine nq_iload_n C.1 rfl 3 rfl dL_law_1282 ?_
  refine nq_iconst C.1 (v := 2) (by decide) dL_law_1283 ?_
  refine nq_iadd C.1 dL_law_1284 ?_
  refine nq_sld C.1 C.2.2.1 C.2.2.2.1 hbA (nq_ixc (c := 2) (by omega) C.2.2.2.2.2.2) dL_law_1285 ?_
  refine nq_aload_n C.1 rfl 0 rfl dL_law_1286 ?_
  refine nq_iload_n C.1 rfl 3 rfl dL_law_1287 ?_
  refine nq_iconst C.1 (v := 3) (by decide) dL_law_1288 ?_
  refine nq_iadd C.1 dL_law_1289 ?_
  refine nq_sld C.1 C.2.2.1 C.2.2.2.1 hbA (nq_ixc (c := 3) (by omega) C.2.2.2.2.2.2) dL_law_1290 ?_
  refine nq_law1 (sf := .long r) C.1 C.2.1 C.2.2.2.2.1 C.2.2.2.2.2.1 (tX8_heirs (nq_N0 E L1) hx1) gl_X8_heirs rfl rfl dsX8_heirs (by decide) rfl rfl rfl (Nat.le_of_ble_eq_true rfl) dL_law_1291 ?_
  refine nq_aload_n C.1 rfl 2 rfl dL_law_1294 ?_
  refine nq_aload_n C.1 rfl 0 rfl dL_law_1295 ?_
  refine nq_iload_n C.1 rfl 3 rfl dL_law_1296 ?_
  refine nq_iconst C.1 (v := 1) (by decide) dL_law_1297 ?_
  refine nq_iadd C.1 dL_law_1298 ?_
  refine nq_sld C.1 C.2.2.1 C.2.2.2.1 hbA (nq_ixc (c := 1) (by omega) C.2.2.2.2.2.2) dL_law_1299 ?_
  refine nq_aload_n C.1 rfl 0 rfl dL_law_1300 ?_
  refine nq_iload_n C.1 rfl 3 rfl dL_law_1301 ?_
  refine nq_iconst C.1 (v := 2) (by decide) dL_law_1302 ?_
  refine nq_iadd C.1 dL_law_1303 ?_
  refine nq_sld C.1 C.2.2.1 C.2.2.2.1 hbA (nq_ixc (c := 2) (by omega) C.2.2.2.2.2.2) dL_law_1304 ?_
  refine nq_aload_n C.1 rfl 0 rfl dL_law_1305 ?_
  refine nq_iload_n C.1 rfl 3 rfl dL_law_1306 ?_
  refine nq_iconst C.1 (v := 3) (by decide) dL_law_1307 ?_
  refine nq_iadd C.1 dL_law_1308 ?_
  refine nq_sld C.1 C.2.2.1 C.2.2.2.1 hbA (nq_ixc (c := 3) (by omega) C.2.2.2.2.2.2) dL_law_1309 ?_
  refine nq_law2 (sf := .long r) C.1 C.2.1 C.2.2.2.2.1 C.2.2.2.2.2.1 (tX9_heirs (nq_M0 E L2) hm1) gl_X9_heirs rfl rfl dsX9_heirs (by decide) rfl rfl rfl (Nat.le_of_ble_eq_true rfl) dL_law_1310 ?_
  refine nq_lcmp C.1 dL_law_1313 ?_
  refine nq_if_eq C.1 (tgt := 1728) (by decide) dL_law_1314 (fun _ => ?_) (fun c => absurd (nq_lg0 r) c)
  exact kk Mx1 Mm1 hR1
set_option maxHeartbeats 4000000 in
theorem lc_goods {R : Mem → Mem → Prop} {Y : Cy} {E : Ev} {l : Launch} {b Ln : Nat} {xs : Nat → Int32} {L1 L2 : List Nat} {cs ss i : Nat} {Mx Mm : Mem} (C : nq_LC Y E l b Ln xs L1 L2 cs ss) (hbA : ¬ nq_A E b) (hi : i + 6 ≤ Ln) (hR : R Mx Mm) (hop : ∀ (a0 : Int32) (a1 : Int32) (a2 : Int32) (Mx Mm : Mem), R Mx Mm → ∃ (r : Int32) (Mx1 Mm1 : Mem), fX8_goods a0 a1 a2 Mx = some (r, Mx1) ∧ fX9_goods a0 a1 a2 Mm = some (r, Mm1) ∧ R Mx1 Mm1) (kk : ∀ Mx1 Mm1, R Mx1 Mm1 → nq_LG Y E L1 L2 cs ss 1728 [(0, .ref b), (1, .ref (nq_adL L1 0)), (2, .ref (nq_adL L2 0)), (3, .int (nI i))] [] Mx1 Mm1) : nq_LG Y E L1 L2 cs ss 1319 [(0, .ref b), (1, .ref (nq_adL L1 0)), (2, .ref (nq_adL L2 0)), (3, .int (nI i))] [] Mx Mm := by
  obtain ⟨r, Mx1, Mm1, hx1, hm1, hR1⟩ := hop (xs (nI i + 1).toNatClampNeg) (xs (nI i + 2).toNatClampNeg) (xs (nI i + 3).toNatClampNeg) Mx Mm hR
  refine nq_aload_n C.1 rfl 1 rfl dL_law_1319 ?_
  refine nq_aload_n C.1 rfl 0 rfl dL_law_1320 ?_
  refine nq_iload_n C.1 rfl 3 rfl dL_law_1321 ?_
  refine nq_iconst C.1 (v := 1) (by decide) dL_law_1322 ?_
  refine nq_iadd C.1 dL_law_1323 ?_
  refine nq_sld C.1 C.2.2.1 C.2.2.2.1 hbA (nq_ixc (c := 1) (by omega) C.2.2.2.2.2.2) dL_law_1324 ?_
  refine nq_aload_n C.1 rfl 0 rfl dL_law_1325 ?_
  refine nq_iload_n C.1 rfl 3 rfl dL_law_1326 ?_
  refine nq_iconst C.1 (v := 2) (by decide) dL_law_1327 ?_
  refine nq_iadd C.1 dL_law_1328 ?_
  refine nq_sld C.1 C.2.2.1 C.2.2.2.1 hbA (nq_ixc (c := 2) (by omega) C.2.2.2.2.2.2) dL_law_1329 ?_
  refine nq_aload_n C.1 rfl 0 rfl dL_law_1330 ?_
  refine nq_iload_n C.1 rfl 3 rfl dL_law_1331 ?_
  refine nq_iconst C.1 (v := 3) (by decide) dL_law_1332 ?_
  refine nq_iadd C.1 dL_law_1333 ?_
  refine nq_sld C.1 C.2.2.1 C.2.2.2.1 hbA (nq_ixc (c := 3) (by omega) C.2.2.2.2.2.2) dL_law_1334 ?_
  refine nq_law1 (sf := .int r) C.1 C.2.1 C.2.2.2.2.1 C.2.2.2.2.2.1 (tX8_goods (nq_N0 E L1) hx1) gl_X8_goods rfl rfl dsX8_goods (by decide) rfl rfl rfl (Nat.le_of_ble_eq_true rfl) dL_law_1335 ?_
  refine nq_aload_n C.1 rfl 2 rfl dL_law_1338 ?_
  refine nq_aload_n C.1 rfl 0 rfl dL_law_1339 ?_
  refine nq_iload_n C.1 rfl 3 rfl dL_law_1340 ?_
  refine nq_iconst C.1 (v := 1) (by decide) dL_law_1341 ?_
  refine nq_iadd C.1 dL_law_1342 ?_
  refine nq_sld C.1 C.2.2.1 C.2.2.2.1 hbA (nq_ixc (c := 1) (by omega) C.2.2.2.2.2.2) dL_law_1343 ?_
  refine nq_aload_n C.1 rfl 0 rfl dL_law_1344 ?_
  refine nq_iload_n C.1 rfl 3 rfl dL_law_1345 ?_
  refine nq_iconst C.1 (v := 2) (by decide) dL_law_1346 ?_
  refine nq_iadd C.1 dL_law_1347 ?_
  refine nq_sld C.1 C.2.2.1 C.2.2.2.1 hbA (nq_ixc (c := 2) (by omega) C.2.2.2.2.2.2) dL_law_1348 ?_
  refine nq_aload_n C.1 rfl 0 rfl dL_law_1349 ?_
  refine nq_iload_n C.1 rfl 3 rfl dL_law_1350 ?_
  refine nq_iconst C.1 (v := 3) (by decide) dL_law_1351 ?_
  refine nq_iadd C.1 dL_law_1352 ?_
  refine nq_sld C.1 C.2.2.1 C.2.2.2.1 hbA (nq_ixc (c := 3) (by omega) C.2.2.2.2.2.2) dL_law_1353 ?_
  refine nq_law2 (sf := .int r) C.1 C.2.1 C.2.2.2.2.1 C.2.2.2.2.2.1 (tX9_goods (nq_M0 E L2) hm1) gl_X9_goods rfl rfl dsX9_goods (by decide) rfl rfl rfl (Nat.le_of_ble_eq_true rfl) dL_law_1354 ?_
  refine nq_icmp_eq C.1 (tgt := 1728) (by decide) dL_law_1357 (fun _ => ?_) (fun c => absurd rfl c)
  exact kk Mx1 Mm1 hR1
set_option maxHeartbeats 4000000 in
theorem lc_seed {R : Mem → Mem → Prop} {Y : Cy} {E : Ev} {l : Launch} {b Ln : Nat} {xs : Nat → Int32} {L1 L2 : List Nat} {cs ss i : Nat} {Mx Mm : Mem} (C : nq_LC Y E l b Ln xs L1 L2 cs ss) (hbA : ¬ nq_A E b) (hi : i + 6 ≤ Ln) (hR : R Mx Mm) (hop : ∀ (a0 : Int32) (Mx Mm : Mem), R Mx Mm → ∃ (r : Int32) (Mx1 Mm1 : Mem), fX8_seed a0 Mx = some (r, Mx1) ∧ fX9_seed a0 Mm = some (r, Mm1) ∧ R Mx1 Mm1) (kk : ∀ Mx1 Mm1, R Mx1 Mm1 → nq_LG Y E L1 L2 cs ss 1728 [(0, .ref b), (1, .ref (nq_adL L1 0)), (2, .ref (nq_adL L2 0)), (3, .int (nI i))] [] Mx1 Mm1) : nq_LG Y E L1 L2 cs ss 1362 [(0, .ref b), (1, .ref (nq_adL L1 0)), (2, .ref (nq_adL L2 0)), (3, .int (nI i))] [] Mx Mm := by
  obtain ⟨r, Mx1, Mm1, hx1, hm1, hR1⟩ := hop (xs (nI i + 1).toNatClampNeg) Mx Mm hR
  refine nq_aload_n C.1 rfl 1 rfl dL_law_1362 ?_
  refine nq_aload_n C.1 rfl 0 rfl dL_law_1363 ?_
  refine nq_iload_n C.1 rfl 3 rfl dL_law_1364 ?_
  refine nq_iconst C.1 (v := 1) (by decide) dL_law_1365 ?_
  refine nq_iadd C.1 dL_law_1366 ?_
  refine nq_sld C.1 C.2.2.1 C.2.2.2.1 hbA (nq_ixc (c := 1) (by omega) C.2.2.2.2.2.2) dL_law_1367 ?_
  refine nq_law1 (sf := .int r) C.1 C.2.1 C.2.2.2.2.1 C.2.2.2.2.2.1 (tX8_seed (nq_N0 E L1) hx1) gl_X8_seed rfl rfl dsX8_seed (by decide) rfl rfl rfl (Nat.le_of_ble_eq_true rfl) dL_law_1368 ?_
  refine nq_aload_n C.1 rfl 2 rfl dL_law_1371 ?_
  refine nq_aload_n C.1 rfl 0 rfl dL_law_1372 ?_
  refine nq_iload_n C.1 rfl 3 rfl dL_law_1373 ?_
  refine nq_iconst C.1 (v := 1) (by decide) dL_law_1374 ?_
  refine nq_iadd C.1 dL_law_1375 ?_
  refine nq_sld C.1 C.2.2.1 C.2.2.2.1 hbA (nq_ixc (c := 1) (by omega) C.2.2.2.2.2.2) dL_law_1376 ?_
  refine nq_law2 (sf := .int r) C.1 C.2.1 C.2.2.2.2.1 C.2.2.2.2.2.1 (tX9_seed (nq_M0 E L2) hm1) gl_X9_seed rfl rfl dsX9_seed (by decide) rfl rfl rfl (Nat.le_of_ble_eq_true rfl) dL_law_1377 ?_
  refine nq_icmp_eq C.1 (tgt := 1728) (by decide) dL_law_1380 (fun _ => ?_) (fun c => absurd rfl c)
  exact kk Mx1 Mm1 hR1
set_option maxHeartbeats 4000000 in
theorem lc_voice {R : Mem → Mem → Prop} {Y : Cy} {E : Ev} {l : Launch} {b Ln : Nat} {xs : Nat → Int32} {L1 L2 : List Nat} {cs ss i : Nat} {Mx Mm : Mem} (C : nq_LC Y E l b Ln xs L1 L2 cs ss) (hbA : ¬ nq_A E b) (hi : i + 6 ≤ Ln) (hR : R Mx Mm) (hop : ∀ (a0 : Int32) (a1 : Int32) (a2 : Int32) (Mx Mm : Mem), R Mx Mm → ∃ (r : Int32) (Mx1 Mm1 : Mem), fX8_voice a0 a1 a2 Mx = some (r, Mx1) ∧ fX9_voice a0 a1 a2 Mm = some (r, Mm1) ∧ R Mx1 Mm1) (kk : ∀ Mx1 Mm1, R Mx1 Mm1 → nq_LG Y E L1 L2 cs ss 1728 [(0, .ref b), (1, .ref (nq_adL L1 0)), (2, .ref (nq_adL L2 0)), (3, .int (nI i))] [] Mx1 Mm1) : nq_LG Y E L1 L2 cs ss 1385 [(0, .ref b), (1, .ref (nq_adL L1 0)), (2, .ref (nq_adL L2 0)), (3, .int (nI i))] [] Mx Mm := by
  obtain ⟨r, Mx1, Mm1, hx1, hm1, hR1⟩ := hop (xs (nI i + 1).toNatClampNeg) (xs (nI i + 2).toNatClampNeg) (xs (nI i + 3).toNatClampNeg) Mx Mm hR
  refine nq_aload_n C.1 rfl 1 rfl dL_law_1385 ?_
  refine nq_aload_n C.1 rfl 0 rfl dL_law_1386 ?_
  refine nq_iload_n C.1 rfl 3 rfl dL_law_1387 ?_
  refine nq_iconst C.1 (v := 1) (by decide) dL_law_1388 ?_
  refine nq_iadd C.1 dL_law_1389 ?_
  refine nq_sld C.1 C.2.2.1 C.2.2.2.1 hbA (nq_ixc (c := 1) (by omega) C.2.2.2.2.2.2) dL_law_1390 ?_
  refine nq_aload_n C.1 rfl 0 rfl dL_law_1391 ?_
  refine nq_iload_n C.1 rfl 3 rfl dL_law_1392 ?_
  refine nq_iconst C.1 (v := 2) (by decide) dL_law_1393 ?_
  refine nq_iadd C.1 dL_law_1394 ?_
  refine nq_sld C.1 C.2.2.1 C.2.2.2.1 hbA (nq_ixc (c := 2) (by omega) C.2.2.2.2.2.2) dL_law_1395 ?_
  refine nq_aload_n C.1 rfl 0 rfl dL_law_1396 ?_
  refine nq_iload_n C.1 rfl 3 rfl dL_law_1397 ?_
  refine nq_iconst C.1 (v := 3) (by decide) dL_law_1398 ?_
  refine nq_iadd C.1 dL_law_1399 ?_
  refine nq_sld C.1 C.2.2.1 C.2.2.2.1 hbA (nq_ixc (c := 3) (by omega) C.2.2.2.2.2.2) dL_law_1400 ?_
  refine nq_law1 (sf := .int r) C.1 C.2.1 C.2.2.2.2.1 C.2.2.2.2.2.1 (tX8_voice (nq_N0 E L1) hx1) gl_X8_voice rfl rfl dsX8_voice (by decide) rfl rfl rfl (Nat.le_of_ble_eq_true rfl) dL_law_1401 ?_
  refine nq_aload_n C.1 rfl 2 rfl dL_law_1404 ?_
  refine nq_aload_n C.1 rfl 0 rfl dL_law_1405 ?_
  refine nq_iload_n C.1 rfl 3 rfl dL_law_1406 ?_
  refine nq_iconst C.1 (v := 1) (by decide) dL_law_1407 ?_
  refine nq_iadd C.1 dL_law_1408 ?_
  refine nq_sld C.1 C.2.2.1 C.2.2.2.1 hbA (nq_ixc (c := 1) (by omega) C.2.2.2.2.2.2) dL_law_1409 ?_
  refine nq_aload_n C.1 rfl 0 rfl dL_law_1410 ?_
  refine nq_iload_n C.1 rfl 3 rfl dL_law_1411 ?_
  refine nq_iconst C.1 (v := 2) (by decide) dL_law_1412 ?_
  refine nq_iadd C.1 dL_law_1413 ?_
  refine nq_sld C.1 C.2.2.1 C.2.2.2.1 hbA (nq_ixc (c := 2) (by omega) C.2.2.2.2.2.2) dL_law_1414 ?_
  refine nq_aload_n C.1 rfl 0 rfl dL_law_1415 ?_
  refine nq_iload_n C.1 rfl 3 rfl dL_law_1416 ?_
  refine nq_iconst C.1 (v := 3) (by decide) dL_law_1417 ?_
  refine nq_iadd C.1 dL_law_1418 ?_
  refine nq_sld C.1 C.2.2.1 C.2.2.2.1 hbA (nq_ixc (c := 3) (by omega) C.2.2.2.2.2.2) dL_law_1419 ?_
  refine nq_law2 (sf := .int r) C.1 C.2.1 C.2.2.2.2.1 C.2.2.2.2.2.1 (tX9_voice (nq_M0 E L2) hm1) gl_X9_voice rfl rfl dsX9_voice (by decide) rfl rfl rfl (Nat.le_of_ble_eq_true rfl) dL_law_1420 ?_
  refine nq_icmp_eq C.1 (tgt := 1728) (by decide) dL_law_1423 (fun _ => ?_) (fun c => absurd rfl c)
  exact kk Mx1 Mm1 hR1
set_option maxHeartbeats 4000000 in
theorem lc_trace {R : Mem → Mem → Prop} {Y : Cy} {E : Ev} {l : Launch} {b Ln : Nat} {xs : Nat → Int32} {L1 L2 : List Nat} {cs ss i : Nat} {Mx Mm : Mem} (C : nq_LC Y E l b Ln xs L1 L2 cs ss) (hbA : ¬ nq_A E b) (hi : i + 6 ≤ Ln) (hR : R Mx Mm) (hop : ∀ (a0 : Int32) (Mx Mm : Mem), R Mx Mm → ∃ (r : Int32) (Mx1 Mm1 : Mem), fX8_trace a0 Mx = some (r, Mx1) ∧ fX9_trace a0 Mm = some (r, Mm1) ∧ R Mx1 Mm1) (kk : ∀ Mx1 Mm1, R Mx1 Mm1 → nq_LG Y E L1 L2 cs ss 1728 [(0, .ref b), (1, .ref (nq_adL L1 0)), (2, .ref (nq_adL L2 0)), (3, .int (nI i))] [] Mx1 Mm1) : nq_LG Y E L1 L2 cs ss 1428 [(0, .ref b), (1, .ref (nq_adL L1 0)), (2, .ref (nq_adL L2 0)), (3, .int (nI i))] [] Mx Mm := by
  obtain ⟨r, Mx1, Mm1, hx1, hm1, hR1⟩ := hop (xs (nI i + 1).toNatClampNeg) Mx Mm hR
  refine nq_aload_n C.1 rfl 1 rfl dL_law_1428 ?_
  refine nq_aload_n C.1 rfl 0 rfl dL_law_1429 ?_
  refine nq_iload_n C.1 rfl 3 rfl dL_law_1430 ?_
  refine nq_iconst C.1 (v := 1) (by decide) dL_law_1431 ?_
  refine nq_iadd C.1 dL_law_1432 ?_
  refine nq_sld C.1 C.2.2.1 C.2.2.2.1 hbA (nq_ixc (c := 1) (by omega) C.2.2.2.2.2.2) dL_law_1433 ?_
  refine nq_law1 (sf := .int r) C.1 C.2.1 C.2.2.2.2.1 C.2.2.2.2.2.1 (tX8_trace (nq_N0 E L1) hx1) gl_X8_trace rfl rfl dsX8_trace (by decide) rfl rfl rfl (Nat.le_of_ble_eq_true rfl) dL_law_1434 ?_
  refine nq_aload_n C.1 rfl 2 rfl dL_law_1437 ?_
  refine nq_aload_n C.1 rfl 0 rfl dL_law_1438 ?_
  refine nq_iload_n C.1 rfl 3 rfl dL_law_1439 ?_
  refine nq_iconst C.1 (v := 1) (by decide) dL_law_1440 ?_
  refine nq_iadd C.1 dL_law_1441 ?_
  refine nq_sld C.1 C.2.2.1 C.2.2.2.1 hbA (nq_ixc (c := 1) (by omega) C.2.2.2.2.2.2) dL_law_1442 ?_
  refine nq_law2 (sf := .int r) C.1 C.2.1 C.2.2.2.2.1 C.2.2.2.2.2.1 (tX9_trace (nq_M0 E L2) hm1) gl_X9_trace rfl rfl dsX9_trace (by decide) rfl rfl rfl (Nat.le_of_ble_eq_true rfl) dL_law_1443 ?_
  refine nq_icmp_eq C.1 (tgt := 1728) (by decide) dL_law_1446 (fun _ => ?_) (fun c => absurd rfl c)
  exact kk Mx1 Mm1 hR1
set_option maxHeartbeats 4000000 in
theorem lc_sheet {R : Mem → Mem → Prop} {Y : Cy} {E : Ev} {l : Launch} {b Ln : Nat} {xs : Nat → Int32} {L1 L2 : List Nat} {cs ss i : Nat} {Mx Mm : Mem} (C : nq_LC Y E l b Ln xs L1 L2 cs ss) (hbA : ¬ nq_A E b) (hi : i + 6 ≤ Ln) (hR : R Mx Mm) (hop : ∀ (a0 : Int32) (a1 : Int32) (a2 : Int32) (Mx Mm : Mem), R Mx Mm → ∃ (r : Int32) (Mx1 Mm1 : Mem), fX8_sheet a0 a1 a2 Mx = some (r, Mx1) ∧ fX9_sheet a0 a1 a2 Mm = some (r, Mm1) ∧ R Mx1 Mm1) (kk : ∀ Mx1 Mm1, R Mx1 Mm1 → nq_LG Y E L1 L2 cs ss 1728 [(0, .ref b), (1, .ref (nq_adL L1 0)), (2, .ref (nq_adL L2 0)), (3, .int (nI i))] [] Mx1 Mm1) : nq_LG Y E L1 L2 cs ss 1451 [(0, .ref b), (1, .ref (nq_adL L1 0)), (2, .ref (nq_adL L2 0)), (3, .int (nI i))] [] Mx Mm := by
  obtain ⟨r, Mx1, Mm1, hx1, hm1, hR1⟩ := hop (xs (nI i + 1).toNatClampNeg) (xs (nI i + 2).toNatClampNeg) (xs (nI i + 3).toNatClampNeg) Mx Mm hR
  refine nq_aload_n C.1 rfl 1 rfl dL_law_1451 ?_
  refine nq_aload_n C.1 rfl 0 rfl dL_law_1452 ?_
  refine nq_iload_n C.1 rfl 3 rfl dL_law_1453 ?_
  refine nq_iconst C.1 (v := 1) (by decide) dL_law_1454 ?_
  refine nq_iadd C.1 dL_law_1455 ?_
  refine nq_sld C.1 C.2.2.1 C.2.2.2.1 hbA (nq_ixc (c := 1) (by omega) C.2.2.2.2.2.2) dL_law_1456 ?_
  refine nq_aload_n C.1 rfl 0 rfl dL_law_1457 ?_
  refine nq_iload_n C.1 rfl 3 rfl dL_law_1458 ?_
  refine nq_iconst C.1 (v := 2) (by decide) dL_law_1459 ?_
  refine nq_iadd C.1 dL_law_1460 ?_
  refine nq_sld C.1 C.2.2.1 C.2.2.2.1 hbA (nq_ixc (c := 2) (by omega) C.2.2.2.2.2.2) dL_law_1461 ?_
  refine nq_aload_n C.1 rfl 0 rfl dL_law_1462 ?_
  refine nq_iload_n C.1 rfl 3 rfl dL_law_1463 ?_
  refine nq_iconst C.1 (v := 3) (by decide) dL_law_1464 ?_
  refine nq_iadd C.1 dL_law_1465 ?_
  refine nq_sld C.1 C.2.2.1 C.2.2.2.1 hbA (nq_ixc (c := 3) (by omega) C.2.2.2.2.2.2) dL_law_1466 ?_
  refine nq_law1 (sf := .int r) C.1 C.2.1 C.2.2.2.2.1 C.2.2.2.2.2.1 (tX8_sheet (nq_N0 E L1) hx1) gl_X8_sheet rfl rfl dsX8_sheet (by decide) rfl rfl rfl (Nat.le_of_ble_eq_true rfl) dL_law_1467 ?_
  refine nq_aload_n C.1 rfl 2 rfl dL_law_1470 ?_
  refine nq_aload_n C.1 rfl 0 rfl dL_law_1471 ?_
  refine nq_iload_n C.1 rfl 3 rfl dL_law_1472 ?_
  refine nq_iconst C.1 (v := 1) (by decide) dL_law_1473 ?_
  refine nq_iadd C.1 dL_law_1474 ?_
  refine nq_sld C.1 C.2.2.1 C.2.2.2.1 hbA (nq_ixc (c := 1) (by omega) C.2.2.2.2.2.2) dL_law_1475 ?_
  refine nq_aload_n C.1 rfl 0 rfl dL_law_1476 ?_
  refine nq_iload_n C.1 rfl 3 rfl dL_law_1477 ?_
  refine nq_iconst C.1 (v := 2) (by decide) dL_law_1478 ?_
  refine nq_iadd C.1 dL_law_1479 ?_
  refine nq_sld C.1 C.2.2.1 C.2.2.2.1 hbA (nq_ixc (c := 2) (by omega) C.2.2.2.2.2.2) dL_law_1480 ?_
  refine nq_aload_n C.1 rfl 0 rfl dL_law_1481 ?_
  refine nq_iload_n C.1 rfl 3 rfl dL_law_1482 ?_
  refine nq_iconst C.1 (v := 3) (by decide) dL_law_1483 ?_
  refine nq_iadd C.1 dL_law_1484 ?_
  refine nq_sld C.1 C.2.2.1 C.2.2.2.1 hbA (nq_ixc (c := 3) (by omega) C.2.2.2.2.2.2) dL_law_1485 ?_
  refine nq_law2 (sf := .int r) C.1 C.2.1 C.2.2.2.2.1 C.2.2.2.2.2.1 (tX9_sheet (nq_M0 E L2) hm1) gl_X9_sheet rfl rfl dsX9_sheet (by decide) rfl rfl rfl (Nat.le_of_ble_eq_true rfl) dL_law_1486 ?_
  refine nq_icmp_eq C.1 (tgt := 1728) (by decide) dL_law_1489 (fun _ => ?_) (fun c => absurd rfl c)
  exact kk Mx1 Mm1 hR1
set_option maxHeartbeats 4000000 in
theorem lc_put {R : Mem → Mem → Prop} {Y : Cy} {E : Ev} {l : Launch} {b Ln : Nat} {xs : Nat → Int32} {L1 L2 : List Nat} {cs ss i : Nat} {Mx Mm : Mem} (C : nq_LC Y E l b Ln xs L1 L2 cs ss) (hbA : ¬ nq_A E b) (hi : i + 6 ≤ Ln) (hR : R Mx Mm) (hop : ∀ (a0 : Int32) (a1 : Int32) (a2 : Int32) (Mx Mm : Mem), R Mx Mm → ∃ (r : Int32) (Mx1 Mm1 : Mem), fX8_put a0 a1 a2 Mx = some (r, Mx1) ∧ fX9_put a0 a1 a2 Mm = some (r, Mm1) ∧ R Mx1 Mm1) (kk : ∀ Mx1 Mm1, R Mx1 Mm1 → nq_LG Y E L1 L2 cs ss 1728 [(0, .ref b), (1, .ref (nq_adL L1 0)), (2, .ref (nq_adL L2 0)), (3, .int (nI i))] [] Mx1 Mm1) : nq_LG Y E L1 L2 cs ss 1494 [(0, .ref b), (1, .ref (nq_adL L1 0)), (2, .ref (nq_adL L2 0)), (3, .int (nI i))] [] Mx Mm := by
  obtain ⟨r, Mx1, Mm1, hx1, hm1, hR1⟩ := hop (xs (nI i + 1).toNatClampNeg) (xs (nI i + 2).toNatClampNeg) (xs (nI i + 3).toNatClampNeg) Mx Mm hR
  refine nq_aload_n C.1 rfl 1 rfl dL_law_1494 ?_
  refine nq_aload_n C.1 rfl 0 rfl dL_law_1495 ?_
  refine nq_iload_n C.1 rfl 3 rfl dL_law_1496 ?_
  refine nq_iconst C.1 (v := 1) (by decide) dL_law_1497 ?_
  refine nq_iadd C.1 dL_law_1498 ?_
  refine nq_sld C.1 C.2.2.1 C.2.2.2.1 hbA (nq_ixc (c := 1) (by omega) C.2.2.2.2.2.2) dL_law_1499 ?_
  refine nq_aload_n C.1 rfl 0 rfl dL_law_1500 ?_
  refine nq_iload_n C.1 rfl 3 rfl dL_law_1501 ?_
  refine nq_iconst C.1 (v := 2) (by decide) dL_law_1502 ?_
  refine nq_iadd C.1 dL_law_1503 ?_
  refine nq_sld C.1 C.2.2.1 C.2.2.2.1 hbA (nq_ixc (c := 2) (by omega) C.2.2.2.2.2.2) dL_law_1504 ?_
  refine nq_aload_n C.1 rfl 0 rfl dL_law_1505 ?_
  refine nq_iload_n C.1 rfl 3 rfl dL_law_1506 ?_
  refine nq_iconst C.1 (v := 3) (by decide) dL_law_1507 ?_
  refine nq_iadd C.1 dL_law_1508 ?_
  refine nq_sld C.1 C.2.2.1 C.2.2.2.1 hbA (nq_ixc (c := 3) (by omega) C.2.2.2.2.2.2) dL_law_1509 ?_
  refine nq_law1 (sf := .int r) C.1 C.2.1 C.2.2.2.2.1 C.2.2.2.2.2.1 (tX8_put (nq_N0 E L1) hx1) gl_X8_put rfl rfl dsX8_put (by decide) rfl rfl rfl (Nat.le_of_ble_eq_true rfl) dL_law_1510 ?_
  refine nq_aload_n C.1 rfl 2 rfl dL_law_1513 ?_
  refine nq_aload_n C.1 rfl 0 rfl dL_law_1514 ?_
  refine nq_iload_n C.1 rfl 3 rfl dL_law_1515 ?_
  refine nq_iconst C.1 (v := 1) (by decide) dL_law_1516 ?_
  refine nq_iadd C.1 dL_law_1517 ?_
  refine nq_sld C.1 C.2.2.1 C.2.2.2.1 hbA (nq_ixc (c := 1) (by omega) C.2.2.2.2.2.2) dL_law_1518 ?_
  refine nq_aload_n C.1 rfl 0 rfl dL_law_1519 ?_
  refine nq_iload_n C.1 rfl 3 rfl dL_law_1520 ?_
  refine nq_iconst C.1 (v := 2) (by decide) dL_law_1521 ?_
  refine nq_iadd C.1 dL_law_1522 ?_
  refine nq_sld C.1 C.2.2.1 C.2.2.2.1 hbA (nq_ixc (c := 2) (by omega) C.2.2.2.2.2.2) dL_law_1523 ?_
  refine nq_aload_n C.1 rfl 0 rfl dL_law_1524 ?_
  refine nq_iload_n C.1 rfl 3 rfl dL_law_1525 ?_
  refine nq_iconst C.1 (v := 3) (by decide) dL_law_1526 ?_
  refine nq_iadd C.1 dL_law_1527 ?_
  refine nq_sld C.1 C.2.2.1 C.2.2.2.1 hbA (nq_ixc (c := 3) (by omega) C.2.2.2.2.2.2) dL_law_1528 ?_
  refine nq_law2 (sf := .int r) C.1 C.2.1 C.2.2.2.2.1 C.2.2.2.2.2.1 (tX9_put (nq_M0 E L2) hm1) gl_X9_put rfl rfl dsX9_put (by decide) rfl rfl rfl (Nat.le_of_ble_eq_true rfl) dL_law_1529 ?_
  refine nq_icmp_eq C.1 (tgt := 1728) (by decide) dL_law_1532 (fun _ => ?_) (fun c => absurd rfl c)
  exact kk Mx1 Mm1 hR1
set_option maxHeartbeats 4000000 in
theorem lc_move {R : Mem → Mem → Prop} {Y : Cy} {E : Ev} {l : Launch} {b Ln : Nat} {xs : Nat → Int32} {L1 L2 : List Nat} {cs ss i : Nat} {Mx Mm : Mem} (C : nq_LC Y E l b Ln xs L1 L2 cs ss) (hbA : ¬ nq_A E b) (hi : i + 6 ≤ Ln) (hR : R Mx Mm) (hop : ∀ (a0 : Int32) (a1 : Int32) (a2 : Int32) (a3 : Int32) (a4 : Int32) (Mx Mm : Mem), R Mx Mm → ∃ (r : Int32) (Mx1 Mm1 : Mem), fX8_move a0 a1 a2 a3 a4 Mx = some (r, Mx1) ∧ fX9_move a0 a1 a2 a3 a4 Mm = some (r, Mm1) ∧ R Mx1 Mm1) (kk : ∀ Mx1 Mm1, R Mx1 Mm1 → nq_LG Y E L1 L2 cs ss 1728 [(0, .ref b), (1, .ref (nq_adL L1 0)), (2, .ref (nq_adL L2 0)), (3, .int (nI i))] [] Mx1 Mm1) : nq_LG Y E L1 L2 cs ss 1537 [(0, .ref b), (1, .ref (nq_adL L1 0)), (2, .ref (nq_adL L2 0)), (3, .int (nI i))] [] Mx Mm := by
  obtain ⟨r, Mx1, Mm1, hx1, hm1, hR1⟩ := hop (xs (nI i + 1).toNatClampNeg) (xs (nI i + 2).toNatClampNeg) (xs (nI i + 3).toNatClampNeg) (xs (nI i + 4).toNatClampNeg) (xs (nI i + 5).toNatClampNeg) Mx Mm hR
  refine nq_aload_n C.1 rfl 1 rfl dL_law_1537 ?_
  refine nq_aload_n C.1 rfl 0 rfl dL_law_1538 ?_
  refine nq_iload_n C.1 rfl 3 rfl dL_law_1539 ?_
  refine nq_iconst C.1 (v := 1) (by decide) dL_law_1540 ?_
  refine nq_iadd C.1 dL_law_1541 ?_
  refine nq_sld C.1 C.2.2.1 C.2.2.2.1 hbA (nq_ixc (c := 1) (by omega) C.2.2.2.2.2.2) dL_law_1542 ?_
  refine nq_aload_n C.1 rfl 0 rfl dL_law_1543 ?_
  refine nq_iload_n C.1 rfl 3 rfl dL_law_1544 ?_
  refine nq_iconst C.1 (v := 2) (by decide) dL_law_1545 ?_
  refine nq_iadd C.1 dL_law_1546 ?_
  refine nq_sld C.1 C.2.2.1 C.2.2.2.1 hbA (nq_ixc (c := 2) (by omega) C.2.2.2.2.2.2) dL_law_1547 ?_
  refine nq_aload_n C.1 rfl 0 rfl dL_law_1548 ?_
  refine nq_iload_n C.1 rfl 3 rfl dL_law_1549 ?_
  refine nq_iconst C.1 (v := 3) (by decide) dL_law_1550 ?_
  refine nq_iadd C.1 dL_law_1551 ?_
  refine nq_sld C.1 C.2.2.1 C.2.2.2.1 hbA (nq_ixc (c := 3) (by omega) C.2.2.2.2.2.2) dL_law_1552 ?_
  refine nq_aload_n C.1 rfl 0 rfl dL_law_1553 ?_
  refine nq_iload_n C.1 rfl 3 rfl dL_law_1554 ?_
  refine nq_iconst C.1 (v := 4) (by decide) dL_law_1555 ?_
  refine nq_iadd C.1 dL_law_1556 ?_
  refine nq_sld C.1 C.2.2.1 C.2.2.2.1 hbA (nq_ixc (c := 4) (by omega) C.2.2.2.2.2.2) dL_law_1557 ?_
  refine nq_aload_n C.1 rfl 0 rfl dL_law_1558 ?_
  refine nq_iload_n C.1 rfl 3 rfl dL_law_1559 ?_
  refine nq_iconst C.1 (v := 5) (by decide) dL_law_1560 ?_
  refine nq_iadd C.1 dL_law_1561 ?_
  refine nq_sld C.1 C.2.2.1 C.2.2.2.1 hbA (nq_ixc (c := 5) (by omega) C.2.2.2.2.2.2) dL_law_1562 ?_
  refine nq_law1 (sf := .int r) C.1 C.2.1 C.2.2.2.2.1 C.2.2.2.2.2.1 (tX8_move (nq_N0 E L1) hx1) gl_X8_move rfl rfl dsX8_move (by decide) rfl rfl rfl (Nat.le_of_ble_eq_true rfl) dL_law_1563 ?_
  refine nq_aload_n C.1 rfl 2 rfl dL_law_1566 ?_
  refine nq_aload_n C.1 rfl 0 rfl dL_law_1567 ?_
  refine nq_iload_n C.1 rfl 3 rfl dL_law_1568 ?_
  refine nq_iconst C.1 (v := 1) (by decide) dL_law_1569 ?_
  refine nq_iadd C.1 dL_law_1570 ?_
  refine nq_sld C.1 C.2.2.1 C.2.2.2.1 hbA (nq_ixc (c := 1) (by omega) C.2.2.2.2.2.2) dL_law_1571 ?_
  refine nq_aload_n C.1 rfl 0 rfl dL_law_1572 ?_
  refine nq_iload_n C.1 rfl 3 rfl dL_law_1573 ?_
  refine nq_iconst C.1 (v := 2) (by decide) dL_law_1574 ?_
  refine nq_iadd C.1 dL_law_1575 ?_
  refine nq_sld C.1 C.2.2.1 C.2.2.2.1 hbA (nq_ixc (c := 2) (by omega) C.2.2.2.2.2.2) dL_law_1576 ?_
  refine nq_aload_n C.1 rfl 0 rfl dL_law_1577 ?_
  refine nq_iload_n C.1 rfl 3 rfl dL_law_1578 ?_
  refine nq_iconst C.1 (v := 3) (by decide) dL_law_1579 ?_
  refine nq_iadd C.1 dL_law_1580 ?_
  refine nq_sld C.1 C.2.2.1 C.2.2.2.1 hbA (nq_ixc (c := 3) (by omega) C.2.2.2.2.2.2) dL_law_1581 ?_
  refine nq_aload_n C.1 rfl 0 rfl dL_law_1582 ?_
  refine nq_iload_n C.1 rfl 3 rfl dL_law_1583 ?_
  refine nq_iconst C.1 (v := 4) (by decide) dL_law_1584 ?_
  refine nq_iadd C.1 dL_law_1585 ?_
  refine nq_sld C.1 C.2.2.1 C.2.2.2.1 hbA (nq_ixc (c := 4) (by omega) C.2.2.2.2.2.2) dL_law_1586 ?_
  refine nq_aload_n C.1 rfl 0 rfl dL_law_1587 ?_
  refine nq_iload_n C.1 rfl 3 rfl dL_law_1588 ?_
  refine nq_iconst C.1 (v := 5) (by decide) dL_law_1589 ?_
  refine nq_iadd C.1 dL_law_1590 ?_
  refine nq_sld C.1 C.2.2.1 C.2.2.2.1 hbA (nq_ixc (c := 5) (by omega) C.2.2.2.2.2.2) dL_law_1591 ?_
  refine nq_law2 (sf := .int r) C.1 C.2.1 C.2.2.2.2.1 C.2.2.2.2.2.1 (tX9_move (nq_M0 E L2) hm1) gl_X9_move rfl rfl dsX9_move (by decide) rfl rfl rfl (Nat.le_of_ble_eq_true rfl) dL_law_1592 ?_
  refine nq_icmp_eq C.1 (tgt := 1728) (by decide) dL_law_1595 (fun _ => ?_) (fun c => absurd rfl c)
  exact kk Mx1 Mm1 hR1
set_option maxHeartbeats 4000000 in
theorem lc_image {R : Mem → Mem → Prop} {Y : Cy} {E : Ev} {l : Launch} {b Ln : Nat} {xs : Nat → Int32} {L1 L2 : List Nat} {cs ss i : Nat} {Mx Mm : Mem} (C : nq_LC Y E l b Ln xs L1 L2 cs ss) (hbA : ¬ nq_A E b) (hi : i + 6 ≤ Ln) (hR : R Mx Mm) (hop : ∀  (Mx Mm : Mem), R Mx Mm → ∃ (r : Int32) (Mx1 Mm1 : Mem), fX8_image  Mx = some (r, Mx1) ∧ fX9_image  Mm = some (r, Mm1) ∧ R Mx1 Mm1) (kk : ∀ Mx1 Mm1, R Mx1 Mm1 → nq_LG Y E L1 L2 cs ss 1728 [(0, .ref b), (1, .ref (nq_adL L1 0)), (2, .ref (nq_adL L2 0)), (3, .int (nI i))] [] Mx1 Mm1) : nq_LG Y E L1 L2 cs ss 1600 [(0, .ref b), (1, .ref (nq_adL L1 0)), (2, .ref (nq_adL L2 0)), (3, .int (nI i))] [] Mx Mm := by
  obtain ⟨r, Mx1, Mm1, hx1, hm1, hR1⟩ := hop  Mx Mm hR
  refine nq_aload_n C.1 rfl 1 rfl dL_law_1600 ?_
  refine nq_law1 (sf := .int r) C.1 C.2.1 C.2.2.2.2.1 C.2.2.2.2.2.1 (tX8_image (nq_N0 E L1) hx1) gl_X8_image rfl rfl dsX8_image (by decide) rfl rfl rfl (Nat.le_of_ble_eq_true rfl) dL_law_1601 ?_
  refine nq_aload_n C.1 rfl 2 rfl dL_law_1604 ?_
  refine nq_law2 (sf := .int r) C.1 C.2.1 C.2.2.2.2.1 C.2.2.2.2.2.1 (tX9_image (nq_M0 E L2) hm1) gl_X9_image rfl rfl dsX9_image (by decide) rfl rfl rfl (Nat.le_of_ble_eq_true rfl) dL_law_1605 ?_
  refine nq_icmp_eq C.1 (tgt := 1728) (by decide) dL_law_1608 (fun _ => ?_) (fun c => absurd rfl c)
  exact kk Mx1 Mm1 hR1
set_option maxHeartbeats 4000000 in
theorem lc_restore {R : Mem → Mem → Prop} {Y : Cy} {E : Ev} {l : Launch} {b Ln : Nat} {xs : Nat → Int32} {L1 L2 : List Nat} {cs ss i : Nat} {Mx Mm : Mem} (C : nq_LC Y E l b Ln xs L1 L2 cs ss) (hbA : ¬ nq_A E b) (hi : i + 6 ≤ Ln) (hR : R Mx Mm) (hop : ∀  (Mx Mm : Mem), R Mx Mm → ∃ (r : Int32) (Mx1 Mm1 : Mem), fX8_restore  Mx = some (r, Mx1) ∧ fX9_restore  Mm = some (r, Mm1) ∧ R Mx1 Mm1) (kk : ∀ Mx1 Mm1, R Mx1 Mm1 → nq_LG Y E L1 L2 cs ss 1728 [(0, .ref b), (1, .ref (nq_adL L1 0)), (2, .ref (nq_adL L2 0)), (3, .int (nI i))] [] Mx1 Mm1) : nq_LG Y E L1 L2 cs ss 1613 [(0, .ref b), (1, .ref (nq_adL L1 0)), (2, .ref (nq_adL L2 0)), (3, .int (nI i))] [] Mx Mm := by
  obtain ⟨r, Mx1, Mm1, hx1, hm1, hR1⟩ := hop  Mx Mm hR
  refine nq_aload_n C.1 rfl 1 rfl dL_law_1613 ?_
  refine nq_law1 (sf := .int r) C.1 C.2.1 C.2.2.2.2.1 C.2.2.2.2.2.1 (tX8_restore (nq_N0 E L1) hx1) gl_X8_restore rfl rfl dsX8_restore (by decide) rfl rfl rfl (Nat.le_of_ble_eq_true rfl) dL_law_1614 ?_
  refine nq_aload_n C.1 rfl 2 rfl dL_law_1617 ?_
  refine nq_law2 (sf := .int r) C.1 C.2.1 C.2.2.2.2.1 C.2.2.2.2.2.1 (tX9_restore (nq_M0 E L2) hm1) gl_X9_restore rfl rfl dsX9_restore (by decide) rfl rfl rfl (Nat.le_of_ble_eq_true rfl) dL_law_1618 ?_
  refine nq_icmp_eq C.1 (tgt := 1728) (by decide) dL_law_1621 (fun _ => ?_) (fun c => absurd rfl c)
  exact kk Mx1 Mm1 hR1
set_option maxHeartbeats 4000000 in
theorem lc_tell {R : Mem → Mem → Prop} {Y : Cy} {E : Ev} {l : Launch} {b Ln : Nat} {xs : Nat → Int32} {L1 L2 : List Nat} {cs ss i : Nat} {Mx Mm : Mem} (C : nq_LC Y E l b Ln xs L1 L2 cs ss) (hbA : ¬ nq_A E b) (hi : i + 6 ≤ Ln) (hR : R Mx Mm) (hop : ∀ (a0 : Int32) (Mx Mm : Mem), R Mx Mm → ∃ (r : Int32) (Mx1 Mm1 : Mem), fX8_tell a0 Mx = some (r, Mx1) ∧ fX9_tell a0 Mm = some (r, Mm1) ∧ R Mx1 Mm1) (kk : ∀ Mx1 Mm1, R Mx1 Mm1 → nq_LG Y E L1 L2 cs ss 1728 [(0, .ref b), (1, .ref (nq_adL L1 0)), (2, .ref (nq_adL L2 0)), (3, .int (nI i))] [] Mx1 Mm1) : nq_LG Y E L1 L2 cs ss 1626 [(0, .ref b), (1, .ref (nq_adL L1 0)), (2, .ref (nq_adL L2 0)), (3, .int (nI i))] [] Mx Mm := by
  obtain ⟨r, Mx1, Mm1, hx1, hm1, hR1⟩ := hop (xs (nI i + 1).toNatClampNeg) Mx Mm hR
  refine nq_aload_n C.1 rfl 1 rfl dL_law_1626 ?_
  refine nq_aload_n C.1 rfl 0 rfl dL_law_1627 ?_
  refine nq_iload_n C.1 rfl 3 rfl dL_law_1628 ?_
  refine nq_iconst C.1 (v := 1) (by decide) dL_law_1629 ?_
  refine nq_iadd C.1 dL_law_1630 ?_
  refine nq_sld C.1 C.2.2.1 C.2.2.2.1 hbA (nq_ixc (c := 1) (by omega) C.2.2.2.2.2.2) dL_law_1631 ?_
  refine nq_law1 (sf := .int r) C.1 C.2.1 C.2.2.2.2.1 C.2.2.2.2.2.1 (tX8_tell (nq_N0 E L1) hx1) gl_X8_tell rfl rfl dsX8_tell (by decide) rfl rfl rfl (Nat.le_of_ble_eq_true rfl) dL_law_1632 ?_
  refine nq_aload_n C.1 rfl 2 rfl dL_law_1635 ?_
  refine nq_aload_n C.1 rfl 0 rfl dL_law_1636 ?_
  refine nq_iload_n C.1 rfl 3 rfl dL_law_1637 ?_
  refine nq_iconst C.1 (v := 1) (by decide) dL_law_1638 ?_
  refine nq_iadd C.1 dL_law_1639 ?_
  refine nq_sld C.1 C.2.2.1 C.2.2.2.1 hbA (nq_ixc (c := 1) (by omega) C.2.2.2.2.2.2) dL_law_1640 ?_
  refine nq_law2 (sf := .int r) C.1 C.2.1 C.2.2.2.2.1 C.2.2.2.2.2.1 (tX9_tell (nq_M0 E L2) hm1) gl_X9_tell rfl rfl dsX9_tell (by decide) rfl rfl rfl (Nat.le_of_ble_eq_true rfl) dL_law_1641 ?_
  refine nq_icmp_eq C.1 (tgt := 1728) (by decide) dL_law_1644 (fun _ => ?_) (fun c => absurd rfl c)
  exact kk Mx1 Mm1 hR1
set_option maxHeartbeats 4000000 in
theorem lc_check {R : Mem → Mem → Prop} {Y : Cy} {E : Ev} {l : Launch} {b Ln : Nat} {xs : Nat → Int32} {L1 L2 : List Nat} {cs ss i : Nat} {Mx Mm : Mem} (C : nq_LC Y E l b Ln xs L1 L2 cs ss) (hbA : ¬ nq_A E b) (hi : i + 6 ≤ Ln) (hR : R Mx Mm) (hop : ∀ (a0 : Int32) (a1 : Int32) (Mx Mm : Mem), R Mx Mm → ∃ (r : Int32) (Mx1 Mm1 : Mem), fX8_check a0 a1 Mx = some (r, Mx1) ∧ fX9_check a0 a1 Mm = some (r, Mm1) ∧ R Mx1 Mm1) (kk : ∀ Mx1 Mm1, R Mx1 Mm1 → nq_LG Y E L1 L2 cs ss 1728 [(0, .ref b), (1, .ref (nq_adL L1 0)), (2, .ref (nq_adL L2 0)), (3, .int (nI i))] [] Mx1 Mm1) : nq_LG Y E L1 L2 cs ss 1649 [(0, .ref b), (1, .ref (nq_adL L1 0)), (2, .ref (nq_adL L2 0)), (3, .int (nI i))] [] Mx Mm := by
  obtain ⟨r, Mx1, Mm1, hx1, hm1, hR1⟩ := hop (xs (nI i + 1).toNatClampNeg) (xs (nI i + 2).toNatClampNeg) Mx Mm hR
  refine nq_aload_n C.1 rfl 1 rfl dL_law_1649 ?_
  refine nq_aload_n C.1 rfl 0 rfl dL_law_1650 ?_
  refine nq_iload_n C.1 rfl 3 rfl dL_law_1651 ?_
  refine nq_iconst C.1 (v := 1) (by decide) dL_law_1652 ?_
  refine nq_iadd C.1 dL_law_1653 ?_
  refine nq_sld C.1 C.2.2.1 C.2.2.2.1 hbA (nq_ixc (c := 1) (by omega) C.2.2.2.2.2.2) dL_law_1654 ?_
  refine nq_aload_n C.1 rfl 0 rfl dL_law_1655 ?_
  refine nq_iload_n C.1 rfl 3 rfl dL_law_1656 ?_
  refine nq_iconst C.1 (v := 2) (by decide) dL_law_1657 ?_
  refine nq_iadd C.1 dL_law_1658 ?_
  refine nq_sld C.1 C.2.2.1 C.2.2.2.1 hbA (nq_ixc (c := 2) (by omega) C.2.2.2.2.2.2) dL_law_1659 ?_
  refine nq_law1 (sf := .int r) C.1 C.2.1 C.2.2.2.2.1 C.2.2.2.2.2.1 (tX8_check (nq_N0 E L1) hx1) gl_X8_check rfl rfl dsX8_check (by decide) rfl rfl rfl (Nat.le_of_ble_eq_true rfl) dL_law_1660 ?_
  refine nq_aload_n C.1 rfl 2 rfl dL_law_1663 ?_
  refine nq_aload_n C.1 rfl 0 rfl dL_law_1664 ?_
  refine nq_iload_n C.1 rfl 3 rfl dL_law_1665 ?_
  refine nq_iconst C.1 (v := 1) (by decide) dL_law_1666 ?_
  refine nq_iadd C.1 dL_law_1667 ?_
  refine nq_sld C.1 C.2.2.1 C.2.2.2.1 hbA (nq_ixc (c := 1) (by omega) C.2.2.2.2.2.2) dL_law_1668 ?_
  refine nq_aload_n C.1 rfl 0 rfl dL_law_1669 ?_
  refine nq_iload_n C.1 rfl 3 rfl dL_law_1670 ?_
  refine nq_iconst C.1 (v := 2) (by decide) dL_law_1671 ?_
  refine nq_iadd C.1 dL_law_1672 ?_
  refine nq_sld C.1 C.2.2.1 C.2.2.2.1 hbA (nq_ixc (c := 2) (by omega) C.2.2.2.2.2.2) dL_law_1673 ?_
  refine nq_law2 (sf := .int r) C.1 C.2.1 C.2.2.2.2.1 C.2.2.2.2.2.1 (tX9_check (nq_M0 E L2) hm1) gl_X9_check rfl rfl dsX9_check (by decide) rfl rfl rfl (Nat.le_of_ble_eq_true rfl) dL_law_1674 ?_
  refine nq_icmp_eq C.1 (tgt := 1728) (by decide) dL_law_1677 (fun _ => ?_) (fun c => absurd rfl c)
  exact kk Mx1 Mm1 hR1
set_option maxHeartbeats 4000000 in
theorem lc_count {R : Mem → Mem → Prop} {Y : Cy} {E : Ev} {l : Launch} {b Ln : Nat} {xs : Nat → Int32} {L1 L2 : List Nat} {cs ss i : Nat} {Mx Mm : Mem} (C : nq_LC Y E l b Ln xs L1 L2 cs ss) (hbA : ¬ nq_A E b) (hi : i + 6 ≤ Ln) (hR : R Mx Mm) (hop : ∀ (a0 : Int32) (Mx Mm : Mem), R Mx Mm → ∃ (r : Int32) (Mx1 Mm1 : Mem), fX8_count a0 Mx = some (r, Mx1) ∧ fX9_count a0 Mm = some (r, Mm1) ∧ R Mx1 Mm1) (kk : ∀ Mx1 Mm1, R Mx1 Mm1 → nq_LG Y E L1 L2 cs ss 1728 [(0, .ref b), (1, .ref (nq_adL L1 0)), (2, .ref (nq_adL L2 0)), (3, .int (nI i))] [] Mx1 Mm1) : nq_LG Y E L1 L2 cs ss 1682 [(0, .ref b), (1, .ref (nq_adL L1 0)), (2, .ref (nq_adL L2 0)), (3, .int (nI i))] [] Mx Mm := by
  obtain ⟨r, Mx1, Mm1, hx1, hm1, hR1⟩ := hop (xs (nI i + 1).toNatClampNeg) Mx Mm hR
  refine nq_aload_n C.1 rfl 1 rfl dL_law_1682 ?_
  refine nq_aload_n C.1 rfl 0 rfl dL_law_1683 ?_
  refine nq_iload_n C.1 rfl 3 rfl dL_law_1684 ?_
  refine nq_iconst C.1 (v := 1) (by decide) dL_law_1685 ?_
  refine nq_iadd C.1 dL_law_1686 ?_
  refine nq_sld C.1 C.2.2.1 C.2.2.2.1 hbA (nq_ixc (c := 1) (by omega) C.2.2.2.2.2.2) dL_law_1687 ?_
  refine nq_law1 (sf := .int r) C.1 C.2.1 C.2.2.2.2.1 C.2.2.2.2.2.1 (tX8_count (nq_N0 E L1) hx1) gl_X8_count rfl rfl dsX8_count (by decide) rfl rfl rfl (Nat.le_of_ble_eq_true rfl) dL_law_1688 ?_
  refine nq_aload_n C.1 rfl 2 rfl dL_law_1691 ?_
  refine nq_aload_n C.1 rfl 0 rfl dL_law_1692 ?_
  refine nq_iload_n C.1 rfl 3 rfl dL_law_1693 ?_
  refine nq_iconst C.1 (v := 1) (by decide) dL_law_1694 ?_
  refine nq_iadd C.1 dL_law_1695 ?_
  refine nq_sld C.1 C.2.2.1 C.2.2.2.1 hbA (nq_ixc (c := 1) (by omega) C.2.2.2.2.2.2) dL_law_1696 ?_
  refine nq_law2 (sf := .int r) C.1 C.2.1 C.2.2.2.2.1 C.2.2.2.2.2.1 (tX9_count (nq_M0 E L2) hm1) gl_X9_count rfl rfl dsX9_count (by decide) rfl rfl rfl (Nat.le_of_ble_eq_true rfl) dL_law_1697 ?_
  refine nq_icmp_eq C.1 (tgt := 1728) (by decide) dL_law_1700 (fun _ => ?_) (fun c => absurd rfl c)
  exact kk Mx1 Mm1 hR1
set_option maxHeartbeats 4000000 in
theorem lc_told {R : Mem → Mem → Prop} {Y : Cy} {E : Ev} {l : Launch} {b Ln : Nat} {xs : Nat → Int32} {L1 L2 : List Nat} {cs ss i : Nat} {Mx Mm : Mem} (C : nq_LC Y E l b Ln xs L1 L2 cs ss) (hbA : ¬ nq_A E b) (hi : i + 6 ≤ Ln) (hR : R Mx Mm) (hop : ∀ (a0 : Int32) (Mx Mm : Mem), R Mx Mm → ∃ (r : Int32) (Mx1 Mm1 : Mem), fX8_told a0 Mx = some (r, Mx1) ∧ fX9_told a0 Mm = some (r, Mm1) ∧ R Mx1 Mm1) (kk : ∀ Mx1 Mm1, R Mx1 Mm1 → nq_LG Y E L1 L2 cs ss 1728 [(0, .ref b), (1, .ref (nq_adL L1 0)), (2, .ref (nq_adL L2 0)), (3, .int (nI i))] [] Mx1 Mm1) : nq_LG Y E L1 L2 cs ss 1705 [(0, .ref b), (1, .ref (nq_adL L1 0)), (2, .ref (nq_adL L2 0)), (3, .int (nI i))] [] Mx Mm := by
  obtain ⟨r, Mx1, Mm1, hx1, hm1, hR1⟩ := hop (xs (nI i + 1).toNatClampNeg) Mx Mm hR
  refine nq_aload_n C.1 rfl 1 rfl dL_law_1705 ?_
  refine nq_aload_n C.1 rfl 0 rfl dL_law_1706 ?_
  refine nq_iload_n C.1 rfl 3 rfl dL_law_1707 ?_
  refine nq_iconst C.1 (v := 1) (by decide) dL_law_1708 ?_
  refine nq_iadd C.1 dL_law_1709 ?_
  refine nq_sld C.1 C.2.2.1 C.2.2.2.1 hbA (nq_ixc (c := 1) (by omega) C.2.2.2.2.2.2) dL_law_1710 ?_
  refine nq_law1 (sf := .int r) C.1 C.2.1 C.2.2.2.2.1 C.2.2.2.2.2.1 (tX8_told (nq_N0 E L1) hx1) gl_X8_told rfl rfl dsX8_told (by decide) rfl rfl rfl (Nat.le_of_ble_eq_true rfl) dL_law_1711 ?_
  refine nq_aload_n C.1 rfl 2 rfl dL_law_1714 ?_
  refine nq_aload_n C.1 rfl 0 rfl dL_law_1715 ?_
  refine nq_iload_n C.1 rfl 3 rfl dL_law_1716 ?_
  refine nq_iconst C.1 (v := 1) (by decide) dL_law_1717 ?_
  refine nq_iadd C.1 dL_law_1718 ?_
  refine nq_sld C.1 C.2.2.1 C.2.2.2.1 hbA (nq_ixc (c := 1) (by omega) C.2.2.2.2.2.2) dL_law_1719 ?_
  refine nq_law2 (sf := .int r) C.1 C.2.1 C.2.2.2.2.1 C.2.2.2.2.2.1 (tX9_told (nq_M0 E L2) hm1) gl_X9_told rfl rfl dsX9_told (by decide) rfl rfl rfl (Nat.le_of_ble_eq_true rfl) dL_law_1720 ?_
  refine nq_icmp_eq C.1 (tgt := 1728) (by decide) dL_law_1723 (fun _ => ?_) (fun c => absurd rfl c)
  exact kk Mx1 Mm1 hR1
