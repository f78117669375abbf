/-! printed by dec.py: Model 9 -/
theorem inX9_move_9 : ∀ w ∈ u_ws RX9 TX9 23, w ∈ wsX9_move := by
  intro w h; unfold wsX9_move; simp only [List.mem_cons, List.mem_append]; simp only [h, true_or, or_true]
theorem lkX9_move_41 : Cond.fieldLink RX9 41 (TX9 19).1 (TX9 19).2.1 (TX9 19).2.2.1 ∈ wsX9_move := by decide +kernel
theorem lkX9_move_44 : Cond.fieldLink RX9 44 (TX9 20).1 (TX9 20).2.1 (TX9 20).2.2.1 ∈ wsX9_move := by decide +kernel
theorem lkX9_move_50 : Cond.fieldLink RX9 50 (TX9 22).1 (TX9 22).2.1 (TX9 22).2.2.1 ∈ wsX9_move := by decide +kernel
theorem lkX9_move_47 : Cond.fieldLink RX9 47 (TX9 21).1 (TX9 21).2.1 (TX9 21).2.2.1 ∈ wsX9_move := by decide +kernel
def fX9_move_B115 (x1 : Int32) (x2 : Int32) (x3 : Int32) (x4 : Int32) (x5 : Int32) (x6 : Int32) (M : Mem) : Option ((Int32 × Mem) ⊕ (Mem)) :=
  if x5 ≤ x6 then
  (some (.inr M))
  else
  ((nq_ag (M 13) 160 ((((40 : Int32) * x1) + x2) + x6)).bind fun v46 =>
  (nq_as M 14 40 x6 v46).bind fun M47 =>
  nq_lt (x6 + (1 : Int32)) fun v48 =>
  some (.inl (v48, M47)))
set_option maxHeartbeats 4000000 in
theorem mX9_move_B115 {X : Cx} {E : Ev} {l : Launch} {K : List Sh} {x1 : Int32} {x2 : Int32} {x3 : Int32} {x4 : Int32} {x5 : Int32} {x6 : Int32} {M : Mem} (hL : nq_atModel E K) (hX : nq_OK X E l (nq_rm 3) cX9_move 7 RX9 wsX9_move) {x : (Int32 × Mem) ⊕ (Mem)} (hc : ∀ s' : Int32 × Mem, x = .inl s' → nq_G X E 7 115 [(0, .ref (nq_ad E 0)), (1, .int x1), (2, .int x2), (3, .int x3), (4, .int x4), (5, .int x5), (6, .int s'.1)] [] K s'.2) (he : ∀ s' : Mem, x = .inr s' → nq_G X E 7 149 [(0, .ref (nq_ad E 0)), (3, .int x3), (4, .int x4), (5, .int x5)] [] K s') (h : fX9_move_B115 x1 x2 x3 x4 x5 x6 M = some x) : nq_G X E 7 115 [(0, .ref (nq_ad E 0)), (1, .int x1), (2, .int x2), (3, .int x3), (4, .int x4), (5, .int x5), (6, .int x6)] [] K M := by
  unfold fX9_move_B115 at h
  refine nq_iload hX 6 rfl dX9_move_115 ?_
  refine nq_iload hX 5 rfl dX9_move_117 ?_
  refine nq_icmp_ge hX (tgt := 149) (by decide) dX9_move_119 (fun c45 => ?_) (fun c45 => ?_)
  · rw [if_pos c45] at h
    refine nq_sub (lv' := [(0, .ref (nq_ad E 0)), (3, .int x3), (4, .int x4), (5, .int x5)]) [0, 3, 4, 5] rfl ?_
    exact he M (nq_sE h).symm
  · rw [if_neg c45] at h
    refine nq_aload_n hX rfl 0 rfl dX9_move_122 ?_
    refine nq_getr (v := .ref (nq_ad E 14)) hX inX9_move_9 (nq_Model_0 hL) rfl 22 (by decide) lkX9_move_50 _ rfl rfl dX9_move_123 ?_
    refine nq_iload hX 6 rfl dX9_move_126 ?_
    refine nq_aload_n hX rfl 0 rfl dX9_move_128 ?_
    refine nq_getr (v := .ref (nq_ad E 13)) hX inX9_move_9 (nq_Model_0 hL) rfl 21 (by decide) lkX9_move_47 _ rfl rfl dX9_move_129 ?_
    refine nq_bipush hX (v := 40) (by decide) dX9_move_132 ?_
    refine nq_iload_n hX rfl 1 rfl dX9_move_134 ?_
    refine nq_imul hX dX9_move_135 ?_
    refine nq_iload_n hX rfl 2 rfl dX9_move_136 ?_
    refine nq_iadd hX dX9_move_137 ?_
    refine nq_iload hX 6 rfl dX9_move_138 ?_
    refine nq_iadd hX dX9_move_140 ?_
    obtain ⟨v46, e46, hi46, h⟩ := nq_agE h
    refine nq_iald hX (nq_Model_number hL) e46 hi46 dX9_move_141 ?_
    obtain ⟨M47, e47, hi47, h⟩ := nq_asE h
    refine nq_iast hX (nq_Model_lifted hL) e47 hi47 dX9_move_142 ?_
    obtain ⟨v48, e48, h⟩ := nq_ltE h
    refine nq_iinc hX (lv' := [(6, .int v48), (0, .ref (nq_ad E 0)), (1, .int x1), (2, .int x2), (3, .int x3), (4, .int x4), (5, .int x5)]) (j := 6) rfl (e48.trans rfl) (by decide) rfl dX9_move_143 ?_
    refine nq_goto hX (tgt := 115) (by decide) dX9_move_146 ?_
    refine nq_sub (lv' := [(0, .ref (nq_ad E 0)), (1, .int x1), (2, .int x2), (3, .int x3), (4, .int x4), (5, .int x5), (6, .int v48)]) [1, 2, 3, 4, 5, 6, 0] rfl ?_
    exact hc (v48, M47) (nq_sE h).symm
def fX9_move_B152 (x3 : Int32) (x4 : Int32) (x5 : Int32) (x6 : Int32) (M : Mem) : Option ((Int32 × Mem) ⊕ (Mem)) :=
  if x5 ≤ x6 then
  (some (.inr M))
  else
  ((nq_ag (M 14) 40 x6).bind fun v50 =>
  (nq_as M 13 160 ((((40 : Int32) * x3) + x4) + x6) v50).bind fun M51 =>
  nq_lt (x6 + (1 : Int32)) fun v52 =>
  some (.inl (v52, M51)))
set_option maxHeartbeats 4000000 in
theorem mX9_move_B152 {X : Cx} {E : Ev} {l : Launch} {K : List Sh} {x3 : Int32} {x4 : Int32} {x5 : Int32} {x6 : Int32} {M : Mem} (hL : nq_atModel E K) (hX : nq_OK X E l (nq_rm 3) cX9_move 7 RX9 wsX9_move) {x : (Int32 × Mem) ⊕ (Mem)} (hc : ∀ s' : Int32 × Mem, x = .inl s' → nq_G X E 7 152 [(0, .ref (nq_ad E 0)), (3, .int x3), (4, .int x4), (5, .int x5), (6, .int s'.1)] [] K s'.2) (he : ∀ s' : Mem, x = .inr s' → nq_G X E 7 187 [(5, .int x5)] [] K s') (h : fX9_move_B152 x3 x4 x5 x6 M = some x) : nq_G X E 7 152 [(0, .ref (nq_ad E 0)), (3, .int x3), (4, .int x4), (5, .int x5), (6, .int x6)] [] K M := by
  unfold fX9_move_B152 at h
  refine nq_iload hX 4 rfl dX9_move_152 ?_
  refine nq_iload hX 3 rfl dX9_move_154 ?_
  refine nq_icmp_ge hX (tgt := 187) (by decide) dX9_move_156 (fun c49 => ?_) (fun c49 => ?_)
  · rw [if_pos c49] at h
    refine nq_sub (lv' := [(5, .int x5)]) [3] rfl ?_
    exact he M (nq_sE h).symm
  · rw [if_neg c49] at h
    refine nq_aload_n hX rfl 0 rfl dX9_move_159 ?_
    refine nq_getr (v := .ref (nq_ad E 13)) hX inX9_move_9 (nq_Model_0 hL) rfl 21 (by decide) lkX9_move_47 _ rfl rfl dX9_move_160 ?_
    refine nq_bipush hX (v := 40) (by decide) dX9_move_163 ?_
    refine nq_iload_n hX rfl 1 rfl dX9_move_165 ?_
    refine nq_imul hX dX9_move_166 ?_
    refine nq_iload hX 2 rfl dX9_move_167 ?_
    refine nq_iadd hX dX9_move_169 ?_
    refine nq_iload hX 4 rfl dX9_move_170 ?_
    refine nq_iadd hX dX9_move_172 ?_
    refine nq_aload_n hX rfl 0 rfl dX9_move_173 ?_
    refine nq_getr (v := .ref (nq_ad E 14)) hX inX9_move_9 (nq_Model_0 hL) rfl 22 (by decide) lkX9_move_50 _ rfl rfl dX9_move_174 ?_
    refine nq_iload hX 4 rfl dX9_move_177 ?_
    obtain ⟨v50, e50, hi50, h⟩ := nq_agE h
    refine nq_iald hX (nq_Model_lifted hL) e50 hi50 dX9_move_179 ?_
    obtain ⟨M51, e51, hi51, h⟩ := nq_asE h
    refine nq_iast hX (nq_Model_number hL) e51 hi51 dX9_move_180 ?_
    obtain ⟨v52, e52, h⟩ := nq_ltE h
    refine nq_iinc hX (lv' := [(6, .int v52), (0, .ref (nq_ad E 0)), (3, .int x3), (4, .int x4), (5, .int x5)]) (j := 4) rfl (e52.trans rfl) (by decide) rfl dX9_move_181 ?_
    refine nq_goto hX (tgt := 152) (by decide) dX9_move_184 ?_
    refine nq_sub (lv' := [(0, .ref (nq_ad E 0)), (3, .int x3), (4, .int x4), (5, .int x5), (6, .int v52)]) [1, 2, 3, 4, 0] rfl ?_
    exact hc (v52, M51) (nq_sE h).symm
def fX9_move_L187 (x5 : Int32) (M : Mem) : Option (Int32 × Mem) :=
  some (x5, M)
set_option maxHeartbeats 4000000 in
theorem mX9_move_L187 {X : Cx} {E : Ev} {l : Launch} {K : List Sh} {x5 : Int32} {M : Mem} {r : Int32} {M' : Mem} (hL : nq_atModel E K) (hX : nq_OK X E l (nq_rm 3) cX9_move 7 RX9 wsX9_move) (hr : nq_RT X E (some .int) (some (.int r)) K M') (h : fX9_move_L187 x5 M = some (r, M')) : nq_G X E 7 187 [(5, .int x5)] [] K M := by
  unfold fX9_move_L187 at h
  refine nq_iload hX 0 rfl dX9_move_187 ?_
  obtain ⟨rfl, rfl⟩ := nq_sE2 h; exact nq_iret hX hr dX9_move_189
def fX9_move_L152 (x3 : Int32) (x4 : Int32) (x5 : Int32) (x6 : Int32) (M : Mem) : Option (Int32 × Mem) :=
  (nq_lp (fun s : Int32 × Mem => fX9_move_B152 x3 x4 x5 s.1 s.2) nq_fuel (x6, M)).bind (fun e => fX9_move_L187 x5 e)
set_option maxHeartbeats 4000000 in
theorem mX9_move_L152 {X : Cx} {E : Ev} {l : Launch} {K : List Sh} {x3 : Int32} {x4 : Int32} {x5 : Int32} {x6 : Int32} {M : Mem} {r : Int32} {M' : Mem} (hL : nq_atModel E K) (hX : nq_OK X E l (nq_rm 3) cX9_move 7 RX9 wsX9_move) (hr : nq_RT X E (some .int) (some (.int r)) K M') (h : fX9_move_L152 x3 x4 x5 x6 M = some (r, M')) : nq_G X E 7 152 [(0, .ref (nq_ad E 0)), (3, .int x3), (4, .int x4), (5, .int x5), (6, .int x6)] [] K M := by
  unfold fX9_move_L152 at h
  obtain ⟨e, h1, h⟩ := nq_bE h
  have key : ∀ (ex : Mem), nq_lp (fun s : Int32 × Mem => fX9_move_B152 x3 x4 x5 s.1 s.2) nq_fuel (x6, M) = some ex → (∀ e, ex = e → nq_G X E 7 187 [(5, .int x5)] [] K e) → nq_G X E 7 152 [(0, .ref (nq_ad E 0)), (3, .int x3), (4, .int x4), (5, .int x5), (6, .int ((x6, M).1))] [] K (x6, M).2 := by
    intro ex h1 hE
    refine nq_lpE (P := fun s : Int32 × Mem => nq_G X E 7 152 [(0, .ref (nq_ad E 0)), (3, .int x3), (4, .int x4), (5, .int x5), (6, .int s.1)] [] K s.2) (r := ex) ?_ nq_fuel (x6, M) h1
    intro s xx hx1 hc1 he1
    exact mX9_move_B152 hL hX hc1 (fun e q => hE e (he1 _ q).symm) hx1
  refine key e h1 (fun e q => ?_)
  subst q
  exact mX9_move_L187 hL hX hr h
def fX9_move_L149 (x3 : Int32) (x4 : Int32) (x5 : Int32) (M : Mem) : Option (Int32 × Mem) :=
  fX9_move_L152 x3 x4 x5 (0 : Int32) M
set_option maxHeartbeats 4000000 in
theorem mX9_move_L149 {X : Cx} {E : Ev} {l : Launch} {K : List Sh} {x3 : Int32} {x4 : Int32} {x5 : Int32} {M : Mem} {r : Int32} {M' : Mem} (hL : nq_atModel E K) (hX : nq_OK X E l (nq_rm 3) cX9_move 7 RX9 wsX9_move) (hr : nq_RT X E (some .int) (some (.int r)) K M') (h : fX9_move_L149 x3 x4 x5 M = some (r, M')) : nq_G X E 7 149 [(0, .ref (nq_ad E 0)), (3, .int x3), (4, .int x4), (5, .int x5)] [] K M := by
  unfold fX9_move_L149 at h
  refine nq_iconst hX (v := 0) (by decide) dX9_move_149 ?_
  refine nq_istore hX (lv' := [(6, .int (0 : Int32)), (0, .ref (nq_ad E 0)), (3, .int x3), (4, .int x4), (5, .int x5)]) (by decide) rfl rfl dX9_move_150 ?_
  refine nq_sub (lv' := [(0, .ref (nq_ad E 0)), (3, .int x3), (4, .int x4), (5, .int x5), (6, .int (0 : Int32))]) [1, 2, 3, 4, 0] rfl ?_
  exact mX9_move_L152 hL hX hr h
def fX9_move_L115 (x1 : Int32) (x2 : Int32) (x3 : Int32) (x4 : Int32) (x5 : Int32) (x6 : Int32) (M : Mem) : Option (Int32 × Mem) :=
  (nq_lp (fun s : Int32 × Mem => fX9_move_B115 x1 x2 x3 x4 x5 s.1 s.2) nq_fuel (x6, M)).bind (fun e => fX9_move_L149 x3 x4 x5 e)
set_option maxHeartbeats 4000000 in
theorem mX9_move_L115 {X : Cx} {E : Ev} {l : Launch} {K : List Sh} {x1 : Int32} {x2 : Int32} {x3 : Int32} {x4 : Int32} {x5 : Int32} {x6 : Int32} {M : Mem} {r : Int32} {M' : Mem} (hL : nq_atModel E K) (hX : nq_OK X E l (nq_rm 3) cX9_move 7 RX9 wsX9_move) (hr : nq_RT X E (some .int) (some (.int r)) K M') (h : fX9_move_L115 x1 x2 x3 x4 x5 x6 M = some (r, M')) : nq_G X E 7 115 [(0, .ref (nq_ad E 0)), (1, .int x1), (2, .int x2), (3, .int x3), (4, .int x4), (5, .int x5), (6, .int x6)] [] K M := by
  unfold fX9_move_L115 at h
  obtain ⟨e, h1, h⟩ := nq_bE h
  have key : ∀ (ex : Mem), nq_lp (fun s : Int32 × Mem => fX9_move_B115 x1 x2 x3 x4 x5 s.1 s.2) nq_fuel (x6, M) = some ex → (∀ e, ex = e → nq_G X E 7 149 [(0, .ref (nq_ad E 0)), (3, .int x3), (4, .int x4), (5, .int x5)] [] K e) → nq_G X E 7 115 [(0, .ref (nq_ad E 0)), (1, .int x1), (2, .int x2), (3, .int x3), (4, .int x4), (5, .int x5), (6, .int ((x6, M).1))] [] K (x6, M).2 := by
    intro ex h1 hE
    refine nq_lpE (P := fun s : Int32 × Mem => nq_G X E 7 115 [(0, .ref (nq_ad E 0)), (1, .int x1), (2, .int x2), (3, .int x3), (4, .int x4), (5, .int x5), (6, .int s.1)] [] K s.2) (r := ex) ?_ nq_fuel (x6, M) h1
    intro s xx hx1 hc1 he1
    exact mX9_move_B115 hL hX hc1 (fun e q => hE e (he1 _ q).symm) hx1
  refine key e h1 (fun e q => ?_)
  subst q
  exact mX9_move_L149 hL hX hr h
def fX9_move (x1 : Int32) (x2 : Int32) (x3 : Int32) (x4 : Int32) (x5 : Int32) (M : Mem) : Option (Int32 × Mem) :=
  (fX9_isSheet x1 M).bind fun v2 =>
  if v2 = 0 then
  (nq_b2 (fX9_finds (1 : Int32) M) fun v5 M6 =>
  some (v5, M6))
  else
  ((fX9_isSheet x3 M).bind fun v8 =>
  if v8 = 0 then
  (nq_b2 (fX9_finds (1 : Int32) M) fun v11 M12 =>
  some (v11, M12))
  else
  ((nq_ag (M 11) 4 x1).bind fun v13 =>
  if v13 = 0 then
  (nq_b2 (fX9_finds (2 : Int32) M) fun v16 M17 =>
  some (v16, M17))
  else
  ((nq_ag (M 11) 4 x3).bind fun v18 =>
  if v18 = 0 then
  (nq_b2 (fX9_finds (2 : Int32) M) fun v21 M22 =>
  some (v21, M22))
  else
  ((nq_ag (M 11) 4 x1).bind fun v23 =>
  (nq_ag (M 11) 4 x3).bind fun v24 =>
  if v23 = v24 then
  (if x5 < 0 then
  (nq_b2 (fX9_finds (1 : Int32) M) fun v28 M29 =>
  some (v28, M29))
  else
  (if x2 < 0 then
  (nq_b2 (fX9_finds (1 : Int32) M) fun v32 M33 =>
  some (v32, M33))
  else
  (if x4 < 0 then
  (nq_b2 (fX9_finds (1 : Int32) M) fun v36 M37 =>
  some (v36, M37))
  else
  ((nq_ag (M 12) 4 x1).bind fun v38 =>
  if (v38 - x2) < x5 then
  (nq_b2 (fX9_finds (1 : Int32) M) fun v41 M42 =>
  some (v41, M42))
  else
  ((nq_ag (M 12) 4 x3).bind fun v43 =>
  if x5 ≤ (v43 - x4) then
  (fX9_move_L115 x1 x2 x3 x4 x5 (0 : Int32) M)
  else
  (nq_b2 (fX9_finds (1 : Int32) M) fun v54 M55 =>
  some (v54, M55)))))))
  else
  (nq_b2 (fX9_finds (5 : Int32) M) fun v57 M58 =>
  some (v57, M58))))))
set_option maxHeartbeats 4000000 in
theorem mX9_move {X : Cx} {E : Ev} {l : Launch} {K : List Sh} {x1 : Int32} {x2 : Int32} {x3 : Int32} {x4 : Int32} {x5 : Int32} {M : Mem} {r : Int32} {M' : Mem} (hL : nq_atModel E K) (hX : nq_OK X E l (nq_rm 3) cX9_move 7 RX9 wsX9_move) (hr : nq_RT X E (some .int) (some (.int r)) K M') (h : fX9_move x1 x2 x3 x4 x5 M = some (r, M')) : nq_G X E 7 0 [(0, .ref (nq_ad E 0)), (1, .int x1), (2, .int x2), (3, .int x3), (4, .int x4), (5, .int x5)] [] K M := by
  unfold fX9_move at h
  refine nq_iload_n hX rfl 1 rfl dX9_move_0 ?_
  obtain ⟨v2, hc1, h⟩ := nq_bE h
  refine nq_callSi hX (tX9_isSheet  hc1) gX9_move_X9_isSheet rfl rfl dsX9_isSheet (by decide) rfl (Nat.le_of_ble_eq_true rfl) dX9_move_1 ?_
  refine nq_if_eq hX (tgt := 14) (by decide) dX9_move_4 (fun c3 => ?_) (fun c3 => ?_)
  · rw [if_pos c3] at h
    refine nq_aload_n hX rfl 0 rfl dX9_move_14 ?_
    refine nq_iconst hX (v := 1) (by decide) dX9_move_15 ?_
    obtain ⟨v5, M6, hc4, h⟩ := nq_b2E h
    refine nq_callVi hX (tX9_finds hL hc4) gX9_move_X9_finds rfl rfl dsX9_finds (by decide) (nq_Model_0 hL) rfl rfl (Nat.le_of_ble_eq_true rfl) dX9_move_16 ?_
    obtain ⟨rfl, rfl⟩ := nq_sE2 h; exact nq_iret hX hr dX9_move_19
  · rw [if_neg c3] at h
    refine nq_iload_n hX rfl 3 rfl dX9_move_7 ?_
    obtain ⟨v8, hc7, h⟩ := nq_bE h
    refine nq_callSi hX (tX9_isSheet  hc7) gX9_move_X9_isSheet rfl rfl dsX9_isSheet (by decide) rfl (Nat.le_of_ble_eq_true rfl) dX9_move_8 ?_
    refine nq_if_ne hX (tgt := 20) (by decide) dX9_move_11 (fun c9 => ?_) (fun c9 => ?_)
    · rw [if_pos c9] at h
      refine nq_aload_n hX rfl 0 rfl dX9_move_14 ?_
      refine nq_iconst hX (v := 1) (by decide) dX9_move_15 ?_
      obtain ⟨v11, M12, hc10, h⟩ := nq_b2E h
      refine nq_callVi hX (tX9_finds hL hc10) gX9_move_X9_finds rfl rfl dsX9_finds (by decide) (nq_Model_0 hL) rfl rfl (Nat.le_of_ble_eq_true rfl) dX9_move_16 ?_
      obtain ⟨rfl, rfl⟩ := nq_sE2 h; exact nq_iret hX hr dX9_move_19
    · rw [if_neg c9] at h
      refine nq_aload_n hX rfl 0 rfl dX9_move_20 ?_
      refine nq_getr (v := .ref (nq_ad E 11)) hX inX9_move_9 (nq_Model_0 hL) rfl 19 (by decide) lkX9_move_41 _ rfl rfl dX9_move_21 ?_
      refine nq_iload_n hX rfl 1 rfl dX9_move_24 ?_
      obtain ⟨v13, e13, hi13, h⟩ := nq_agE h
      refine nq_iald hX (nq_Model_bitsOf hL) e13 hi13 dX9_move_25 ?_
      refine nq_if_eq hX (tgt := 38) (by decide) dX9_move_26 (fun c14 => ?_) (fun c14 => ?_)
      · rw [if_pos c14] at h
        refine nq_aload_n hX rfl 0 rfl dX9_move_38 ?_
        refine nq_iconst hX (v := 2) (by decide) dX9_move_39 ?_
        obtain ⟨v16, M17, hc15, h⟩ := nq_b2E h
        refine nq_callVi hX (tX9_finds hL hc15) gX9_move_X9_finds rfl rfl dsX9_finds (by decide) (nq_Model_0 hL) rfl rfl (Nat.le_of_ble_eq_true rfl) dX9_move_40 ?_
        obtain ⟨rfl, rfl⟩ := nq_sE2 h; exact nq_iret hX hr dX9_move_43
      · rw [if_neg c14] at h
        refine nq_aload_n hX rfl 0 rfl dX9_move_29 ?_
        refine nq_getr (v := .ref (nq_ad E 11)) hX inX9_move_9 (nq_Model_0 hL) rfl 19 (by decide) lkX9_move_41 _ rfl rfl dX9_move_30 ?_
        refine nq_iload_n hX rfl 3 rfl dX9_move_33 ?_
        obtain ⟨v18, e18, hi18, h⟩ := nq_agE h
        refine nq_iald hX (nq_Model_bitsOf hL) e18 hi18 dX9_move_34 ?_
        refine nq_if_ne hX (tgt := 44) (by decide) dX9_move_35 (fun c19 => ?_) (fun c19 => ?_)
        · rw [if_pos c19] at h
          refine nq_aload_n hX rfl 0 rfl dX9_move_38 ?_
          refine nq_iconst hX (v := 2) (by decide) dX9_move_39 ?_
          obtain ⟨v21, M22, hc20, h⟩ := nq_b2E h
          refine nq_callVi hX (tX9_finds hL hc20) gX9_move_X9_finds rfl rfl dsX9_finds (by decide) (nq_Model_0 hL) rfl rfl (Nat.le_of_ble_eq_true rfl) dX9_move_40 ?_
          obtain ⟨rfl, rfl⟩ := nq_sE2 h; exact nq_iret hX hr dX9_move_43
        · rw [if_neg c19] at h
          refine nq_aload_n hX rfl 0 rfl dX9_move_44 ?_
          refine nq_getr (v := .ref (nq_ad E 11)) hX inX9_move_9 (nq_Model_0 hL) rfl 19 (by decide) lkX9_move_41 _ rfl rfl dX9_move_45 ?_
          refine nq_iload_n hX rfl 1 rfl dX9_move_48 ?_
          obtain ⟨v23, e23, hi23, h⟩ := nq_agE h
          refine nq_iald hX (nq_Model_bitsOf hL) e23 hi23 dX9_move_49 ?_
          refine nq_aload_n hX rfl 0 rfl dX9_move_50 ?_
          refine nq_getr (v := .ref (nq_ad E 11)) hX inX9_move_9 (nq_Model_0 hL) rfl 19 (by decide) lkX9_move_41 _ rfl rfl dX9_move_51 ?_
          refine nq_iload_n hX rfl 3 rfl dX9_move_54 ?_
          obtain ⟨v24, e24, hi24, h⟩ := nq_agE h
          refine nq_iald hX (nq_Model_bitsOf hL) e24 hi24 dX9_move_55 ?_
          refine nq_icmp_eq hX (tgt := 65) (by decide) dX9_move_56 (fun c25 => ?_) (fun c25 => ?_)
          · rw [if_pos c25] at h
            refine nq_iload hX 5 rfl dX9_move_65 ?_
            refine nq_if_lt hX (tgt := 106) (by decide) dX9_move_67 (fun c26 => ?_) (fun c26 => ?_)
            · rw [if_pos c26] at h
              refine nq_aload_n hX rfl 0 rfl dX9_move_106 ?_
              refine nq_iconst hX (v := 1) (by decide) dX9_move_107 ?_
              obtain ⟨v28, M29, hc27, h⟩ := nq_b2E h
              refine nq_callVi hX (tX9_finds hL hc27) gX9_move_X9_finds rfl rfl dsX9_finds (by decide) (nq_Model_0 hL) rfl rfl (Nat.le_of_ble_eq_true rfl) dX9_move_108 ?_
              obtain ⟨rfl, rfl⟩ := nq_sE2 h; exact nq_iret hX hr dX9_move_111
            · rw [if_neg c26] at h
              refine nq_iload_n hX rfl 2 rfl dX9_move_70 ?_
              refine nq_if_lt hX (tgt := 106) (by decide) dX9_move_71 (fun c30 => ?_) (fun c30 => ?_)
              · rw [if_pos c30] at h
                refine nq_aload_n hX rfl 0 rfl dX9_move_106 ?_
                refine nq_iconst hX (v := 1) (by decide) dX9_move_107 ?_
                obtain ⟨v32, M33, hc31, h⟩ := nq_b2E h
                refine nq_callVi hX (tX9_finds hL hc31) gX9_move_X9_finds rfl rfl dsX9_finds (by decide) (nq_Model_0 hL) rfl rfl (Nat.le_of_ble_eq_true rfl) dX9_move_108 ?_
                obtain ⟨rfl, rfl⟩ := nq_sE2 h; exact nq_iret hX hr dX9_move_111
              · rw [if_neg c30] at h
                refine nq_iload hX 4 rfl dX9_move_74 ?_
                refine nq_if_lt hX (tgt := 106) (by decide) dX9_move_76 (fun c34 => ?_) (fun c34 => ?_)
                · rw [if_pos c34] at h
                  refine nq_aload_n hX rfl 0 rfl dX9_move_106 ?_
                  refine nq_iconst hX (v := 1) (by decide) dX9_move_107 ?_
                  obtain ⟨v36, M37, hc35, h⟩ := nq_b2E h
                  refine nq_callVi hX (tX9_finds hL hc35) gX9_move_X9_finds rfl rfl dsX9_finds (by decide) (nq_Model_0 hL) rfl rfl (Nat.le_of_ble_eq_true rfl) dX9_move_108 ?_
                  obtain ⟨rfl, rfl⟩ := nq_sE2 h; exact nq_iret hX hr dX9_move_111
                · rw [if_neg c34] at h
                  refine nq_iload hX 5 rfl dX9_move_79 ?_
                  refine nq_aload_n hX rfl 0 rfl dX9_move_81 ?_
                  refine nq_getr (v := .ref (nq_ad E 12)) hX inX9_move_9 (nq_Model_0 hL) rfl 20 (by decide) lkX9_move_44 _ rfl rfl dX9_move_82 ?_
                  refine nq_iload_n hX rfl 1 rfl dX9_move_85 ?_
                  obtain ⟨v38, e38, hi38, h⟩ := nq_agE h
                  refine nq_iald hX (nq_Model_sizeOf hL) e38 hi38 dX9_move_86 ?_
                  refine nq_iload_n hX rfl 2 rfl dX9_move_87 ?_
                  refine nq_isub hX dX9_move_88 ?_
                  refine nq_icmp_gt hX (tgt := 106) (by decide) dX9_move_89 (fun c39 => ?_) (fun c39 => ?_)
                  · rw [if_pos c39] at h
                    refine nq_aload_n hX rfl 0 rfl dX9_move_106 ?_
                    refine nq_iconst hX (v := 1) (by decide) dX9_move_107 ?_
                    obtain ⟨v41, M42, hc40, h⟩ := nq_b2E h
                    refine nq_callVi hX (tX9_finds hL hc40) gX9_move_X9_finds rfl rfl dsX9_finds (by decide) (nq_Model_0 hL) rfl rfl (Nat.le_of_ble_eq_true rfl) dX9_move_108 ?_
                    obtain ⟨rfl, rfl⟩ := nq_sE2 h; exact nq_iret hX hr dX9_move_111
                  · rw [if_neg c39] at h
                    refine nq_iload hX 5 rfl dX9_move_92 ?_
                    refine nq_aload_n hX rfl 0 rfl dX9_move_94 ?_
                    refine nq_getr (v := .ref (nq_ad E 12)) hX inX9_move_9 (nq_Model_0 hL) rfl 20 (by decide) lkX9_move_44 _ rfl rfl dX9_move_95 ?_
                    refine nq_iload_n hX rfl 3 rfl dX9_move_98 ?_
                    obtain ⟨v43, e43, hi43, h⟩ := nq_agE h
                    refine nq_iald hX (nq_Model_sizeOf hL) e43 hi43 dX9_move_99 ?_
                    refine nq_iload hX 4 rfl dX9_move_100 ?_
                    refine nq_isub hX dX9_move_102 ?_
                    refine nq_icmp_le hX (tgt := 112) (by decide) dX9_move_103 (fun c44 => ?_) (fun c44 => ?_)
                    · rw [if_pos c44] at h
                      refine nq_iconst hX (v := 0) (by decide) dX9_move_112 ?_
                      refine nq_istore hX (lv' := [(6, .int (0 : Int32)), (0, .ref (nq_ad E 0)), (1, .int x1), (2, .int x2), (3, .int x3), (4, .int x4), (5, .int x5)]) (by decide) rfl rfl dX9_move_113 ?_
                      refine nq_sub (lv' := [(0, .ref (nq_ad E 0)), (1, .int x1), (2, .int x2), (3, .int x3), (4, .int x4), (5, .int x5), (6, .int (0 : Int32))]) [1, 2, 3, 4, 5, 6, 0] rfl ?_
                      exact mX9_move_L115 hL hX hr h
                    · rw [if_neg c44] at h
                      refine nq_aload_n hX rfl 0 rfl dX9_move_106 ?_
                      refine nq_iconst hX (v := 1) (by decide) dX9_move_107 ?_
                      obtain ⟨v54, M55, hc53, h⟩ := nq_b2E h
                      refine nq_callVi hX (tX9_finds hL hc53) gX9_move_X9_finds rfl rfl dsX9_finds (by decide) (nq_Model_0 hL) rfl rfl (Nat.le_of_ble_eq_true rfl) dX9_move_108 ?_
                      obtain ⟨rfl, rfl⟩ := nq_sE2 h; exact nq_iret hX hr dX9_move_111
          · rw [if_neg c25] at h
            refine nq_aload_n hX rfl 0 rfl dX9_move_59 ?_
            refine nq_iconst hX (v := 5) (by decide) dX9_move_60 ?_
            obtain ⟨v57, M58, hc56, h⟩ := nq_b2E h
            refine nq_callVi hX (tX9_finds hL hc56) gX9_move_X9_finds rfl rfl dsX9_finds (by decide) (nq_Model_0 hL) rfl rfl (Nat.le_of_ble_eq_true rfl) dX9_move_61 ?_
            obtain ⟨rfl, rfl⟩ := nq_sE2 h; exact nq_iret hX hr dX9_move_64
theorem dsX9_move : yX9_move.cls ≠ "java/lang/invoke/MethodHandle" ∧ yX9_move.cls ≠ "java/lang/invoke/VarHandle" ∧ (parseMethodDescriptor yX9_move.desc).map (fun d => d.parameters.length) = some 5 := by decide +kernel
theorem tX9_move {l : Launch} {E : Ev} {K : List Sh} {x1 : Int32} {x2 : Int32} {x3 : Int32} {x4 : Int32} {x5 : Int32} {M : Mem} {r : Int32} {M' : Mem} (hL : nq_atModel E K) (h : fX9_move x1 x2 x3 x4 x5 M = some (r, M')) : nq_MA l E yX9_move wsX9_move (nq_rm 3) [.ref (nq_ad E 0), .int x1, .int x2, .int x3, .int x4, .int x5] K M (some (.int r)) K M' :=
  nq_met (own := RX9) (cc := cX9_move) (maxL := 7) (ret := (some .int)) (by decide) rfl rfl (Nat.le_of_ble_eq_true rfl) (fun X hX hr => mX9_move hL hX hr h)

theorem inX9_image_9 : ∀ w ∈ u_ws RX9 TX9 23, w ∈ wsX9_image := by
  intro w h; unfold wsX9_image; simp only [List.mem_cons, List.mem_append]; simp only [h, true_or, or_true]
theorem lkX9_image_13 : Cond.fieldLink RX9 13 (TX9 1).1 (TX9 1).2.1 (TX9 1).2.2.1 ∈ wsX9_image := by decide +kernel
theorem lkX9_image_7 : Cond.fieldLink RX9 7 (TX9 0).1 (TX9 0).2.1 (TX9 0).2.2.1 ∈ wsX9_image := by decide +kernel
theorem lkX9_image_324 : Cond.fieldLink RX9 324 (TX9 2).1 (TX9 2).2.1 (TX9 2).2.2.1 ∈ wsX9_image := by decide +kernel
def fX9_image_B2 (x1 : Int32) (M : Mem) : Option ((Int32 × Mem) ⊕ (Mem)) :=
  if (1250 : Int32) ≤ x1 then
  (some (.inr M))
  else
  ((nq_ag (M 1) 1250 x1).bind fun v2 =>
  (nq_as M 2 1250 x1 v2).bind fun M3 =>
  nq_lt (x1 + (1 : Int32)) fun v4 =>
  some (.inl (v4, M3)))
set_option maxHeartbeats 4000000 in
theorem mX9_image_B2 {X : Cx} {E : Ev} {l : Launch} {K : List Sh} {x1 : Int32} {M : Mem} (hL : nq_atModel E K) (hX : nq_OK X E l (nq_rm 1) cX9_image 2 RX9 wsX9_image) {x : (Int32 × Mem) ⊕ (Mem)} (hc : ∀ s' : Int32 × Mem, x = .inl s' → nq_G X E 2 2 [(0, .ref (nq_ad E 0)), (1, .int s'.1)] [] K s'.2) (he : ∀ s' : Mem, x = .inr s' → nq_G X E 2 27 [(0, .ref (nq_ad E 0))] [] K s') (h : fX9_image_B2 x1 M = some x) : nq_G X E 2 2 [(0, .ref (nq_ad E 0)), (1, .int x1)] [] K M := by
  unfold fX9_image_B2 at h
  refine nq_iload_n hX rfl 1 rfl dX9_image_2 ?_
  refine nq_sipush hX (v := 1250) (by decide) dX9_image_3 ?_
  refine nq_icmp_ge hX (tgt := 27) (by decide) dX9_image_6 (fun c1 => ?_) (fun c1 => ?_)
  · rw [if_pos c1] at h
    refine nq_sub (lv' := [(0, .ref (nq_ad E 0))]) [0] rfl ?_
    exact he M (nq_sE h).symm
  · rw [if_neg c1] at h
    refine nq_aload_n hX rfl 0 rfl dX9_image_9 ?_
    refine nq_getr (v := .ref (nq_ad E 2)) hX inX9_image_9 (nq_Model_0 hL) rfl 1 (by decide) lkX9_image_13 _ rfl rfl dX9_image_10 ?_
    refine nq_iload_n hX rfl 1 rfl dX9_image_13 ?_
    refine nq_aload_n hX rfl 0 rfl dX9_image_14 ?_
    refine nq_getr (v := .ref (nq_ad E 1)) hX inX9_image_9 (nq_Model_0 hL) rfl 0 (by decide) lkX9_image_7 _ rfl rfl dX9_image_15 ?_
    refine nq_iload_n hX rfl 1 rfl dX9_image_18 ?_
    obtain ⟨v2, e2, hi2, h⟩ := nq_agE h
    refine nq_iald hX (nq_Model_d hL) e2 hi2 dX9_image_19 ?_
    obtain ⟨M3, e3, hi3, h⟩ := nq_asE h
    refine nq_iast hX (nq_Model_kept hL) e3 hi3 dX9_image_20 ?_
    obtain ⟨v4, e4, h⟩ := nq_ltE h
    refine nq_iinc hX (lv' := [(1, .int v4), (0, .ref (nq_ad E 0))]) (j := 1) rfl (e4.trans rfl) (by decide) rfl dX9_image_21 ?_
    refine nq_goto hX (tgt := 2) (by decide) dX9_image_24 ?_
    refine nq_sub (lv' := [(0, .ref (nq_ad E 0)), (1, .int v4)]) [1, 0] rfl ?_
    exact hc (v4, M3) (nq_sE h).symm
def fX9_image_L27 (M : Mem) : Option (Int32 × Mem) :=
  nq_lt (M 0 2) fun v5 =>
  nq_lt (nq_wr M 0 2 (v5 + (1 : Int32))) fun M6 =>
  nq_lt (M6 0 2) fun v7 =>
  some (v7, M6)
set_option maxHeartbeats 4000000 in
theorem mX9_image_L27 {X : Cx} {E : Ev} {l : Launch} {K : List Sh} {M : Mem} {r : Int32} {M' : Mem} (hL : nq_atModel E K) (hX : nq_OK X E l (nq_rm 1) cX9_image 2 RX9 wsX9_image) (hr : nq_RT X E (some .int) (some (.int r)) K M') (h : fX9_image_L27 M = some (r, M')) : nq_G X E 2 27 [(0, .ref (nq_ad E 0))] [] K M := by
  unfold fX9_image_L27 at h
  refine nq_aload_n hX rfl 0 rfl dX9_image_27 ?_
  refine nq_dup hX rfl dX9_image_28 ?_
  obtain ⟨v5, e5, h⟩ := nq_ltE h
  refine nq_geti hX inX9_image_9 (nq_Model_0 hL) rfl 2 (by decide) lkX9_image_324 rfl e5 dX9_image_29 ?_
  refine nq_iconst hX (v := 1) (by decide) dX9_image_32 ?_
  refine nq_iadd hX dX9_image_33 ?_
  obtain ⟨M6, eM6, h⟩ := nq_ltE h
  refine nq_puti hX inX9_image_9 tyX9 tyX9_ok nmX9 (nq_Model_0 hL) rfl 2 (by decide) lkX9_image_324 rfl rfl rfl rfl rfl eM6 dX9_image_34 ?_
  refine nq_aload_n hX rfl 0 rfl dX9_image_37 ?_
  obtain ⟨v7, e7, h⟩ := nq_ltE h
  refine nq_geti hX inX9_image_9 (nq_Model_0 hL) rfl 2 (by decide) lkX9_image_324 rfl e7 dX9_image_38 ?_
  obtain ⟨rfl, rfl⟩ := nq_sE2 h; exact nq_iret hX hr dX9_image_41
def fX9_image_L2 (x1 : Int32) (M : Mem) : Option (Int32 × Mem) :=
  (nq_lp (fun s : Int32 × Mem => fX9_image_B2 s.1 s.2) nq_fuel (x1, M)).bind (fun e => fX9_image_L27 e)
set_option maxHeartbeats 4000000 in
theorem mX9_image_L2 {X : Cx} {E : Ev} {l : Launch} {K : List Sh} {x1 : Int32} {M : Mem} {r : Int32} {M' : Mem} (hL : nq_atModel E K) (hX : nq_OK X E l (nq_rm 1) cX9_image 2 RX9 wsX9_image) (hr : nq_RT X E (some .int) (some (.int r)) K M') (h : fX9_image_L2 x1 M = some (r, M')) : nq_G X E 2 2 [(0, .ref (nq_ad E 0)), (1, .int x1)] [] K M := by
  unfold fX9_image_L2 at h
  obtain ⟨e, h1, h⟩ := nq_bE h
  have key : ∀ (ex : Mem), nq_lp (fun s : Int32 × Mem => fX9_image_B2 s.1 s.2) nq_fuel (x1, M) = some ex → (∀ e, ex = e → nq_G X E 2 27 [(0, .ref (nq_ad E 0))] [] K e) → nq_G X E 2 2 [(0, .ref (nq_ad E 0)), (1, .int ((x1, M).1))] [] K (x1, M).2 := by
    intro ex h1 hE
    refine nq_lpE (P := fun s : Int32 × Mem => nq_G X E 2 2 [(0, .ref (nq_ad E 0)), (1, .int s.1)] [] K s.2) (r := ex) ?_ nq_fuel (x1, M) h1
    intro s xx hx1 hc1 he1
    exact mX9_image_B2 hL hX hc1 (fun e q => hE e (he1 _ q).symm) hx1
  refine key e h1 (fun e q => ?_)
  subst q
  exact mX9_image_L27 hL hX hr h
def fX9_image (M : Mem) : Option (Int32 × Mem) :=
  fX9_image_L2 (0 : Int32) M
set_option maxHeartbeats 4000000 in
theorem mX9_image {X : Cx} {E : Ev} {l : Launch} {K : List Sh} {M : Mem} {r : Int32} {M' : Mem} (hL : nq_atModel E K) (hX : nq_OK X E l (nq_rm 1) cX9_image 2 RX9 wsX9_image) (hr : nq_RT X E (some .int) (some (.int r)) K M') (h : fX9_image M = some (r, M')) : nq_G X E 2 0 [(0, .ref (nq_ad E 0))] [] K M := by
  unfold fX9_image at h
  refine nq_iconst hX (v := 0) (by decide) dX9_image_0 ?_
  refine nq_istore_n hX (lv' := [(1, .int (0 : Int32)), (0, .ref (nq_ad E 0))]) rfl (by decide) rfl rfl dX9_image_1 ?_
  refine nq_sub (lv' := [(0, .ref (nq_ad E 0)), (1, .int (0 : Int32))]) [1, 0] rfl ?_
  exact mX9_image_L2 hL hX hr h
theorem dsX9_image : yX9_image.cls ≠ "java/lang/invoke/MethodHandle" ∧ yX9_image.cls ≠ "java/lang/invoke/VarHandle" ∧ (parseMethodDescriptor yX9_image.desc).map (fun d => d.parameters.length) = some 0 := by decide +kernel
theorem tX9_image {l : Launch} {E : Ev} {K : List Sh} {M : Mem} {r : Int32} {M' : Mem} (hL : nq_atModel E K) (h : fX9_image M = some (r, M')) : nq_MA l E yX9_image wsX9_image (nq_rm 1) [.ref (nq_ad E 0)] K M (some (.int r)) K M' :=
  nq_met (own := RX9) (cc := cX9_image) (maxL := 2) (ret := (some .int)) (by decide) rfl rfl (Nat.le_of_ble_eq_true rfl) (fun X hX hr => mX9_image hL hX hr h)

theorem inX9_restore_9 : ∀ w ∈ u_ws RX9 TX9 23, w ∈ wsX9_restore := by
  intro w h; unfold wsX9_restore; simp only [List.mem_cons, List.mem_append]; simp only [h, true_or, or_true]
theorem lkX9_restore_324 : Cond.fieldLink RX9 324 (TX9 2).1 (TX9 2).2.1 (TX9 2).2.2.1 ∈ wsX9_restore := by decide +kernel
theorem lkX9_restore_7 : Cond.fieldLink RX9 7 (TX9 0).1 (TX9 0).2.1 (TX9 0).2.2.1 ∈ wsX9_restore := by decide +kernel
theorem lkX9_restore_13 : Cond.fieldLink RX9 13 (TX9 1).1 (TX9 1).2.1 (TX9 1).2.2.1 ∈ wsX9_restore := by decide +kernel
def fX9_restore_B15 (x1 : Int32) (M : Mem) : Option ((Int32 × Mem) ⊕ (Mem)) :=
  if (1250 : Int32) ≤ x1 then
  (some (.inr M))
  else
  ((nq_ag (M 2) 1250 x1).bind fun v7 =>
  (nq_as M 1 1250 x1 v7).bind fun M8 =>
  nq_lt (x1 + (1 : Int32)) fun v9 =>
  some (.inl (v9, M8)))
set_option maxHeartbeats 4000000 in
theorem mX9_restore_B15 {X : Cx} {E : Ev} {l : Launch} {K : List Sh} {x1 : Int32} {M : Mem} (hL : nq_atModel E K) (hX : nq_OK X E l (nq_rm 2) cX9_restore 2 RX9 wsX9_restore) {x : (Int32 × Mem) ⊕ (Mem)} (hc : ∀ s' : Int32 × Mem, x = .inl s' → nq_G X E 2 15 [(0, .ref (nq_ad E 0)), (1, .int s'.1)] [] K s'.2) (he : ∀ s' : Mem, x = .inr s' → nq_G X E 2 40 [(0, .ref (nq_ad E 0))] [] K s') (h : fX9_restore_B15 x1 M = some x) : nq_G X E 2 15 [(0, .ref (nq_ad E 0)), (1, .int x1)] [] K M := by
  unfold fX9_restore_B15 at h
  refine nq_iload_n hX rfl 1 rfl dX9_restore_15 ?_
  refine nq_sipush hX (v := 1250) (by decide) dX9_restore_16 ?_
  refine nq_icmp_ge hX (tgt := 40) (by decide) dX9_restore_19 (fun c6 => ?_) (fun c6 => ?_)
  · rw [if_pos c6] at h
    refine nq_sub (lv' := [(0, .ref (nq_ad E 0))]) [0] rfl ?_
    exact he M (nq_sE h).symm
  · rw [if_neg c6] at h
    refine nq_aload_n hX rfl 0 rfl dX9_restore_22 ?_
    refine nq_getr (v := .ref (nq_ad E 1)) hX inX9_restore_9 (nq_Model_0 hL) rfl 0 (by decide) lkX9_restore_7 _ rfl rfl dX9_restore_23 ?_
    refine nq_iload_n hX rfl 1 rfl dX9_restore_26 ?_
    refine nq_aload_n hX rfl 0 rfl dX9_restore_27 ?_
    refine nq_getr (v := .ref (nq_ad E 2)) hX inX9_restore_9 (nq_Model_0 hL) rfl 1 (by decide) lkX9_restore_13 _ rfl rfl dX9_restore_28 ?_
    refine nq_iload_n hX rfl 1 rfl dX9_restore_31 ?_
    obtain ⟨v7, e7, hi7, h⟩ := nq_agE h
    refine nq_iald hX (nq_Model_kept hL) e7 hi7 dX9_restore_32 ?_
    obtain ⟨M8, e8, hi8, h⟩ := nq_asE h
    refine nq_iast hX (nq_Model_d hL) e8 hi8 dX9_restore_33 ?_
    obtain ⟨v9, e9, h⟩ := nq_ltE h
    refine nq_iinc hX (lv' := [(1, .int v9), (0, .ref (nq_ad E 0))]) (j := 1) rfl (e9.trans rfl) (by decide) rfl dX9_restore_34 ?_
    refine nq_goto hX (tgt := 15) (by decide) dX9_restore_37 ?_
    refine nq_sub (lv' := [(0, .ref (nq_ad E 0)), (1, .int v9)]) [1, 0] rfl ?_
    exact hc (v9, M8) (nq_sE h).symm
def fX9_restore_L40 (M : Mem) : Option (Int32 × Mem) :=
  (nq_ag (M 1) 1250 (0 : Int32)).bind fun v10 =>
  some (v10, M)
set_option maxHeartbeats 4000000 in
theorem mX9_restore_L40 {X : Cx} {E : Ev} {l : Launch} {K : List Sh} {M : Mem} {r : Int32} {M' : Mem} (hL : nq_atModel E K) (hX : nq_OK X E l (nq_rm 2) cX9_restore 2 RX9 wsX9_restore) (hr : nq_RT X E (some .int) (some (.int r)) K M') (h : fX9_restore_L40 M = some (r, M')) : nq_G X E 2 40 [(0, .ref (nq_ad E 0))] [] K M := by
  unfold fX9_restore_L40 at h
  refine nq_aload_n hX rfl 0 rfl dX9_restore_40 ?_
  refine nq_getr (v := .ref (nq_ad E 1)) hX inX9_restore_9 (nq_Model_0 hL) rfl 0 (by decide) lkX9_restore_7 _ rfl rfl dX9_restore_41 ?_
  refine nq_iconst hX (v := 0) (by decide) dX9_restore_44 ?_
  obtain ⟨v10, e10, hi10, h⟩ := nq_agE h
  refine nq_iald hX (nq_Model_d hL) e10 hi10 dX9_restore_45 ?_
  obtain ⟨rfl, rfl⟩ := nq_sE2 h; exact nq_iret hX hr dX9_restore_46
def fX9_restore_L15 (x1 : Int32) (M : Mem) : Option (Int32 × Mem) :=
  (nq_lp (fun s : Int32 × Mem => fX9_restore_B15 s.1 s.2) nq_fuel (x1, M)).bind (fun e => fX9_restore_L40 e)
set_option maxHeartbeats 4000000 in
theorem mX9_restore_L15 {X : Cx} {E : Ev} {l : Launch} {K : List Sh} {x1 : Int32} {M : Mem} {r : Int32} {M' : Mem} (hL : nq_atModel E K) (hX : nq_OK X E l (nq_rm 2) cX9_restore 2 RX9 wsX9_restore) (hr : nq_RT X E (some .int) (some (.int r)) K M') (h : fX9_restore_L15 x1 M = some (r, M')) : nq_G X E 2 15 [(0, .ref (nq_ad E 0)), (1, .int x1)] [] K M := by
  unfold fX9_restore_L15 at h
  obtain ⟨e, h1, h⟩ := nq_bE h
  have key : ∀ (ex : Mem), nq_lp (fun s : Int32 × Mem => fX9_restore_B15 s.1 s.2) nq_fuel (x1, M) = some ex → (∀ e, ex = e → nq_G X E 2 40 [(0, .ref (nq_ad E 0))] [] K e) → nq_G X E 2 15 [(0, .ref (nq_ad E 0)), (1, .int ((x1, M).1))] [] K (x1, M).2 := by
    intro ex h1 hE
    refine nq_lpE (P := fun s : Int32 × Mem => nq_G X E 2 15 [(0, .ref (nq_ad E 0)), (1, .int s.1)] [] K s.2) (r := ex) ?_ nq_fuel (x1, M) h1
    intro s xx hx1 hc1 he1
    exact mX9_restore_B15 hL hX hc1 (fun e q => hE e (he1 _ q).symm) hx1
  refine key e h1 (fun e q => ?_)
  subst q
  exact mX9_restore_L40 hL hX hr h
def fX9_restore (M : Mem) : Option (Int32 × Mem) :=
  nq_lt (M 0 2) fun v1 =>
  if v1 = 0 then
  (nq_b2 (fX9_finds (2 : Int32) M) fun v4 M5 =>
  some (v4, M5))
  else
  (fX9_restore_L15 (0 : Int32) M)
set_option maxHeartbeats 4000000 in
theorem mX9_restore {X : Cx} {E : Ev} {l : Launch} {K : List Sh} {M : Mem} {r : Int32} {M' : Mem} (hL : nq_atModel E K) (hX : nq_OK X E l (nq_rm 2) cX9_restore 2 RX9 wsX9_restore) (hr : nq_RT X E (some .int) (some (.int r)) K M') (h : fX9_restore M = some (r, M')) : nq_G X E 2 0 [(0, .ref (nq_ad E 0))] [] K M := by
  unfold fX9_restore at h
  refine nq_aload_n hX rfl 0 rfl dX9_restore_0 ?_
  obtain ⟨v1, e1, h⟩ := nq_ltE h
  refine nq_geti hX inX9_restore_9 (nq_Model_0 hL) rfl 2 (by decide) lkX9_restore_324 rfl e1 dX9_restore_1 ?_
  refine nq_if_ne hX (tgt := 13) (by decide) dX9_restore_4 (fun c2 => ?_) (fun c2 => ?_)
  · rw [if_pos c2] at h
    refine nq_aload_n hX rfl 0 rfl dX9_restore_7 ?_
    refine nq_iconst hX (v := 2) (by decide) dX9_restore_8 ?_
    obtain ⟨v4, M5, hc3, h⟩ := nq_b2E h
    refine nq_callVi hX (tX9_finds hL hc3) gX9_restore_X9_finds rfl rfl dsX9_finds (by decide) (nq_Model_0 hL) rfl rfl (Nat.le_of_ble_eq_true rfl) dX9_restore_9 ?_
    obtain ⟨rfl, rfl⟩ := nq_sE2 h; exact nq_iret hX hr dX9_restore_12
  · rw [if_neg c2] at h
    refine nq_iconst hX (v := 0) (by decide) dX9_restore_13 ?_
    refine nq_istore_n hX (lv' := [(1, .int (0 : Int32)), (0, .ref (nq_ad E 0))]) rfl (by decide) rfl rfl dX9_restore_14 ?_
    refine nq_sub (lv' := [(0, .ref (nq_ad E 0)), (1, .int (0 : Int32))]) [1, 0] rfl ?_
    exact mX9_restore_L15 hL hX hr h
theorem dsX9_restore : yX9_restore.cls ≠ "java/lang/invoke/MethodHandle" ∧ yX9_restore.cls ≠ "java/lang/invoke/VarHandle" ∧ (parseMethodDescriptor yX9_restore.desc).map (fun d => d.parameters.length) = some 0 := by decide +kernel
theorem tX9_restore {l : Launch} {E : Ev} {K : List Sh} {M : Mem} {r : Int32} {M' : Mem} (hL : nq_atModel E K) (h : fX9_restore M = some (r, M')) : nq_MA l E yX9_restore wsX9_restore (nq_rm 2) [.ref (nq_ad E 0)] K M (some (.int r)) K M' :=
  nq_met (own := RX9) (cc := cX9_restore) (maxL := 2) (ret := (some .int)) (by decide) rfl rfl (Nat.le_of_ble_eq_true rfl) (fun X hX hr => mX9_restore hL hX hr h)

theorem inX9_tell_9 : ∀ w ∈ u_ws RX9 TX9 23, w ∈ wsX9_tell := by
  intro w h; unfold wsX9_tell; simp only [List.mem_cons, List.mem_append]; simp only [h, true_or, or_true]
theorem lkX9_tell_7 : Cond.fieldLink RX9 7 (TX9 0).1 (TX9 0).2.1 (TX9 0).2.2.1 ∈ wsX9_tell := by decide +kernel
def fX9_tell (x1 : Int32) (M : Mem) : Option (Int32 × Mem) :=
  (nq_ag (M 1) 1250 (10 : Int32)).bind fun v1 =>
  if v1 = (20 : Int32) then
  (nq_b2 (fX9_finds (4 : Int32) M) fun v4 M5 =>
  some (v4, M5))
  else
  ((nq_ag (M 1) 1250 (10 : Int32)).bind fun v6 =>
  (nq_as M 1 1250 ((590 : Int32) + v6) x1).bind fun M7 =>
  (nq_ag (M7 1) 1250 (10 : Int32)).bind fun v8 =>
  (nq_as M7 1 1250 (10 : Int32) (v8 + (1 : Int32))).bind fun M9 =>
  (nq_ag (M9 1) 1250 (10 : Int32)).bind fun v10 =>
  some (v10, M9))
set_option maxHeartbeats 4000000 in
theorem mX9_tell {X : Cx} {E : Ev} {l : Launch} {K : List Sh} {x1 : Int32} {M : Mem} {r : Int32} {M' : Mem} (hL : nq_atModel E K) (hX : nq_OK X E l (nq_rm 2) cX9_tell 2 RX9 wsX9_tell) (hr : nq_RT X E (some .int) (some (.int r)) K M') (h : fX9_tell x1 M = some (r, M')) : nq_G X E 2 0 [(0, .ref (nq_ad E 0)), (1, .int x1)] [] K M := by
  unfold fX9_tell at h
  refine nq_aload_n hX rfl 0 rfl dX9_tell_0 ?_
  refine nq_getr (v := .ref (nq_ad E 1)) hX inX9_tell_9 (nq_Model_0 hL) rfl 0 (by decide) lkX9_tell_7 _ rfl rfl dX9_tell_1 ?_
  refine nq_bipush hX (v := 10) (by decide) dX9_tell_4 ?_
  obtain ⟨v1, e1, hi1, h⟩ := nq_agE h
  refine nq_iald hX (nq_Model_d hL) e1 hi1 dX9_tell_6 ?_
  refine nq_bipush hX (v := 20) (by decide) dX9_tell_7 ?_
  refine nq_icmp_ne hX (tgt := 18) (by decide) dX9_tell_9 (fun c2 => ?_) (fun c2 => ?_)
  · rw [if_pos c2] at h
    refine nq_aload_n hX rfl 0 rfl dX9_tell_12 ?_
    refine nq_iconst hX (v := 4) (by decide) dX9_tell_13 ?_
    obtain ⟨v4, M5, hc3, h⟩ := nq_b2E h
    refine nq_callVi hX (tX9_finds hL hc3) gX9_tell_X9_finds rfl rfl dsX9_finds (by decide) (nq_Model_0 hL) rfl rfl (Nat.le_of_ble_eq_true rfl) dX9_tell_14 ?_
    obtain ⟨rfl, rfl⟩ := nq_sE2 h; exact nq_iret hX hr dX9_tell_17
  · rw [if_neg c2] at h
    refine nq_aload_n hX rfl 0 rfl dX9_tell_18 ?_
    refine nq_getr (v := .ref (nq_ad E 1)) hX inX9_tell_9 (nq_Model_0 hL) rfl 0 (by decide) lkX9_tell_7 _ rfl rfl dX9_tell_19 ?_
    refine nq_sipush hX (v := 590) (by decide) dX9_tell_22 ?_
    refine nq_aload_n hX rfl 0 rfl dX9_tell_25 ?_
    refine nq_getr (v := .ref (nq_ad E 1)) hX inX9_tell_9 (nq_Model_0 hL) rfl 0 (by decide) lkX9_tell_7 _ rfl rfl dX9_tell_26 ?_
    refine nq_bipush hX (v := 10) (by decide) dX9_tell_29 ?_
    obtain ⟨v6, e6, hi6, h⟩ := nq_agE h
    refine nq_iald hX (nq_Model_d hL) e6 hi6 dX9_tell_31 ?_
    refine nq_iadd hX dX9_tell_32 ?_
    refine nq_iload_n hX rfl 1 rfl dX9_tell_33 ?_
    obtain ⟨M7, e7, hi7, h⟩ := nq_asE h
    refine nq_iast hX (nq_Model_d hL) e7 hi7 dX9_tell_34 ?_
    refine nq_aload_n hX rfl 0 rfl dX9_tell_35 ?_
    refine nq_getr (v := .ref (nq_ad E 1)) hX inX9_tell_9 (nq_Model_0 hL) rfl 0 (by decide) lkX9_tell_7 _ rfl rfl dX9_tell_36 ?_
    refine nq_bipush hX (v := 10) (by decide) dX9_tell_39 ?_
    refine nq_dup2 hX rfl rfl dX9_tell_41 ?_
    obtain ⟨v8, e8, hi8, h⟩ := nq_agE h
    refine nq_iald hX (nq_Model_d hL) e8 hi8 dX9_tell_42 ?_
    refine nq_iconst hX (v := 1) (by decide) dX9_tell_43 ?_
    refine nq_iadd hX dX9_tell_44 ?_
    obtain ⟨M9, e9, hi9, h⟩ := nq_asE h
    refine nq_iast hX (nq_Model_d hL) e9 hi9 dX9_tell_45 ?_
    refine nq_aload_n hX rfl 0 rfl dX9_tell_46 ?_
    refine nq_getr (v := .ref (nq_ad E 1)) hX inX9_tell_9 (nq_Model_0 hL) rfl 0 (by decide) lkX9_tell_7 _ rfl rfl dX9_tell_47 ?_
    refine nq_bipush hX (v := 10) (by decide) dX9_tell_50 ?_
    obtain ⟨v10, e10, hi10, h⟩ := nq_agE h
    refine nq_iald hX (nq_Model_d hL) e10 hi10 dX9_tell_52 ?_
    obtain ⟨rfl, rfl⟩ := nq_sE2 h; exact nq_iret hX hr dX9_tell_53
theorem dsX9_tell : yX9_tell.cls ≠ "java/lang/invoke/MethodHandle" ∧ yX9_tell.cls ≠ "java/lang/invoke/VarHandle" ∧ (parseMethodDescriptor yX9_tell.desc).map (fun d => d.parameters.length) = some 1 := by decide +kernel
theorem tX9_tell {l : Launch} {E : Ev} {K : List Sh} {x1 : Int32} {M : Mem} {r : Int32} {M' : Mem} (hL : nq_atModel E K) (h : fX9_tell x1 M = some (r, M')) : nq_MA l E yX9_tell wsX9_tell (nq_rm 2) [.ref (nq_ad E 0), .int x1] K M (some (.int r)) K M' :=
  nq_met (own := RX9) (cc := cX9_tell) (maxL := 2) (ret := (some .int)) (by decide) rfl rfl (Nat.le_of_ble_eq_true rfl) (fun X hX hr => mX9_tell hL hX hr h)

theorem inX9_check_9 : ∀ w ∈ u_ws RX9 TX9 23, w ∈ wsX9_check := by
  intro w h; unfold wsX9_check; simp only [List.mem_cons, List.mem_append]; simp only [h, true_or, or_true]
theorem lkX9_check_7 : Cond.fieldLink RX9 7 (TX9 0).1 (TX9 0).2.1 (TX9 0).2.2.1 ∈ wsX9_check := by decide +kernel
def fX9_check_B57_43 (x1 : Int32) (x2 : Int32) (x3 : Int32) (x4 : Int32) (x5 : Int32) (x6 : Int32) (M : Mem) : Option ((Int32 × Int32) ⊕ ((Int32) ⊕ (Int32 × Mem))) :=
  (nq_ag (M 1) 1250 (2 : Int32)).bind fun v17 =>
  if v17 ≤ x6 then
  (some (.inr (.inl x4)))
  else
  ((fX9_hasCome x6 x1 x2 x5 M).bind fun v20 =>
  if v20 = 0 then
  (nq_lt (x6 + (1 : Int32)) fun v22 =>
  some (.inl (x4, v22)))
  else
  ((fX9_wo x6 (5 : Int32) M).bind fun v24 =>
  if v24 = x5 then
  (if x4 = x3 then
  (some (.inr (.inr (((1 : Int32) + x4), M))))
  else
  ((nq_ag (M 1) 1250 ((590 : Int32) + x4)).bind fun v27 =>
  if v27 = x6 then
  (nq_lt (x4 + (1 : Int32)) fun v29 =>
  nq_lt (x6 + (1 : Int32)) fun v30 =>
  some (.inl (v29, v30)))
  else
  (some (.inr (.inr (((1 : Int32) + x4), M))))))
  else
  (nq_lt (x6 + (1 : Int32)) fun v31 =>
  some (.inl (x4, v31)))))
set_option maxHeartbeats 4000000 in
theorem mX9_check_B57_43 {X : Cx} {E : Ev} {l : Launch} {K : List Sh} {x1 : Int32} {x2 : Int32} {x3 : Int32} {x4 : Int32} {x5 : Int32} {x6 : Int32} {M : Mem} (hL : nq_atModel E K) (hX : nq_OK X E l (nq_rm 3) cX9_check 7 RX9 wsX9_check) {x : (Int32 × Int32) ⊕ ((Int32) ⊕ (Int32 × Mem))} (hc : ∀ s' : Int32 × Int32, x = .inl s' → nq_G X E 7 57 [(0, .ref (nq_ad E 0)), (1, .int x1), (2, .int x2), (3, .int x3), (4, .int s'.1), (5, .int x5), (6, .int s'.2)] [] K M) (he : ∀ s' : Int32, x = .inr (.inl s') → nq_G X E 7 129 [(0, .ref (nq_ad E 0)), (1, .int x1), (2, .int x2), (3, .int x3), (4, .int s'), (5, .int x5)] [] K M) (hret : ∀ r : Int32 × Mem, x = .inr (.inr r) → nq_RT X E (some .int) (some (.int r.1)) K r.2) (h : fX9_check_B57_43 x1 x2 x3 x4 x5 x6 M = some x) : nq_G X E 7 57 [(0, .ref (nq_ad E 0)), (1, .int x1), (2, .int x2), (3, .int x3), (4, .int x4), (5, .int x5), (6, .int x6)] [] K M := by
  unfold fX9_check_B57_43 at h
  refine nq_iload hX 6 rfl dX9_check_57 ?_
  refine nq_aload_n hX rfl 0 rfl dX9_check_59 ?_
  refine nq_getr (v := .ref (nq_ad E 1)) hX inX9_check_9 (nq_Model_0 hL) rfl 0 (by decide) lkX9_check_7 _ rfl rfl dX9_check_60 ?_
  refine nq_iconst hX (v := 2) (by decide) dX9_check_63 ?_
  obtain ⟨v17, e17, hi17, h⟩ := nq_agE h
  refine nq_iald hX (nq_Model_d hL) e17 hi17 dX9_check_64 ?_
  refine nq_icmp_ge hX (tgt := 129) (by decide) dX9_check_65 (fun c18 => ?_) (fun c18 => ?_)
  · rw [if_pos c18] at h
    refine nq_sub (lv' := [(0, .ref (nq_ad E 0)), (1, .int x1), (2, .int x2), (3, .int x3), (4, .int x4), (5, .int x5)]) [0, 1, 2, 3, 4, 5] rfl ?_
    exact he x4 (nq_sE h).symm
  · rw [if_neg c18] at h
    refine nq_aload_n hX rfl 0 rfl dX9_check_68 ?_
    refine nq_iload hX 6 rfl dX9_check_69 ?_
    refine nq_iload_n hX rfl 1 rfl dX9_check_71 ?_
    refine nq_iload_n hX rfl 2 rfl dX9_check_72 ?_
    refine nq_iload hX 5 rfl dX9_check_73 ?_
    obtain ⟨v20, hc19, h⟩ := nq_bE h
    refine nq_callVi hX (tX9_hasCome hL hc19) gX9_check_X9_hasCome rfl rfl dsX9_hasCome (by decide) (nq_Model_0 hL) rfl rfl (Nat.le_of_ble_eq_true rfl) dX9_check_75 ?_
    refine nq_if_eq hX (tgt := 123) (by decide) dX9_check_78 (fun c21 => ?_) (fun c21 => ?_)
    · rw [if_pos c21] at h
      obtain ⟨v22, e22, h⟩ := nq_ltE h
      refine nq_iinc hX (lv' := [(6, .int v22), (0, .ref (nq_ad E 0)), (1, .int x1), (2, .int x2), (3, .int x3), (4, .int x4), (5, .int x5)]) (j := 6) rfl (e22.trans rfl) (by decide) rfl dX9_check_123 ?_
      refine nq_goto hX (tgt := 57) (by decide) dX9_check_126 ?_
      refine nq_sub (lv' := [(0, .ref (nq_ad E 0)), (1, .int x1), (2, .int x2), (3, .int x3), (4, .int x4), (5, .int x5), (6, .int v22)]) [1, 2, 3, 4, 5, 6, 0] rfl ?_
      exact hc (x4, v22) (nq_sE h).symm
    · rw [if_neg c21] at h
      refine nq_aload_n hX rfl 0 rfl dX9_check_81 ?_
      refine nq_iload hX 6 rfl dX9_check_82 ?_
      refine nq_iconst hX (v := 5) (by decide) dX9_check_84 ?_
      obtain ⟨v24, hc23, h⟩ := nq_bE h
      refine nq_callVi hX (tX9_wo hL hc23) gX9_check_X9_wo rfl rfl dsX9_wo (by decide) (nq_Model_0 hL) rfl rfl (Nat.le_of_ble_eq_true rfl) dX9_check_85 ?_
      refine nq_iload hX 5 rfl dX9_check_88 ?_
      refine nq_icmp_ne hX (tgt := 123) (by decide) dX9_check_90 (fun c25 => ?_) (fun c25 => ?_)
      · rw [if_pos c25] at h
        refine nq_iload hX 4 rfl dX9_check_93 ?_
        refine nq_iload_n hX rfl 3 rfl dX9_check_95 ?_
        refine nq_icmp_eq hX (tgt := 115) (by decide) dX9_check_96 (fun c26 => ?_) (fun c26 => ?_)
        · rw [if_pos c26] at h
          refine nq_iconst hX (v := 1) (by decide) dX9_check_115 ?_
          refine nq_iload hX 4 rfl dX9_check_116 ?_
          refine nq_iadd hX dX9_check_118 ?_
          exact nq_iret hX (hret (((1 : Int32) + x4), M) (nq_sE h).symm) dX9_check_119
        · rw [if_neg c26] at h
          refine nq_aload_n hX rfl 0 rfl dX9_check_99 ?_
          refine nq_getr (v := .ref (nq_ad E 1)) hX inX9_check_9 (nq_Model_0 hL) rfl 0 (by decide) lkX9_check_7 _ rfl rfl dX9_check_100 ?_
          refine nq_sipush hX (v := 590) (by decide) dX9_check_103 ?_
          refine nq_iload hX 4 rfl dX9_check_106 ?_
          refine nq_iadd hX dX9_check_108 ?_
          obtain ⟨v27, e27, hi27, h⟩ := nq_agE h
          refine nq_iald hX (nq_Model_d hL) e27 hi27 dX9_check_109 ?_
          refine nq_iload hX 6 rfl dX9_check_110 ?_
          refine nq_icmp_eq hX (tgt := 120) (by decide) dX9_check_112 (fun c28 => ?_) (fun c28 => ?_)
          · rw [if_pos c28] at h
            obtain ⟨v29, e29, h⟩ := nq_ltE h
            refine nq_iinc hX (lv' := [(4, .int v29), (0, .ref (nq_ad E 0)), (1, .int x1), (2, .int x2), (3, .int x3), (5, .int x5), (6, .int x6)]) (j := 4) rfl (e29.trans rfl) (by decide) rfl dX9_check_120 ?_
            obtain ⟨v30, e30, h⟩ := nq_ltE h
            refine nq_iinc hX (lv' := [(6, .int v30), (4, .int v29), (0, .ref (nq_ad E 0)), (1, .int x1), (2, .int x2), (3, .int x3), (5, .int x5)]) (j := 6) rfl (e30.trans rfl) (by decide) rfl dX9_check_123 ?_
            refine nq_goto hX (tgt := 57) (by decide) dX9_check_126 ?_
            refine nq_sub (lv' := [(0, .ref (nq_ad E 0)), (1, .int x1), (2, .int x2), (3, .int x3), (4, .int v29), (5, .int x5), (6, .int v30)]) [2, 3, 4, 5, 1, 6, 0] rfl ?_
            exact hc (v29, v30) (nq_sE h).symm
          · rw [if_neg c28] at h
            refine nq_iconst hX (v := 1) (by decide) dX9_check_115 ?_
            refine nq_iload hX 4 rfl dX9_check_116 ?_
            refine nq_iadd hX dX9_check_118 ?_
            exact nq_iret hX (hret (((1 : Int32) + x4), M) (nq_sE h).symm) dX9_check_119
      · rw [if_neg c25] at h
        obtain ⟨v31, e31, h⟩ := nq_ltE h
        refine nq_iinc hX (lv' := [(6, .int v31), (0, .ref (nq_ad E 0)), (1, .int x1), (2, .int x2), (3, .int x3), (4, .int x4), (5, .int x5)]) (j := 6) rfl (e31.trans rfl) (by decide) rfl dX9_check_123 ?_
        refine nq_goto hX (tgt := 57) (by decide) dX9_check_126 ?_
        refine nq_sub (lv' := [(0, .ref (nq_ad E 0)), (1, .int x1), (2, .int x2), (3, .int x3), (4, .int x4), (5, .int x5), (6, .int v31)]) [1, 2, 3, 4, 5, 6, 0] rfl ?_
        exact hc (x4, v31) (nq_sE h).symm
def fX9_check_L129_43 (x1 : Int32) (x2 : Int32) (x3 : Int32) (x4 : Int32) (x5 : Int32) (M : Mem) : Option ((Int32 × Int32) ⊕ ((Int32) ⊕ (Int32 × Mem))) :=
  nq_lt (x5 + (1 : Int32)) fun v32 =>
  some (.inl (x4, v32))
set_option maxHeartbeats 4000000 in
theorem mX9_check_L129_43 {X : Cx} {E : Ev} {l : Launch} {K : List Sh} {x1 : Int32} {x2 : Int32} {x3 : Int32} {x4 : Int32} {x5 : Int32} {M : Mem} (hL : nq_atModel E K) (hX : nq_OK X E l (nq_rm 3) cX9_check 7 RX9 wsX9_check) {x : (Int32 × Int32) ⊕ ((Int32) ⊕ (Int32 × Mem))} (hc : ∀ s' : Int32 × Int32, x = .inl s' → nq_G X E 7 43 [(0, .ref (nq_ad E 0)), (1, .int x1), (2, .int x2), (3, .int x3), (4, .int s'.1), (5, .int s'.2)] [] K M) (he : ∀ s' : Int32, x = .inr (.inl s') → nq_G X E 7 135 [(3, .int x3), (4, .int s')] [] K M) (hret : ∀ r : Int32 × Mem, x = .inr (.inr r) → nq_RT X E (some .int) (some (.int r.1)) K r.2) (h : fX9_check_L129_43 x1 x2 x3 x4 x5 M = some x) : nq_G X E 7 129 [(0, .ref (nq_ad E 0)), (1, .int x1), (2, .int x2), (3, .int x3), (4, .int x4), (5, .int x5)] [] K M := by
  unfold fX9_check_L129_43 at h
  obtain ⟨v32, e32, h⟩ := nq_ltE h
  refine nq_iinc hX (lv' := [(5, .int v32), (0, .ref (nq_ad E 0)), (1, .int x1), (2, .int x2), (3, .int x3), (4, .int x4)]) (j := 5) rfl (e32.trans rfl) (by decide) rfl dX9_check_129 ?_
  refine nq_goto hX (tgt := 43) (by decide) dX9_check_132 ?_
  refine nq_sub (lv' := [(0, .ref (nq_ad E 0)), (1, .int x1), (2, .int x2), (3, .int x3), (4, .int x4), (5, .int v32)]) [1, 2, 3, 4, 5, 0] rfl ?_
  exact hc (x4, v32) (nq_sE h).symm
def fX9_check_L57_43 (x1 : Int32) (x2 : Int32) (x3 : Int32) (x4 : Int32) (x5 : Int32) (x6 : Int32) (M : Mem) : Option ((Int32 × Int32) ⊕ ((Int32) ⊕ (Int32 × Mem))) :=
  (nq_lp (fun s : Int32 × Int32 => fX9_check_B57_43 x1 x2 x3 s.1 x5 s.2 M) nq_fuel (x4, x6)).bind (Sum.elim (fun e => fX9_check_L129_43 x1 x2 x3 e x5 M) (fun r1 => some (.inr (.inr r1))))
set_option maxHeartbeats 4000000 in
theorem mX9_check_L57_43 {X : Cx} {E : Ev} {l : Launch} {K : List Sh} {x1 : Int32} {x2 : Int32} {x3 : Int32} {x4 : Int32} {x5 : Int32} {x6 : Int32} {M : Mem} (hL : nq_atModel E K) (hX : nq_OK X E l (nq_rm 3) cX9_check 7 RX9 wsX9_check) {x : (Int32 × Int32) ⊕ ((Int32) ⊕ (Int32 × Mem))} (hc : ∀ s' : Int32 × Int32, x = .inl s' → nq_G X E 7 43 [(0, .ref (nq_ad E 0)), (1, .int x1), (2, .int x2), (3, .int x3), (4, .int s'.1), (5, .int s'.2)] [] K M) (he : ∀ s' : Int32, x = .inr (.inl s') → nq_G X E 7 135 [(3, .int x3), (4, .int s')] [] K M) (hret : ∀ r : Int32 × Mem, x = .inr (.inr r) → nq_RT X E (some .int) (some (.int r.1)) K r.2) (h : fX9_check_L57_43 x1 x2 x3 x4 x5 x6 M = some x) : nq_G X E 7 57 [(0, .ref (nq_ad E 0)), (1, .int x1), (2, .int x2), (3, .int x3), (4, .int x4), (5, .int x5), (6, .int x6)] [] K M := by
  unfold fX9_check_L57_43 at h
  obtain ⟨e, h1, h⟩ := nq_bE h
  have key : ∀ (ex : (Int32) ⊕ (Int32 × Mem)), nq_lp (fun s : Int32 × Int32 => fX9_check_B57_43 x1 x2 x3 s.1 x5 s.2 M) nq_fuel (x4, x6) = some ex → (∀ e, ex = .inl e → nq_G X E 7 129 [(0, .ref (nq_ad E 0)), (1, .int x1), (2, .int x2), (3, .int x3), (4, .int e), (5, .int x5)] [] K M) → (∀ r, ex = .inr r → nq_RT X E (some .int) (some (.int r.1)) K r.2) → nq_G X E 7 57 [(0, .ref (nq_ad E 0)), (1, .int x1), (2, .int x2), (3, .int x3), (4, .int ((x4, x6).1)), (5, .int x5), (6, .int ((x4, x6).2))] [] K M := by
    intro ex h1 hE hR
    refine nq_lpE (P := fun s : Int32 × Int32 => nq_G X E 7 57 [(0, .ref (nq_ad E 0)), (1, .int x1), (2, .int x2), (3, .int x3), (4, .int s.1), (5, .int x5), (6, .int s.2)] [] K M) (r := ex) ?_ nq_fuel (x4, x6) h1
    intro s xx hx1 hc1 he1
    exact mX9_check_B57_43 hL hX hc1 (fun e q => hE e (he1 _ q).symm) (fun r q => hR r (he1 _ q).symm) hx1
  refine key e h1 (fun e q => ?_) (fun r1 q => ?_)
  · subst q
    have h : fX9_check_L129_43 x1 x2 x3 e x5 M = some x := h
    exact mX9_check_L129_43 hL hX hc he hret h
  · subst q
    have h : some (.inr (.inr r1)) = some x := h
    exact hret _ (nq_sE h).symm
def fX9_check_B43 (x1 : Int32) (x2 : Int32) (x3 : Int32) (x4 : Int32) (x5 : Int32) (M : Mem) : Option ((Int32 × Int32) ⊕ ((Int32) ⊕ (Int32 × Mem))) :=
  (nq_ag (M 1) 1250 (0 : Int32)).bind fun v15 =>
  if v15 < x5 then
  (some (.inr (.inl x4)))
  else
  (fX9_check_L57_43 x1 x2 x3 x4 x5 (0 : Int32) M)
set_option maxHeartbeats 4000000 in
theorem mX9_check_B43 {X : Cx} {E : Ev} {l : Launch} {K : List Sh} {x1 : Int32} {x2 : Int32} {x3 : Int32} {x4 : Int32} {x5 : Int32} {M : Mem} (hL : nq_atModel E K) (hX : nq_OK X E l (nq_rm 3) cX9_check 7 RX9 wsX9_check) {x : (Int32 × Int32) ⊕ ((Int32) ⊕ (Int32 × Mem))} (hc : ∀ s' : Int32 × Int32, x = .inl s' → nq_G X E 7 43 [(0, .ref (nq_ad E 0)), (1, .int x1), (2, .int x2), (3, .int x3), (4, .int s'.1), (5, .int s'.2)] [] K M) (he : ∀ s' : Int32, x = .inr (.inl s') → nq_G X E 7 135 [(3, .int x3), (4, .int s')] [] K M) (hret : ∀ r : Int32 × Mem, x = .inr (.inr r) → nq_RT X E (some .int) (some (.int r.1)) K r.2) (h : fX9_check_B43 x1 x2 x3 x4 x5 M = some x) : nq_G X E 7 43 [(0, .ref (nq_ad E 0)), (1, .int x1), (2, .int x2), (3, .int x3), (4, .int x4), (5, .int x5)] [] K M := by
  unfold fX9_check_B43 at h
  refine nq_iload hX 5 rfl dX9_check_43 ?_
  refine nq_aload_n hX rfl 0 rfl dX9_check_45 ?_
  refine nq_getr (v := .ref (nq_ad E 1)) hX inX9_check_9 (nq_Model_0 hL) rfl 0 (by decide) lkX9_check_7 _ rfl rfl dX9_check_46 ?_
  refine nq_iconst hX (v := 0) (by decide) dX9_check_49 ?_
  obtain ⟨v15, e15, hi15, h⟩ := nq_agE h
  refine nq_iald hX (nq_Model_d hL) e15 hi15 dX9_check_50 ?_
  refine nq_icmp_gt hX (tgt := 135) (by decide) dX9_check_51 (fun c16 => ?_) (fun c16 => ?_)
  · rw [if_pos c16] at h
    refine nq_sub (lv' := [(3, .int x3), (4, .int x4)]) [3, 4] rfl ?_
    exact he x4 (nq_sE h).symm
  · rw [if_neg c16] at h
    refine nq_iconst hX (v := 0) (by decide) dX9_check_54 ?_
    refine nq_istore hX (lv' := [(6, .int (0 : Int32)), (0, .ref (nq_ad E 0)), (1, .int x1), (2, .int x2), (3, .int x3), (4, .int x4), (5, .int x5)]) (by decide) rfl rfl dX9_check_55 ?_
    refine nq_sub (lv' := [(0, .ref (nq_ad E 0)), (1, .int x1), (2, .int x2), (3, .int x3), (4, .int x4), (5, .int x5), (6, .int (0 : Int32))]) [1, 2, 3, 4, 5, 6, 0] rfl ?_
    exact mX9_check_L57_43 hL hX hc he hret h
def fX9_check_L135 (x3 : Int32) (x4 : Int32) (M : Mem) : Option (Int32 × Mem) :=
  if x3 ≤ x4 then
  (some ((0 : Int32), M))
  else
  (some (((1 : Int32) + x4), M))
set_option maxHeartbeats 4000000 in
theorem mX9_check_L135 {X : Cx} {E : Ev} {l : Launch} {K : List Sh} {x3 : Int32} {x4 : Int32} {M : Mem} {r : Int32} {M' : Mem} (hL : nq_atModel E K) (hX : nq_OK X E l (nq_rm 3) cX9_check 7 RX9 wsX9_check) (hr : nq_RT X E (some .int) (some (.int r)) K M') (h : fX9_check_L135 x3 x4 M = some (r, M')) : nq_G X E 7 135 [(3, .int x3), (4, .int x4)] [] K M := by
  unfold fX9_check_L135 at h
  refine nq_iload hX 1 rfl dX9_check_135 ?_
  refine nq_iload_n hX rfl 0 rfl dX9_check_137 ?_
  refine nq_icmp_ge hX (tgt := 148) (by decide) dX9_check_138 (fun c33 => ?_) (fun c33 => ?_)
  · rw [if_pos c33] at h
    refine nq_iconst hX (v := 0) (by decide) dX9_check_148 ?_
    obtain ⟨rfl, rfl⟩ := nq_sE2 h; exact nq_iret hX hr dX9_check_149
  · rw [if_neg c33] at h
    refine nq_iconst hX (v := 1) (by decide) dX9_check_141 ?_
    refine nq_iload hX 1 rfl dX9_check_142 ?_
    refine nq_iadd hX dX9_check_144 ?_
    refine nq_goto hX (tgt := 149) (by decide) dX9_check_145 ?_
    obtain ⟨rfl, rfl⟩ := nq_sE2 h; exact nq_iret hX hr dX9_check_149
def fX9_check_L43 (x1 : Int32) (x2 : Int32) (x3 : Int32) (x4 : Int32) (x5 : Int32) (M : Mem) : Option (Int32 × Mem) :=
  (nq_lp (fun s : Int32 × Int32 => fX9_check_B43 x1 x2 x3 s.1 s.2 M) nq_fuel (x4, x5)).bind (Sum.elim (fun e => fX9_check_L135 x3 e M) (fun r1 => some r1))
set_option maxHeartbeats 4000000 in
theorem mX9_check_L43 {X : Cx} {E : Ev} {l : Launch} {K : List Sh} {x1 : Int32} {x2 : Int32} {x3 : Int32} {x4 : Int32} {x5 : Int32} {M : Mem} {r : Int32} {M' : Mem} (hL : nq_atModel E K) (hX : nq_OK X E l (nq_rm 3) cX9_check 7 RX9 wsX9_check) (hr : nq_RT X E (some .int) (some (.int r)) K M') (h : fX9_check_L43 x1 x2 x3 x4 x5 M = some (r, M')) : nq_G X E 7 43 [(0, .ref (nq_ad E 0)), (1, .int x1), (2, .int x2), (3, .int x3), (4, .int x4), (5, .int x5)] [] K M := by
  unfold fX9_check_L43 at h
  obtain ⟨e, h1, h⟩ := nq_bE h
  have key : ∀ (ex : (Int32) ⊕ (Int32 × Mem)), nq_lp (fun s : Int32 × Int32 => fX9_check_B43 x1 x2 x3 s.1 s.2 M) nq_fuel (x4, x5) = some ex → (∀ e, ex = .inl e → nq_G X E 7 135 [(3, .int x3), (4, .int e)] [] K M) → (∀ r, ex = .inr r → nq_RT X E (some .int) (some (.int r.1)) K r.2) → nq_G X E 7 43 [(0, .ref (nq_ad E 0)), (1, .int x1), (2, .int x2), (3, .int x3), (4, .int ((x4, x5).1)), (5, .int ((x4, x5).2))] [] K M := by
    intro ex h1 hE hR
    refine nq_lpE (P := fun s : Int32 × Int32 => nq_G X E 7 43 [(0, .ref (nq_ad E 0)), (1, .int x1), (2, .int x2), (3, .int x3), (4, .int s.1), (5, .int s.2)] [] K M) (r := ex) ?_ nq_fuel (x4, x5) h1
    intro s xx hx1 hc1 he1
    exact mX9_check_B43 hL hX hc1 (fun e q => hE e (he1 _ q).symm) (fun r q => hR r (he1 _ q).symm) hx1
  refine key e h1 (fun e q => ?_) (fun r1 q => ?_)
  · subst q
    have h : fX9_check_L135 x3 e M = some (r, M') := h
    exact mX9_check_L135 hL hX hr h
  · subst q
    have h : some r1 = some (r, M') := h
    obtain rfl := nq_sE1 h; exact hr
def fX9_check (x1 : Int32) (x2 : Int32) (M : Mem) : Option (Int32 × Mem) :=
  (nq_ag (M 1) 1250 (10 : Int32)).bind fun v1 =>
  (nq_as M 1 1250 (10 : Int32) (0 : Int32)).bind fun M2 =>
  (fX9_isPlace x1 M2).bind fun v4 =>
  if v4 = 0 then
  (nq_b2 (fX9_finds (1 : Int32) M2) fun v7 M8 =>
  some (v7, M8))
  else
  ((fX9_isPact x2 M2).bind fun v10 =>
  if v10 = 0 then
  (nq_b2 (fX9_finds (1 : Int32) M2) fun v13 M14 =>
  some (v13, M14))
  else
  (fX9_check_L43 x1 x2 v1 (0 : Int32) (0 : Int32) M2))
set_option maxHeartbeats 4000000 in
theorem mX9_check {X : Cx} {E : Ev} {l : Launch} {K : List Sh} {x1 : Int32} {x2 : Int32} {M : Mem} {r : Int32} {M' : Mem} (hL : nq_atModel E K) (hX : nq_OK X E l (nq_rm 3) cX9_check 7 RX9 wsX9_check) (hr : nq_RT X E (some .int) (some (.int r)) K M') (h : fX9_check x1 x2 M = some (r, M')) : nq_G X E 7 0 [(0, .ref (nq_ad E 0)), (1, .int x1), (2, .int x2)] [] K M := by
  unfold fX9_check at h
  refine nq_aload_n hX rfl 0 rfl dX9_check_0 ?_
  refine nq_getr (v := .ref (nq_ad E 1)) hX inX9_check_9 (nq_Model_0 hL) rfl 0 (by decide) lkX9_check_7 _ rfl rfl dX9_check_1 ?_
  refine nq_bipush hX (v := 10) (by decide) dX9_check_4 ?_
  obtain ⟨v1, e1, hi1, h⟩ := nq_agE h
  refine nq_iald hX (nq_Model_d hL) e1 hi1 dX9_check_6 ?_
  refine nq_istore_n hX (lv' := [(3, .int v1), (0, .ref (nq_ad E 0)), (1, .int x1), (2, .int x2)]) rfl (by decide) rfl rfl dX9_check_7 ?_
  refine nq_aload_n hX rfl 1 rfl dX9_check_8 ?_
  refine nq_getr (v := .ref (nq_ad E 1)) hX inX9_check_9 (nq_Model_0 hL) rfl 0 (by decide) lkX9_check_7 _ rfl rfl dX9_check_9 ?_
  refine nq_bipush hX (v := 10) (by decide) dX9_check_12 ?_
  refine nq_iconst hX (v := 0) (by decide) dX9_check_14 ?_
  obtain ⟨M2, e2, hi2, h⟩ := nq_asE h
  refine nq_iast hX (nq_Model_d hL) e2 hi2 dX9_check_15 ?_
  refine nq_aload_n hX rfl 1 rfl dX9_check_16 ?_
  refine nq_iload_n hX rfl 2 rfl dX9_check_17 ?_
  obtain ⟨v4, hc3, h⟩ := nq_bE h
  refine nq_callVi hX (tX9_isPlace hL hc3) gX9_check_X9_isPlace rfl rfl dsX9_isPlace (by decide) (nq_Model_0 hL) rfl rfl (Nat.le_of_ble_eq_true rfl) dX9_check_18 ?_
  refine nq_if_eq hX (tgt := 31) (by decide) dX9_check_21 (fun c5 => ?_) (fun c5 => ?_)
  · rw [if_pos c5] at h
    refine nq_aload_n hX rfl 1 rfl dX9_check_31 ?_
    refine nq_iconst hX (v := 1) (by decide) dX9_check_32 ?_
    obtain ⟨v7, M8, hc6, h⟩ := nq_b2E h
    refine nq_callVi hX (tX9_finds hL hc6) gX9_check_X9_finds rfl rfl dsX9_finds (by decide) (nq_Model_0 hL) rfl rfl (Nat.le_of_ble_eq_true rfl) dX9_check_33 ?_
    obtain ⟨rfl, rfl⟩ := nq_sE2 h; exact nq_iret hX hr dX9_check_36
  · rw [if_neg c5] at h
    refine nq_iload_n hX rfl 3 rfl dX9_check_24 ?_
    obtain ⟨v10, hc9, h⟩ := nq_bE h
    refine nq_callSi hX (tX9_isPact  hc9) gX9_check_X9_isPact rfl rfl dsX9_isPact (by decide) rfl (Nat.le_of_ble_eq_true rfl) dX9_check_25 ?_
    refine nq_if_ne hX (tgt := 37) (by decide) dX9_check_28 (fun c11 => ?_) (fun c11 => ?_)
    · rw [if_pos c11] at h
      refine nq_aload_n hX rfl 1 rfl dX9_check_31 ?_
      refine nq_iconst hX (v := 1) (by decide) dX9_check_32 ?_
      obtain ⟨v13, M14, hc12, h⟩ := nq_b2E h
      refine nq_callVi hX (tX9_finds hL hc12) gX9_check_X9_finds rfl rfl dsX9_finds (by decide) (nq_Model_0 hL) rfl rfl (Nat.le_of_ble_eq_true rfl) dX9_check_33 ?_
      obtain ⟨rfl, rfl⟩ := nq_sE2 h; exact nq_iret hX hr dX9_check_36
    · rw [if_neg c11] at h
      refine nq_iconst hX (v := 0) (by decide) dX9_check_37 ?_
      refine nq_istore hX (lv' := [(4, .int (0 : Int32)), (3, .int v1), (0, .ref (nq_ad E 0)), (1, .int x1), (2, .int x2)]) (by decide) rfl rfl dX9_check_38 ?_
      refine nq_iconst hX (v := 0) (by decide) dX9_check_40 ?_
      refine nq_istore hX (lv' := [(5, .int (0 : Int32)), (4, .int (0 : Int32)), (3, .int v1), (0, .ref (nq_ad E 0)), (1, .int x1), (2, .int x2)]) (by decide) rfl rfl dX9_check_41 ?_
      refine nq_sub (lv' := [(0, .ref (nq_ad E 0)), (1, .int x1), (2, .int x2), (3, .int v1), (4, .int (0 : Int32)), (5, .int (0 : Int32))]) [3, 4, 5, 2, 1, 0] rfl ?_
      exact mX9_check_L43 hL hX hr h
theorem dsX9_check : yX9_check.cls ≠ "java/lang/invoke/MethodHandle" ∧ yX9_check.cls ≠ "java/lang/invoke/VarHandle" ∧ (parseMethodDescriptor yX9_check.desc).map (fun d => d.parameters.length) = some 2 := by decide +kernel
theorem tX9_check {l : Launch} {E : Ev} {K : List Sh} {x1 : Int32} {x2 : Int32} {M : Mem} {r : Int32} {M' : Mem} (hL : nq_atModel E K) (h : fX9_check x1 x2 M = some (r, M')) : nq_MA l E yX9_check wsX9_check (nq_rm 3) [.ref (nq_ad E 0), .int x1, .int x2] K M (some (.int r)) K M' :=
  nq_met (own := RX9) (cc := cX9_check) (maxL := 7) (ret := (some .int)) (by decide) rfl rfl (Nat.le_of_ble_eq_true rfl) (fun X hX hr => mX9_check hL hX hr h)

theorem inX9_lostMany_9 : ∀ w ∈ u_ws RX9 TX9 23, w ∈ wsX9_lostMany := by
  intro w h; unfold wsX9_lostMany; simp only [List.mem_cons, List.mem_append]; simp only [h, true_or, or_true]
theorem lkX9_lostMany_7 : Cond.fieldLink RX9 7 (TX9 0).1 (TX9 0).2.1 (TX9 0).2.2.1 ∈ wsX9_lostMany := by decide +kernel
def fX9_lostMany_B4 (x1 : Int32) (x2 : Int32) (M : Mem) : Option ((Int32 × Int32) ⊕ (Int32)) :=
  (nq_ag (M 1) 1250 (2 : Int32)).bind fun v1 =>
  if v1 ≤ x2 then
  (some (.inr x1))
  else
  ((fX9_wo x2 (5 : Int32) M).bind fun v4 =>
  if 0 ≤ v4 then
  (nq_lt ((x1 + (0 : Int32))) fun v6 =>
  nq_lt (x2 + (1 : Int32)) fun v7 =>
  some (.inl (v6, v7)))
  else
  (nq_lt ((x1 + (1 : Int32))) fun v8 =>
  nq_lt (x2 + (1 : Int32)) fun v9 =>
  some (.inl (v8, v9))))
set_option maxHeartbeats 4000000 in
theorem mX9_lostMany_B4 {X : Cx} {E : Ev} {l : Launch} {K : List Sh} {x1 : Int32} {x2 : Int32} {M : Mem} (hL : nq_atModel E K) (hX : nq_OK X E l (nq_rm 2) cX9_lostMany 3 RX9 wsX9_lostMany) {x : (Int32 × Int32) ⊕ (Int32)} (hc : ∀ s' : Int32 × Int32, x = .inl s' → nq_G X E 3 4 [(0, .ref (nq_ad E 0)), (1, .int s'.1), (2, .int s'.2)] [] K M) (he : ∀ s' : Int32, x = .inr s' → nq_G X E 3 37 [(1, .int s')] [] K M) (h : fX9_lostMany_B4 x1 x2 M = some x) : nq_G X E 3 4 [(0, .ref (nq_ad E 0)), (1, .int x1), (2, .int x2)] [] K M := by
  unfold fX9_lostMany_B4 at h
  refine nq_iload_n hX rfl 2 rfl dX9_lostMany_4 ?_
  refine nq_aload_n hX rfl 0 rfl dX9_lostMany_5 ?_
  refine nq_getr (v := .ref (nq_ad E 1)) hX inX9_lostMany_9 (nq_Model_0 hL) rfl 0 (by decide) lkX9_lostMany_7 _ rfl rfl dX9_lostMany_6 ?_
  refine nq_iconst hX (v := 2) (by decide) dX9_lostMany_9 ?_
  obtain ⟨v1, e1, hi1, h⟩ := nq_agE h
  refine nq_iald hX (nq_Model_d hL) e1 hi1 dX9_lostMany_10 ?_
  refine nq_icmp_ge hX (tgt := 37) (by decide) dX9_lostMany_11 (fun c2 => ?_) (fun c2 => ?_)
  · rw [if_pos c2] at h
    refine nq_sub (lv' := [(1, .int x1)]) [1] rfl ?_
    exact he x1 (nq_sE h).symm
  · rw [if_neg c2] at h
    refine nq_iload_n hX rfl 1 rfl dX9_lostMany_14 ?_
    refine nq_aload_n hX rfl 0 rfl dX9_lostMany_15 ?_
    refine nq_iload_n hX rfl 2 rfl dX9_lostMany_16 ?_
    refine nq_iconst hX (v := 5) (by decide) dX9_lostMany_17 ?_
    obtain ⟨v4, hc3, h⟩ := nq_bE h
    refine nq_callVi hX (tX9_wo hL hc3) gX9_lostMany_X9_wo rfl rfl dsX9_wo (by decide) (nq_Model_0 hL) rfl rfl (Nat.le_of_ble_eq_true rfl) dX9_lostMany_18 ?_
    refine nq_if_ge hX (tgt := 28) (by decide) dX9_lostMany_21 (fun c5 => ?_) (fun c5 => ?_)
    · rw [if_pos c5] at h
      refine nq_iconst hX (v := 0) (by decide) dX9_lostMany_28 ?_
      refine nq_iadd hX dX9_lostMany_29 ?_
      obtain ⟨v6, e6, h⟩ := nq_ltE h
      refine nq_istore_n hX (lv' := [(1, .int v6), (0, .ref (nq_ad E 0)), (2, .int x2)]) rfl (by decide) e6 rfl dX9_lostMany_30 ?_
      obtain ⟨v7, e7, h⟩ := nq_ltE h
      refine nq_iinc hX (lv' := [(2, .int v7), (1, .int v6), (0, .ref (nq_ad E 0))]) (j := 2) rfl (e7.trans rfl) (by decide) rfl dX9_lostMany_31 ?_
      refine nq_goto hX (tgt := 4) (by decide) dX9_lostMany_34 ?_
      refine nq_sub (lv' := [(0, .ref (nq_ad E 0)), (1, .int v6), (2, .int v7)]) [2, 1, 0] rfl ?_
      exact hc (v6, v7) (nq_sE h).symm
    · rw [if_neg c5] at h
      refine nq_iconst hX (v := 1) (by decide) dX9_lostMany_24 ?_
      refine nq_goto hX (tgt := 29) (by decide) dX9_lostMany_25 ?_
      refine nq_iadd hX dX9_lostMany_29 ?_
      obtain ⟨v8, e8, h⟩ := nq_ltE h
      refine nq_istore_n hX (lv' := [(1, .int v8), (0, .ref (nq_ad E 0)), (2, .int x2)]) rfl (by decide) e8 rfl dX9_lostMany_30 ?_
      obtain ⟨v9, e9, h⟩ := nq_ltE h
      refine nq_iinc hX (lv' := [(2, .int v9), (1, .int v8), (0, .ref (nq_ad E 0))]) (j := 2) rfl (e9.trans rfl) (by decide) rfl dX9_lostMany_31 ?_
      refine nq_goto hX (tgt := 4) (by decide) dX9_lostMany_34 ?_
      refine nq_sub (lv' := [(0, .ref (nq_ad E 0)), (1, .int v8), (2, .int v9)]) [2, 1, 0] rfl ?_
      exact hc (v8, v9) (nq_sE h).symm
def fX9_lostMany_L37 (x1 : Int32) (M : Mem) : Option (Int32) :=
  some x1
set_option maxHeartbeats 4000000 in
theorem mX9_lostMany_L37 {X : Cx} {E : Ev} {l : Launch} {K : List Sh} {x1 : Int32} {M : Mem} {r : Int32} (hL : nq_atModel E K) (hX : nq_OK X E l (nq_rm 2) cX9_lostMany 3 RX9 wsX9_lostMany) (hr : nq_RT X E (some .int) (some (.int r)) K M) (h : fX9_lostMany_L37 x1 M = some r) : nq_G X E 3 37 [(1, .int x1)] [] K M := by
  unfold fX9_lostMany_L37 at h
  refine nq_iload_n hX rfl 0 rfl dX9_lostMany_37 ?_
  obtain rfl := nq_sE1 h; exact nq_iret hX hr dX9_lostMany_38
def fX9_lostMany_L4 (x1 : Int32) (x2 : Int32) (M : Mem) : Option (Int32) :=
  (nq_lp (fun s : Int32 × Int32 => fX9_lostMany_B4 s.1 s.2 M) nq_fuel (x1, x2)).bind (fun e => fX9_lostMany_L37 e M)
set_option maxHeartbeats 4000000 in
theorem mX9_lostMany_L4 {X : Cx} {E : Ev} {l : Launch} {K : List Sh} {x1 : Int32} {x2 : Int32} {M : Mem} {r : Int32} (hL : nq_atModel E K) (hX : nq_OK X E l (nq_rm 2) cX9_lostMany 3 RX9 wsX9_lostMany) (hr : nq_RT X E (some .int) (some (.int r)) K M) (h : fX9_lostMany_L4 x1 x2 M = some r) : nq_G X E 3 4 [(0, .ref (nq_ad E 0)), (1, .int x1), (2, .int x2)] [] K M := by
  unfold fX9_lostMany_L4 at h
  obtain ⟨e, h1, h⟩ := nq_bE h
  have key : ∀ (ex : Int32), nq_lp (fun s : Int32 × Int32 => fX9_lostMany_B4 s.1 s.2 M) nq_fuel (x1, x2) = some ex → (∀ e, ex = e → nq_G X E 3 37 [(1, .int e)] [] K M) → nq_G X E 3 4 [(0, .ref (nq_ad E 0)), (1, .int ((x1, x2).1)), (2, .int ((x1, x2).2))] [] K M := by
    intro ex h1 hE
    refine nq_lpE (P := fun s : Int32 × Int32 => nq_G X E 3 4 [(0, .ref (nq_ad E 0)), (1, .int s.1), (2, .int s.2)] [] K M) (r := ex) ?_ nq_fuel (x1, x2) h1
    intro s xx hx1 hc1 he1
    exact mX9_lostMany_B4 hL hX hc1 (fun e q => hE e (he1 _ q).symm) hx1
  refine key e h1 (fun e q => ?_)
  subst q
  exact mX9_lostMany_L37 hL hX hr h
def fX9_lostMany (M : Mem) : Option (Int32) :=
  fX9_lostMany_L4 (0 : Int32) (0 : Int32) M
set_option maxHeartbeats 4000000 in
theorem mX9_lostMany {X : Cx} {E : Ev} {l : Launch} {K : List Sh} {M : Mem} {r : Int32} (hL : nq_atModel E K) (hX : nq_OK X E l (nq_rm 2) cX9_lostMany 3 RX9 wsX9_lostMany) (hr : nq_RT X E (some .int) (some (.int r)) K M) (h : fX9_lostMany M = some r) : nq_G X E 3 0 [(0, .ref (nq_ad E 0))] [] K M := by
  unfold fX9_lostMany at h
  refine nq_iconst hX (v := 0) (by decide) dX9_lostMany_0 ?_
  refine nq_istore_n hX (lv' := [(1, .int (0 : Int32)), (0, .ref (nq_ad E 0))]) rfl (by decide) rfl rfl dX9_lostMany_1 ?_
  refine nq_iconst hX (v := 0) (by decide) dX9_lostMany_2 ?_
  refine nq_istore_n hX (lv' := [(2, .int (0 : Int32)), (1, .int (0 : Int32)), (0, .ref (nq_ad E 0))]) rfl (by decide) rfl rfl dX9_lostMany_3 ?_
  refine nq_sub (lv' := [(0, .ref (nq_ad E 0)), (1, .int (0 : Int32)), (2, .int (0 : Int32))]) [2, 1, 0] rfl ?_
  exact mX9_lostMany_L4 hL hX hr h
theorem dsX9_lostMany : yX9_lostMany.cls ≠ "java/lang/invoke/MethodHandle" ∧ yX9_lostMany.cls ≠ "java/lang/invoke/VarHandle" ∧ (parseMethodDescriptor yX9_lostMany.desc).map (fun d => d.parameters.length) = some 0 := by decide +kernel
theorem tX9_lostMany {l : Launch} {E : Ev} {K : List Sh} {M : Mem} {r : Int32} (hL : nq_atModel E K) (h : fX9_lostMany M = some r) : nq_MA l E yX9_lostMany wsX9_lostMany (nq_rm 2) [.ref (nq_ad E 0)] K M (some (.int r)) K M :=
  nq_met (own := RX9) (cc := cX9_lostMany) (maxL := 3) (ret := (some .int)) (by decide) rfl rfl (Nat.le_of_ble_eq_true rfl) (fun X hX hr => mX9_lostMany hL hX hr h)

theorem inX9_count_9 : ∀ w ∈ u_ws RX9 TX9 23, w ∈ wsX9_count := by
  intro w h; unfold wsX9_count; simp only [List.mem_cons, List.mem_append]; simp only [h, true_or, or_true]
theorem lkX9_count_7 : Cond.fieldLink RX9 7 (TX9 0).1 (TX9 0).2.1 (TX9 0).2.2.1 ∈ wsX9_count := by decide +kernel
theorem lkX9_count_297 : Cond.fieldLink RX9 297 (TX9 17).1 (TX9 17).2.1 (TX9 17).2.2.1 ∈ wsX9_count := by decide +kernel
def fX9_count (x1 : Int32) (M : Mem) : Option (Int32 × Mem) :=
  if x1 = 0 then
  ((nq_ag (M 1) 1250 (0 : Int32)).bind fun v2 =>
  some (v2, M))
  else if x1 = 1 then
  ((nq_ag (M 1) 1250 (1 : Int32)).bind fun v3 =>
  some (v3, M))
  else if x1 = 2 then
  ((nq_ag (M 1) 1250 (2 : Int32)).bind fun v4 =>
  some (v4, M))
  else if x1 = 3 then
  ((fX9_lostMany  M).bind fun v6 =>
  some (v6, M))
  else if x1 = 4 then
  ((nq_ag (M 1) 1250 (3 : Int32)).bind fun v7 =>
  some (v7, M))
  else if x1 = 5 then
  ((nq_ag (M 1) 1250 (9 : Int32)).bind fun v8 =>
  some (v8, M))
  else if x1 = 6 then
  ((nq_ag (M 1) 1250 (10 : Int32)).bind fun v9 =>
  some (v9, M))
  else if x1 = 7 then
  (nq_lt (M 0 17) fun v10 =>
  some (v10, M))
  else if x1 = 8 then
  ((nq_ag (M 1) 1250 (4 : Int32)).bind fun v11 =>
  some (v11, M))
  else (nq_b2 (fX9_finds (1 : Int32) M) fun v13 M14 =>
  some (v13, M14))
set_option maxHeartbeats 4000000 in
theorem mX9_count {X : Cx} {E : Ev} {l : Launch} {K : List Sh} {x1 : Int32} {M : Mem} {r : Int32} {M' : Mem} (hL : nq_atModel E K) (hX : nq_OK X E l (nq_rm 3) cX9_count 2 RX9 wsX9_count) (hr : nq_RT X E (some .int) (some (.int r)) K M') (h : fX9_count x1 M = some (r, M')) : nq_G X E 2 0 [(0, .ref (nq_ad E 0)), (1, .int x1)] [] K M := by
  unfold fX9_count at h
  refine nq_iload_n hX rfl 1 rfl dX9_count_0 ?_
  by_cases c1_0 : x1 = 0
  · rw [if_pos c1_0] at h; refine nq_tabI hX (tgt := 52) (off := 51) dX9_count_1 (by rw [c1_0]; decide) (by rw [c1_0]; decide) (by rw [c1_0]; rfl) (by decide) ?_
    refine nq_aload_n hX rfl 0 rfl dX9_count_52 ?_
    refine nq_getr (v := .ref (nq_ad E 1)) hX inX9_count_9 (nq_Model_0 hL) rfl 0 (by decide) lkX9_count_7 _ rfl rfl dX9_count_53 ?_
    refine nq_iconst hX (v := 0) (by decide) dX9_count_56 ?_
    obtain ⟨v2, e2, hi2, h⟩ := nq_agE h
    refine nq_iald hX (nq_Model_d hL) e2 hi2 dX9_count_57 ?_
    obtain ⟨rfl, rfl⟩ := nq_sE2 h; exact nq_iret hX hr dX9_count_58
  rw [if_neg c1_0] at h
  by_cases c1_1 : x1 = 1
  · rw [if_pos c1_1] at h; refine nq_tabI hX (tgt := 59) (off := 58) dX9_count_1 (by rw [c1_1]; decide) (by rw [c1_1]; decide) (by rw [c1_1]; rfl) (by decide) ?_
    refine nq_aload_n hX rfl 0 rfl dX9_count_59 ?_
    refine nq_getr (v := .ref (nq_ad E 1)) hX inX9_count_9 (nq_Model_0 hL) rfl 0 (by decide) lkX9_count_7 _ rfl rfl dX9_count_60 ?_
    refine nq_iconst hX (v := 1) (by decide) dX9_count_63 ?_
    obtain ⟨v3, e3, hi3, h⟩ := nq_agE h
    refine nq_iald hX (nq_Model_d hL) e3 hi3 dX9_count_64 ?_
    obtain ⟨rfl, rfl⟩ := nq_sE2 h; exact nq_iret hX hr dX9_count_65
  rw [if_neg c1_1] at h
  by_cases c1_2 : x1 = 2
  · rw [if_pos c1_2] at h; refine nq_tabI hX (tgt := 66) (off := 65) dX9_count_1 (by rw [c1_2]; decide) (by rw [c1_2]; decide) (by rw [c1_2]; rfl) (by decide) ?_
    refine nq_aload_n hX rfl 0 rfl dX9_count_66 ?_
    refine nq_getr (v := .ref (nq_ad E 1)) hX inX9_count_9 (nq_Model_0 hL) rfl 0 (by decide) lkX9_count_7 _ rfl rfl dX9_count_67 ?_
    refine nq_iconst hX (v := 2) (by decide) dX9_count_70 ?_
    obtain ⟨v4, e4, hi4, h⟩ := nq_agE h
    refine nq_iald hX (nq_Model_d hL) e4 hi4 dX9_count_71 ?_
    obtain ⟨rfl, rfl⟩ := nq_sE2 h; exact nq_iret hX hr dX9_count_72
  rw [if_neg c1_2] at h
  by_cases c1_3 : x1 = 3
  · rw [if_pos c1_3] at h; refine nq_tabI hX (tgt := 73) (off := 72) dX9_count_1 (by rw [c1_3]; decide) (by rw [c1_3]; decide) (by rw [c1_3]; rfl) (by decide) ?_
    refine nq_aload_n hX rfl 0 rfl dX9_count_73 ?_
    obtain ⟨v6, hc5, h⟩ := nq_bE h
    refine nq_callVi hX (tX9_lostMany hL hc5) gX9_count_X9_lostMany rfl rfl dsX9_lostMany (by decide) (nq_Model_0 hL) rfl rfl (Nat.le_of_ble_eq_true rfl) dX9_count_74 ?_
    obtain ⟨rfl, rfl⟩ := nq_sE2 h; exact nq_iret hX hr dX9_count_77
  rw [if_neg c1_3] at h
  by_cases c1_4 : x1 = 4
  · rw [if_pos c1_4] at h; refine nq_tabI hX (tgt := 78) (off := 77) dX9_count_1 (by rw [c1_4]; decide) (by rw [c1_4]; decide) (by rw [c1_4]; rfl) (by decide) ?_
    refine nq_aload_n hX rfl 0 rfl dX9_count_78 ?_
    refine nq_getr (v := .ref (nq_ad E 1)) hX inX9_count_9 (nq_Model_0 hL) rfl 0 (by decide) lkX9_count_7 _ rfl rfl dX9_count_79 ?_
    refine nq_iconst hX (v := 3) (by decide) dX9_count_82 ?_
    obtain ⟨v7, e7, hi7, h⟩ := nq_agE h
    refine nq_iald hX (nq_Model_d hL) e7 hi7 dX9_count_83 ?_
    obtain ⟨rfl, rfl⟩ := nq_sE2 h; exact nq_iret hX hr dX9_count_84
  rw [if_neg c1_4] at h
  by_cases c1_5 : x1 = 5
  · rw [if_pos c1_5] at h; refine nq_tabI hX (tgt := 85) (off := 84) dX9_count_1 (by rw [c1_5]; decide) (by rw [c1_5]; decide) (by rw [c1_5]; rfl) (by decide) ?_
    refine nq_aload_n hX rfl 0 rfl dX9_count_85 ?_
    refine nq_getr (v := .ref (nq_ad E 1)) hX inX9_count_9 (nq_Model_0 hL) rfl 0 (by decide) lkX9_count_7 _ rfl rfl dX9_count_86 ?_
    refine nq_bipush hX (v := 9) (by decide) dX9_count_89 ?_
    obtain ⟨v8, e8, hi8, h⟩ := nq_agE h
    refine nq_iald hX (nq_Model_d hL) e8 hi8 dX9_count_91 ?_
    obtain ⟨rfl, rfl⟩ := nq_sE2 h; exact nq_iret hX hr dX9_count_92
  rw [if_neg c1_5] at h
  by_cases c1_6 : x1 = 6
  · rw [if_pos c1_6] at h; refine nq_tabI hX (tgt := 93) (off := 92) dX9_count_1 (by rw [c1_6]; decide) (by rw [c1_6]; decide) (by rw [c1_6]; rfl) (by decide) ?_
    refine nq_aload_n hX rfl 0 rfl dX9_count_93 ?_
    refine nq_getr (v := .ref (nq_ad E 1)) hX inX9_count_9 (nq_Model_0 hL) rfl 0 (by decide) lkX9_count_7 _ rfl rfl dX9_count_94 ?_
    refine nq_bipush hX (v := 10) (by decide) dX9_count_97 ?_
    obtain ⟨v9, e9, hi9, h⟩ := nq_agE h
    refine nq_iald hX (nq_Model_d hL) e9 hi9 dX9_count_99 ?_
    obtain ⟨rfl, rfl⟩ := nq_sE2 h; exact nq_iret hX hr dX9_count_100
  rw [if_neg c1_6] at h
  by_cases c1_7 : x1 = 7
  · rw [if_pos c1_7] at h; refine nq_tabI hX (tgt := 101) (off := 100) dX9_count_1 (by rw [c1_7]; decide) (by rw [c1_7]; decide) (by rw [c1_7]; rfl) (by decide) ?_
    refine nq_aload_n hX rfl 0 rfl dX9_count_101 ?_
    obtain ⟨v10, e10, h⟩ := nq_ltE h
    refine nq_geti hX inX9_count_9 (nq_Model_0 hL) rfl 17 (by decide) lkX9_count_297 rfl e10 dX9_count_102 ?_
    obtain ⟨rfl, rfl⟩ := nq_sE2 h; exact nq_iret hX hr dX9_count_105
  rw [if_neg c1_7] at h
  by_cases c1_8 : x1 = 8
  · rw [if_pos c1_8] at h; refine nq_tabI hX (tgt := 106) (off := 105) dX9_count_1 (by rw [c1_8]; decide) (by rw [c1_8]; decide) (by rw [c1_8]; rfl) (by decide) ?_
    refine nq_aload_n hX rfl 0 rfl dX9_count_106 ?_
    refine nq_getr (v := .ref (nq_ad E 1)) hX inX9_count_9 (nq_Model_0 hL) rfl 0 (by decide) lkX9_count_7 _ rfl rfl dX9_count_107 ?_
    refine nq_iconst hX (v := 4) (by decide) dX9_count_110 ?_
    obtain ⟨v11, e11, hi11, h⟩ := nq_agE h
    refine nq_iald hX (nq_Model_d hL) e11 hi11 dX9_count_111 ?_
    obtain ⟨rfl, rfl⟩ := nq_sE2 h; exact nq_iret hX hr dX9_count_112
  rw [if_neg c1_8] at h
  refine nq_tabO hX (tgt := 113) dX9_count_1 (by have := nq_tne (k := 0) (n := 0) (by decide) c1_0; have := nq_tne (k := 1) (n := 1) (by decide) c1_1; have := nq_tne (k := 2) (n := 2) (by decide) c1_2; have := nq_tne (k := 3) (n := 3) (by decide) c1_3; have := nq_tne (k := 4) (n := 4) (by decide) c1_4; have := nq_tne (k := 5) (n := 5) (by decide) c1_5; have := nq_tne (k := 6) (n := 6) (by decide) c1_6; have := nq_tne (k := 7) (n := 7) (by decide) c1_7; have := nq_tne (k := 8) (n := 8) (by decide) c1_8; omega) (by decide) ?_
  refine nq_aload_n hX rfl 0 rfl dX9_count_113 ?_
  refine nq_iconst hX (v := 1) (by decide) dX9_count_114 ?_
  obtain ⟨v13, M14, hc12, h⟩ := nq_b2E h
  refine nq_callVi hX (tX9_finds hL hc12) gX9_count_X9_finds rfl rfl dsX9_finds (by decide) (nq_Model_0 hL) rfl rfl (Nat.le_of_ble_eq_true rfl) dX9_count_115 ?_
  obtain ⟨rfl, rfl⟩ := nq_sE2 h; exact nq_iret hX hr dX9_count_118
theorem dsX9_count : yX9_count.cls ≠ "java/lang/invoke/MethodHandle" ∧ yX9_count.cls ≠ "java/lang/invoke/VarHandle" ∧ (parseMethodDescriptor yX9_count.desc).map (fun d => d.parameters.length) = some 1 := by decide +kernel
theorem tX9_count {l : Launch} {E : Ev} {K : List Sh} {x1 : Int32} {M : Mem} {r : Int32} {M' : Mem} (hL : nq_atModel E K) (h : fX9_count x1 M = some (r, M')) : nq_MA l E yX9_count wsX9_count (nq_rm 3) [.ref (nq_ad E 0), .int x1] K M (some (.int r)) K M' :=
  nq_met (own := RX9) (cc := cX9_count) (maxL := 2) (ret := (some .int)) (by decide) rfl rfl (Nat.le_of_ble_eq_true rfl) (fun X hX hr => mX9_count hL hX hr h)

theorem mmX9_told_c330 : Cond.constantLong RX9 330 (5) ∈ wsX9_told := by decide +kernel
theorem inX9_told_9 : ∀ w ∈ u_ws RX9 TX9 23, w ∈ wsX9_told := by
  intro w h; unfold wsX9_told; simp only [List.mem_cons, List.mem_append]; simp only [h, true_or, or_true]
theorem lkX9_told_16 : Cond.fieldLink RX9 16 (TX9 3).1 (TX9 3).2.1 (TX9 3).2.2.1 ∈ wsX9_told := by decide +kernel
def fX9_told (x1 : Int32) (M : Mem) : Option (Int32 × Mem) :=
  (fX9_in x1.toInt64 (1 : Int64) (5 : Int64) M).bind fun v2 =>
  if v2 = 0 then
  (nq_b2 (fX9_finds (1 : Int32) M) fun v5 M6 =>
  some (v5, M6))
  else
  ((nq_ag (M 3) 6 x1).bind fun v7 =>
  some (v7, M))
set_option maxHeartbeats 4000000 in
theorem mX9_told {X : Cx} {E : Ev} {l : Launch} {K : List Sh} {x1 : Int32} {M : Mem} {r : Int32} {M' : Mem} (hL : nq_atModel E K) (hX : nq_OK X E l (nq_rm 2) cX9_told 2 RX9 wsX9_told) (hr : nq_RT X E (some .int) (some (.int r)) K M') (h : fX9_told x1 M = some (r, M')) : nq_G X E 2 0 [(0, .ref (nq_ad E 0)), (1, .int x1)] [] K M := by
  unfold fX9_told at h
  refine nq_iload_n hX rfl 1 rfl dX9_told_0 ?_
  refine nq_i2l hX dX9_told_1 ?_
  refine nq_lconst hX (v := 1) (by decide) dX9_told_2 ?_
  refine nq_ldc2 hX (v := 5) mmX9_told_c330 dX9_told_3 ?_
  obtain ⟨v2, hc1, h⟩ := nq_bE h
  refine nq_callSi hX (tX9_in  hc1) gX9_told_X9_in rfl rfl dsX9_in (by decide) rfl (Nat.le_of_ble_eq_true rfl) dX9_told_6 ?_
  refine nq_if_eq hX (tgt := 21) (by decide) dX9_told_9 (fun c3 => ?_) (fun c3 => ?_)
  · rw [if_pos c3] at h
    refine nq_aload_n hX rfl 0 rfl dX9_told_21 ?_
    refine nq_iconst hX (v := 1) (by decide) dX9_told_22 ?_
    obtain ⟨v5, M6, hc4, h⟩ := nq_b2E h
    refine nq_callVi hX (tX9_finds hL hc4) gX9_told_X9_finds rfl rfl dsX9_finds (by decide) (nq_Model_0 hL) rfl rfl (Nat.le_of_ble_eq_true rfl) dX9_told_23 ?_
    obtain ⟨rfl, rfl⟩ := nq_sE2 h; exact nq_iret hX hr dX9_told_26
  · rw [if_neg c3] at h
    refine nq_aload_n hX rfl 0 rfl dX9_told_12 ?_
    refine nq_getr (v := .ref (nq_ad E 3)) hX inX9_told_9 (nq_Model_0 hL) rfl 3 (by decide) lkX9_told_16 _ rfl rfl dX9_told_13 ?_
    refine nq_iload_n hX rfl 1 rfl dX9_told_16 ?_
    obtain ⟨v7, e7, hi7, h⟩ := nq_agE h
    refine nq_iald hX (nq_Model_found hL) e7 hi7 dX9_told_17 ?_
    refine nq_goto hX (tgt := 26) (by decide) dX9_told_18 ?_
    obtain ⟨rfl, rfl⟩ := nq_sE2 h; exact nq_iret hX hr dX9_told_26
theorem dsX9_told : yX9_told.cls ≠ "java/lang/invoke/MethodHandle" ∧ yX9_told.cls ≠ "java/lang/invoke/VarHandle" ∧ (parseMethodDescriptor yX9_told.desc).map (fun d => d.parameters.length) = some 1 := by decide +kernel
theorem tX9_told {l : Launch} {E : Ev} {K : List Sh} {x1 : Int32} {M : Mem} {r : Int32} {M' : Mem} (hL : nq_atModel E K) (h : fX9_told x1 M = some (r, M')) : nq_MA l E yX9_told wsX9_told (nq_rm 2) [.ref (nq_ad E 0), .int x1] K M (some (.int r)) K M' :=
  nq_met (own := RX9) (cc := cX9_told) (maxL := 2) (ret := (some .int)) (by decide) rfl rfl (Nat.le_of_ble_eq_true rfl) (fun X hX hr => mX9_told hL hX hr h)

