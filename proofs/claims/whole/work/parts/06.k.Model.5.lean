/-! printed by dec.py: Model 5 -/
theorem mmX9_feed_c234 : Cond.constantLong RX9 234 (8) ∈ wsX9_feed := by decide +kernel
theorem inX9_feed_9 : ∀ w ∈ u_ws RX9 TX9 23, w ∈ wsX9_feed := by
  intro w h; unfold wsX9_feed; simp only [List.mem_cons, List.mem_append]; simp only [h, true_or, or_true]
theorem lkX9_feed_7 : Cond.fieldLink RX9 7 (TX9 0).1 (TX9 0).2.1 (TX9 0).2.2.1 ∈ wsX9_feed := by decide +kernel
theorem mmX9_feed_c236 : Cond.constantLong RX9 236 (255) ∈ wsX9_feed := by decide +kernel
def fX9_feed_B41 (x1 : Int64) (x3 : Int32) (x4 : Int32) (M : Mem) : Option ((Int32 × Mem) ⊕ (Mem)) :=
  if x3 ≤ x4 then
  (some (.inr M))
  else
  ((nq_ag (M 1) 1250 (9 : Int32)).bind fun v10 =>
  (nq_as M 1 1250 ((540 : Int32) + v10) (((x1 >>> (((8 : Int32) * x4).toInt64 &&& 63)) &&& (255 : Int64)).toInt32)).bind fun M11 =>
  (nq_ag (M11 1) 1250 (9 : Int32)).bind fun v12 =>
  (nq_as M11 1 1250 (9 : Int32) (v12 + (1 : Int32))).bind fun M13 =>
  nq_lt (x4 + (1 : Int32)) fun v14 =>
  some (.inl (v14, M13)))
set_option maxHeartbeats 4000000 in
theorem mX9_feed_B41 {X : Cx} {E : Ev} {l : Launch} {K : List Sh} {x1 : Int64} {x3 : Int32} {x4 : Int32} {M : Mem} (hL : nq_atModel E K) (hX : nq_OK X E l (nq_rm 2) cX9_feed 5 RX9 wsX9_feed) {x : (Int32 × Mem) ⊕ (Mem)} (hc : ∀ s' : Int32 × Mem, x = .inl s' → nq_G X E 5 41 [(0, .ref (nq_ad E 0)), (1, .long x1), (3, .int x3), (4, .int s'.1)] [] K s'.2) (he : ∀ s' : Mem, x = .inr s' → nq_G X E 5 92 [(0, .ref (nq_ad E 0))] [] K s') (h : fX9_feed_B41 x1 x3 x4 M = some x) : nq_G X E 5 41 [(0, .ref (nq_ad E 0)), (1, .long x1), (3, .int x3), (4, .int x4)] [] K M := by
  unfold fX9_feed_B41 at h
  refine nq_iload hX 3 rfl dX9_feed_41 ?_
  refine nq_iload_n hX rfl 2 rfl dX9_feed_43 ?_
  refine nq_icmp_ge hX (tgt := 92) (by decide) dX9_feed_44 (fun c9 => ?_) (fun c9 => ?_)
  · rw [if_pos c9] at h
    refine nq_sub (lv' := [(0, .ref (nq_ad E 0))]) [0] rfl ?_
    exact he M (nq_sE h).symm
  · rw [if_neg c9] at h
    refine nq_aload_n hX rfl 0 rfl dX9_feed_47 ?_
    refine nq_getr (v := .ref (nq_ad E 1)) hX inX9_feed_9 (nq_Model_0 hL) rfl 0 (by decide) lkX9_feed_7 _ rfl rfl dX9_feed_48 ?_
    refine nq_sipush hX (v := 540) (by decide) dX9_feed_51 ?_
    refine nq_aload_n hX rfl 0 rfl dX9_feed_54 ?_
    refine nq_getr (v := .ref (nq_ad E 1)) hX inX9_feed_9 (nq_Model_0 hL) rfl 0 (by decide) lkX9_feed_7 _ rfl rfl dX9_feed_55 ?_
    refine nq_bipush hX (v := 9) (by decide) dX9_feed_58 ?_
    obtain ⟨v10, e10, hi10, h⟩ := nq_agE h
    refine nq_iald hX (nq_Model_d hL) e10 hi10 dX9_feed_60 ?_
    refine nq_iadd hX dX9_feed_61 ?_
    refine nq_lload_n hX rfl 1 rfl dX9_feed_62 ?_
    refine nq_bipush hX (v := 8) (by decide) dX9_feed_63 ?_
    refine nq_iload hX 3 rfl dX9_feed_65 ?_
    refine nq_imul hX dX9_feed_67 ?_
    refine nq_lshr hX dX9_feed_68 ?_
    refine nq_ldc2 hX (v := 255) mmX9_feed_c236 dX9_feed_69 ?_
    refine nq_land hX dX9_feed_72 ?_
    refine nq_l2i hX dX9_feed_73 ?_
    obtain ⟨M11, e11, hi11, h⟩ := nq_asE h
    refine nq_iast hX (nq_Model_d hL) e11 hi11 dX9_feed_74 ?_
    refine nq_aload_n hX rfl 0 rfl dX9_feed_75 ?_
    refine nq_getr (v := .ref (nq_ad E 1)) hX inX9_feed_9 (nq_Model_0 hL) rfl 0 (by decide) lkX9_feed_7 _ rfl rfl dX9_feed_76 ?_
    refine nq_bipush hX (v := 9) (by decide) dX9_feed_79 ?_
    refine nq_dup2 hX rfl rfl dX9_feed_81 ?_
    obtain ⟨v12, e12, hi12, h⟩ := nq_agE h
    refine nq_iald hX (nq_Model_d hL) e12 hi12 dX9_feed_82 ?_
    refine nq_iconst hX (v := 1) (by decide) dX9_feed_83 ?_
    refine nq_iadd hX dX9_feed_84 ?_
    obtain ⟨M13, e13, hi13, h⟩ := nq_asE h
    refine nq_iast hX (nq_Model_d hL) e13 hi13 dX9_feed_85 ?_
    obtain ⟨v14, e14, h⟩ := nq_ltE h
    refine nq_iinc hX (lv' := [(4, .int v14), (0, .ref (nq_ad E 0)), (1, .long x1), (3, .int x3)]) (j := 3) rfl (e14.trans rfl) (by decide) rfl dX9_feed_86 ?_
    refine nq_goto hX (tgt := 41) (by decide) dX9_feed_89 ?_
    refine nq_sub (lv' := [(0, .ref (nq_ad E 0)), (1, .long x1), (3, .int x3), (4, .int v14)]) [1, 2, 3, 0] rfl ?_
    exact hc (v14, M13) (nq_sE h).symm
def fX9_feed_L92 (M : Mem) : Option (Int32 × Mem) :=
  (nq_ag (M 1) 1250 (9 : Int32)).bind fun v15 =>
  some (v15, M)
set_option maxHeartbeats 4000000 in
theorem mX9_feed_L92 {X : Cx} {E : Ev} {l : Launch} {K : List Sh} {M : Mem} {r : Int32} {M' : Mem} (hL : nq_atModel E K) (hX : nq_OK X E l (nq_rm 2) cX9_feed 5 RX9 wsX9_feed) (hr : nq_RT X E (some .int) (some (.int r)) K M') (h : fX9_feed_L92 M = some (r, M')) : nq_G X E 5 92 [(0, .ref (nq_ad E 0))] [] K M := by
  unfold fX9_feed_L92 at h
  refine nq_aload_n hX rfl 0 rfl dX9_feed_92 ?_
  refine nq_getr (v := .ref (nq_ad E 1)) hX inX9_feed_9 (nq_Model_0 hL) rfl 0 (by decide) lkX9_feed_7 _ rfl rfl dX9_feed_93 ?_
  refine nq_bipush hX (v := 9) (by decide) dX9_feed_96 ?_
  obtain ⟨v15, e15, hi15, h⟩ := nq_agE h
  refine nq_iald hX (nq_Model_d hL) e15 hi15 dX9_feed_98 ?_
  obtain ⟨rfl, rfl⟩ := nq_sE2 h; exact nq_iret hX hr dX9_feed_99
def fX9_feed_L41 (x1 : Int64) (x3 : Int32) (x4 : Int32) (M : Mem) : Option (Int32 × Mem) :=
  (nq_lp (fun s : Int32 × Mem => fX9_feed_B41 x1 x3 s.1 s.2) nq_fuel (x4, M)).bind (fun e => fX9_feed_L92 e)
set_option maxHeartbeats 4000000 in
theorem mX9_feed_L41 {X : Cx} {E : Ev} {l : Launch} {K : List Sh} {x1 : Int64} {x3 : Int32} {x4 : Int32} {M : Mem} {r : Int32} {M' : Mem} (hL : nq_atModel E K) (hX : nq_OK X E l (nq_rm 2) cX9_feed 5 RX9 wsX9_feed) (hr : nq_RT X E (some .int) (some (.int r)) K M') (h : fX9_feed_L41 x1 x3 x4 M = some (r, M')) : nq_G X E 5 41 [(0, .ref (nq_ad E 0)), (1, .long x1), (3, .int x3), (4, .int x4)] [] K M := by
  unfold fX9_feed_L41 at h
  obtain ⟨e, h1, h⟩ := nq_bE h
  have key : ∀ (ex : Mem), nq_lp (fun s : Int32 × Mem => fX9_feed_B41 x1 x3 s.1 s.2) nq_fuel (x4, M) = some ex → (∀ e, ex = e → nq_G X E 5 92 [(0, .ref (nq_ad E 0))] [] K e) → nq_G X E 5 41 [(0, .ref (nq_ad E 0)), (1, .long x1), (3, .int x3), (4, .int ((x4, M).1))] [] K (x4, M).2 := by
    intro ex h1 hE
    refine nq_lpE (P := fun s : Int32 × Mem => nq_G X E 5 41 [(0, .ref (nq_ad E 0)), (1, .long x1), (3, .int x3), (4, .int s.1)] [] K s.2) (r := ex) ?_ nq_fuel (x4, M) h1
    intro s xx hx1 hc1 he1
    exact mX9_feed_B41 hL hX hc1 (fun e q => hE e (he1 _ q).symm) hx1
  refine key e h1 (fun e q => ?_)
  subst q
  exact mX9_feed_L92 hL hX hr h
def fX9_feed (x1 : Int64) (x3 : Int32) (M : Mem) : Option (Int32 × Mem) :=
  (fX9_in x3.toInt64 (1 : Int64) (8 : Int64) M).bind fun v2 =>
  if v2 = 0 then
  (nq_b2 (fX9_finds (1 : Int32) M) fun v5 M6 =>
  some (v5, M6))
  else
  ((nq_ag (M 1) 1250 (9 : Int32)).bind fun v7 =>
  if (v7 + x3) ≤ (50 : Int32) then
  (fX9_feed_L41 x1 x3 (0 : Int32) M)
  else
  (nq_b2 (fX9_finds (4 : Int32) M) fun v17 M18 =>
  some (v17, M18)))
set_option maxHeartbeats 4000000 in
theorem mX9_feed {X : Cx} {E : Ev} {l : Launch} {K : List Sh} {x1 : Int64} {x3 : Int32} {M : Mem} {r : Int32} {M' : Mem} (hL : nq_atModel E K) (hX : nq_OK X E l (nq_rm 2) cX9_feed 5 RX9 wsX9_feed) (hr : nq_RT X E (some .int) (some (.int r)) K M') (h : fX9_feed x1 x3 M = some (r, M')) : nq_G X E 5 0 [(0, .ref (nq_ad E 0)), (1, .long x1), (3, .int x3)] [] K M := by
  unfold fX9_feed at h
  refine nq_iload_n hX rfl 2 rfl dX9_feed_0 ?_
  refine nq_i2l hX dX9_feed_1 ?_
  refine nq_lconst hX (v := 1) (by decide) dX9_feed_2 ?_
  refine nq_ldc2 hX (v := 8) mmX9_feed_c234 dX9_feed_3 ?_
  obtain ⟨v2, hc1, h⟩ := nq_bE h
  refine nq_callSi hX (tX9_in  hc1) gX9_feed_X9_in rfl rfl dsX9_in (by decide) rfl (Nat.le_of_ble_eq_true rfl) dX9_feed_6 ?_
  refine nq_if_ne hX (tgt := 18) (by decide) dX9_feed_9 (fun c3 => ?_) (fun c3 => ?_)
  · rw [if_pos c3] at h
    refine nq_aload_n hX rfl 0 rfl dX9_feed_12 ?_
    refine nq_iconst hX (v := 1) (by decide) dX9_feed_13 ?_
    obtain ⟨v5, M6, hc4, h⟩ := nq_b2E h
    refine nq_callVi hX (tX9_finds hL hc4) gX9_feed_X9_finds rfl rfl dsX9_finds (by decide) (nq_Model_0 hL) rfl rfl (Nat.le_of_ble_eq_true rfl) dX9_feed_14 ?_
    obtain ⟨rfl, rfl⟩ := nq_sE2 h; exact nq_iret hX hr dX9_feed_17
  · rw [if_neg c3] at h
    refine nq_aload_n hX rfl 0 rfl dX9_feed_18 ?_
    refine nq_getr (v := .ref (nq_ad E 1)) hX inX9_feed_9 (nq_Model_0 hL) rfl 0 (by decide) lkX9_feed_7 _ rfl rfl dX9_feed_19 ?_
    refine nq_bipush hX (v := 9) (by decide) dX9_feed_22 ?_
    obtain ⟨v7, e7, hi7, h⟩ := nq_agE h
    refine nq_iald hX (nq_Model_d hL) e7 hi7 dX9_feed_24 ?_
    refine nq_iload_n hX rfl 2 rfl dX9_feed_25 ?_
    refine nq_iadd hX dX9_feed_26 ?_
    refine nq_bipush hX (v := 50) (by decide) dX9_feed_27 ?_
    refine nq_icmp_le hX (tgt := 38) (by decide) dX9_feed_29 (fun c8 => ?_) (fun c8 => ?_)
    · rw [if_pos c8] at h
      refine nq_iconst hX (v := 0) (by decide) dX9_feed_38 ?_
      refine nq_istore hX (lv' := [(4, .int (0 : Int32)), (0, .ref (nq_ad E 0)), (1, .long x1), (3, .int x3)]) (by decide) rfl rfl dX9_feed_39 ?_
      refine nq_sub (lv' := [(0, .ref (nq_ad E 0)), (1, .long x1), (3, .int x3), (4, .int (0 : Int32))]) [1, 2, 3, 0] rfl ?_
      exact mX9_feed_L41 hL hX hr h
    · rw [if_neg c8] at h
      refine nq_aload_n hX rfl 0 rfl dX9_feed_32 ?_
      refine nq_iconst hX (v := 4) (by decide) dX9_feed_33 ?_
      obtain ⟨v17, M18, hc16, h⟩ := nq_b2E h
      refine nq_callVi hX (tX9_finds hL hc16) gX9_feed_X9_finds rfl rfl dsX9_finds (by decide) (nq_Model_0 hL) rfl rfl (Nat.le_of_ble_eq_true rfl) dX9_feed_34 ?_
      obtain ⟨rfl, rfl⟩ := nq_sE2 h; exact nq_iret hX hr dX9_feed_37
theorem dsX9_feed : yX9_feed.cls ≠ "java/lang/invoke/MethodHandle" ∧ yX9_feed.cls ≠ "java/lang/invoke/VarHandle" ∧ (parseMethodDescriptor yX9_feed.desc).map (fun d => d.parameters.length) = some 2 := by decide +kernel
theorem tX9_feed {l : Launch} {E : Ev} {K : List Sh} {x1 : Int64} {x3 : Int32} {M : Mem} {r : Int32} {M' : Mem} (hL : nq_atModel E K) (h : fX9_feed x1 x3 M = some (r, M')) : nq_MA l E yX9_feed wsX9_feed (nq_rm 2) [.ref (nq_ad E 0), .long x1, .int x3] K M (some (.int r)) K M' :=
  nq_met (own := RX9) (cc := cX9_feed) (maxL := 5) (ret := (some .int)) (by decide) rfl rfl (Nat.le_of_ble_eq_true rfl) (fun X hX hr => mX9_feed hL hX hr h)

theorem mmX9_isUse_c132 : Cond.constantLong RX9 132 (7) ∈ wsX9_isUse := by decide +kernel
def fX9_isUse (x0 : Int32) (M : Mem) : Option (Int32) :=
  (fX9_in x0.toInt64 (0 : Int64) (7 : Int64) M).bind fun v2 =>
  (nq_nz .boolean v2).bind fun _ =>
  some v2
set_option maxHeartbeats 4000000 in
theorem mX9_isUse {X : Cx} {E : Ev} {l : Launch} {K : List Sh} {x0 : Int32} {M : Mem} {r : Int32}  (hX : nq_OK X E l (nq_rm 2) cX9_isUse 1 RX9 wsX9_isUse) (hr : nq_RT X E (some .boolean) (some (.int r)) K M) (h : fX9_isUse x0 M = some r) : nq_G X E 1 0 [(0, .int x0)] [] K M := by
  unfold fX9_isUse at h
  refine nq_iload_n hX rfl 0 rfl dX9_isUse_0 ?_
  refine nq_i2l hX dX9_isUse_1 ?_
  refine nq_lconst hX (v := 0) (by decide) dX9_isUse_2 ?_
  refine nq_ldc2 hX (v := 7) mmX9_isUse_c132 dX9_isUse_3 ?_
  obtain ⟨v2, hc1, h⟩ := nq_bE h
  refine nq_callSi hX (tX9_in  hc1) gX9_isUse_X9_in rfl rfl dsX9_in (by decide) rfl (Nat.le_of_ble_eq_true rfl) dX9_isUse_6 ?_
  obtain ⟨hn3, h⟩ := nq_nzE h
  obtain rfl := nq_sE1 h; exact nq_zret hX hr hn3 dX9_isUse_9
theorem dsX9_isUse : yX9_isUse.cls ≠ "java/lang/invoke/MethodHandle" ∧ yX9_isUse.cls ≠ "java/lang/invoke/VarHandle" ∧ (parseMethodDescriptor yX9_isUse.desc).map (fun d => d.parameters.length) = some 1 := by decide +kernel
theorem tX9_isUse {l : Launch} {E : Ev} {K : List Sh} {x0 : Int32} {M : Mem} {r : Int32}  (h : fX9_isUse x0 M = some r) : nq_MA l E yX9_isUse wsX9_isUse (nq_rm 2) [.int x0] K M (some (.int r)) K M :=
  nq_met (own := RX9) (cc := cX9_isUse) (maxL := 1) (ret := (some .boolean)) (by decide) rfl rfl (Nat.le_of_ble_eq_true rfl) (fun X hX hr => mX9_isUse  hX hr h)

theorem inX9_text_9 : ∀ w ∈ u_ws RX9 TX9 23, w ∈ wsX9_text := by
  intro w h; unfold wsX9_text; simp only [List.mem_cons, List.mem_append]; simp only [h, true_or, or_true]
theorem lkX9_text_7 : Cond.fieldLink RX9 7 (TX9 0).1 (TX9 0).2.1 (TX9 0).2.2.1 ∈ wsX9_text := by decide +kernel
theorem lkX9_text_187 : Cond.fieldLink RX9 187 (TX9 12).1 (TX9 12).2.1 (TX9 12).2.2.1 ∈ wsX9_text := by decide +kernel
def fX9_text_B68 (x1 : Int32) (x2 : Int32) (x4 : Int32) (M : Mem) : Option ((Int32 × Mem) ⊕ (Mem)) :=
  if x2 ≤ x4 then
  (some (.inr M))
  else
  ((nq_ag (M 1) 1250 ((540 : Int32) + x4)).bind fun v16 =>
  (nq_as M 1 1250 (((140 : Int32) + ((50 : Int32) * x1)) + x4) v16).bind fun M17 =>
  nq_lt (x4 + (1 : Int32)) fun v18 =>
  some (.inl (v18, M17)))
set_option maxHeartbeats 4000000 in
theorem mX9_text_B68 {X : Cx} {E : Ev} {l : Launch} {K : List Sh} {x1 : Int32} {x2 : Int32} {x4 : Int32} {M : Mem} (hL : nq_atModel E K) (hX : nq_OK X E l (nq_rm 104) cX9_text 5 RX9 wsX9_text) {x : (Int32 × Mem) ⊕ (Mem)} (hc : ∀ s' : Int32 × Mem, x = .inl s' → nq_G X E 5 68 [(0, .ref (nq_ad E 0)), (1, .int x1), (2, .int x2), (4, .int s'.1)] [] K s'.2) (he : ∀ s' : Mem, x = .inr s' → nq_G X E 5 107 [] [] K s') (h : fX9_text_B68 x1 x2 x4 M = some x) : nq_G X E 5 68 [(0, .ref (nq_ad E 0)), (1, .int x1), (2, .int x2), (4, .int x4)] [] K M := by
  unfold fX9_text_B68 at h
  refine nq_iload hX 3 rfl dX9_text_68 ?_
  refine nq_iload_n hX rfl 2 rfl dX9_text_70 ?_
  refine nq_icmp_ge hX (tgt := 107) (by decide) dX9_text_71 (fun c15 => ?_) (fun c15 => ?_)
  · rw [if_pos c15] at h
    refine nq_sub (lv' := []) [] rfl ?_
    exact he M (nq_sE h).symm
  · rw [if_neg c15] at h
    refine nq_aload_n hX rfl 0 rfl dX9_text_74 ?_
    refine nq_getr (v := .ref (nq_ad E 1)) hX inX9_text_9 (nq_Model_0 hL) rfl 0 (by decide) lkX9_text_7 _ rfl rfl dX9_text_75 ?_
    refine nq_sipush hX (v := 140) (by decide) dX9_text_78 ?_
    refine nq_bipush hX (v := 50) (by decide) dX9_text_81 ?_
    refine nq_iload_n hX rfl 1 rfl dX9_text_83 ?_
    refine nq_imul hX dX9_text_84 ?_
    refine nq_iadd hX dX9_text_85 ?_
    refine nq_iload hX 3 rfl dX9_text_86 ?_
    refine nq_iadd hX dX9_text_88 ?_
    refine nq_aload_n hX rfl 0 rfl dX9_text_89 ?_
    refine nq_getr (v := .ref (nq_ad E 1)) hX inX9_text_9 (nq_Model_0 hL) rfl 0 (by decide) lkX9_text_7 _ rfl rfl dX9_text_90 ?_
    refine nq_sipush hX (v := 540) (by decide) dX9_text_93 ?_
    refine nq_iload hX 3 rfl dX9_text_96 ?_
    refine nq_iadd hX dX9_text_98 ?_
    obtain ⟨v16, e16, hi16, h⟩ := nq_agE h
    refine nq_iald hX (nq_Model_d hL) e16 hi16 dX9_text_99 ?_
    obtain ⟨M17, e17, hi17, h⟩ := nq_asE h
    refine nq_iast hX (nq_Model_d hL) e17 hi17 dX9_text_100 ?_
    obtain ⟨v18, e18, h⟩ := nq_ltE h
    refine nq_iinc hX (lv' := [(4, .int v18), (0, .ref (nq_ad E 0)), (1, .int x1), (2, .int x2)]) (j := 3) rfl (e18.trans rfl) (by decide) rfl dX9_text_101 ?_
    refine nq_goto hX (tgt := 68) (by decide) dX9_text_104 ?_
    refine nq_sub (lv' := [(0, .ref (nq_ad E 0)), (1, .int x1), (2, .int x2), (4, .int v18)]) [1, 2, 3, 0] rfl ?_
    exact hc (v18, M17) (nq_sE h).symm
def fX9_text_L107 (M : Mem) : Option (Int32 × Mem) :=
  some ((1 : Int32), M)
set_option maxHeartbeats 4000000 in
theorem mX9_text_L107 {X : Cx} {E : Ev} {l : Launch} {K : List Sh} {M : Mem} {r : Int32} {M' : Mem} (hL : nq_atModel E K) (hX : nq_OK X E l (nq_rm 104) cX9_text 5 RX9 wsX9_text) (hr : nq_RT X E (some .int) (some (.int r)) K M') (h : fX9_text_L107 M = some (r, M')) : nq_G X E 5 107 [] [] K M := by
  unfold fX9_text_L107 at h
  refine nq_iconst hX (v := 1) (by decide) dX9_text_107 ?_
  obtain ⟨rfl, rfl⟩ := nq_sE2 h; exact nq_iret hX hr dX9_text_108
def fX9_text_L68 (x1 : Int32) (x2 : Int32) (x4 : Int32) (M : Mem) : Option (Int32 × Mem) :=
  (nq_lp (fun s : Int32 × Mem => fX9_text_B68 x1 x2 s.1 s.2) nq_fuel (x4, M)).bind (fun e => fX9_text_L107 e)
set_option maxHeartbeats 4000000 in
theorem mX9_text_L68 {X : Cx} {E : Ev} {l : Launch} {K : List Sh} {x1 : Int32} {x2 : Int32} {x4 : Int32} {M : Mem} {r : Int32} {M' : Mem} (hL : nq_atModel E K) (hX : nq_OK X E l (nq_rm 104) cX9_text 5 RX9 wsX9_text) (hr : nq_RT X E (some .int) (some (.int r)) K M') (h : fX9_text_L68 x1 x2 x4 M = some (r, M')) : nq_G X E 5 68 [(0, .ref (nq_ad E 0)), (1, .int x1), (2, .int x2), (4, .int x4)] [] K M := by
  unfold fX9_text_L68 at h
  obtain ⟨e, h1, h⟩ := nq_bE h
  have key : ∀ (ex : Mem), nq_lp (fun s : Int32 × Mem => fX9_text_B68 x1 x2 s.1 s.2) nq_fuel (x4, M) = some ex → (∀ e, ex = e → nq_G X E 5 107 [] [] K e) → nq_G X E 5 68 [(0, .ref (nq_ad E 0)), (1, .int x1), (2, .int x2), (4, .int ((x4, M).1))] [] K (x4, M).2 := by
    intro ex h1 hE
    refine nq_lpE (P := fun s : Int32 × Mem => nq_G X E 5 68 [(0, .ref (nq_ad E 0)), (1, .int x1), (2, .int x2), (4, .int s.1)] [] K s.2) (r := ex) ?_ nq_fuel (x4, M) h1
    intro s xx hx1 hc1 he1
    exact mX9_text_B68 hL hX hc1 (fun e q => hE e (he1 _ q).symm) hx1
  refine key e h1 (fun e q => ?_)
  subst q
  exact mX9_text_L107 hL hX hr h
def fX9_text (x1 : Int32) (M : Mem) : Option (Int32 × Mem) :=
  (fX9_isUse x1 M).bind fun v2 =>
  if v2 = 0 then
  (nq_b2 (fX9_finds (1 : Int32) M) fun v5 M6 =>
  some (v5, M6))
  else
  ((nq_ag (M 1) 1250 (9 : Int32)).bind fun v7 =>
  (nq_as M 1 1250 (9 : Int32) (0 : Int32)).bind fun M8 =>
  nq_b2 (fX9_worked (540 : Int32) v7 x1 M8) fun v10 M11 =>
  nq_lt (M11 0 12) fun v12 =>
  if v12 < 0 then
  ((nq_as M11 1 1250 ((130 : Int32) + x1) v7).bind fun M14 =>
  fX9_text_L68 x1 v7 (0 : Int32) M14)
  else
  (nq_lt (M11 0 12) fun v19 =>
  some (((-10 : Int32) - v19), M11)))
set_option maxHeartbeats 4000000 in
theorem mX9_text {X : Cx} {E : Ev} {l : Launch} {K : List Sh} {x1 : Int32} {M : Mem} {r : Int32} {M' : Mem} (hL : nq_atModel E K) (hX : nq_OK X E l (nq_rm 104) cX9_text 5 RX9 wsX9_text) (hr : nq_RT X E (some .int) (some (.int r)) K M') (h : fX9_text x1 M = some (r, M')) : nq_G X E 5 0 [(0, .ref (nq_ad E 0)), (1, .int x1)] [] K M := by
  unfold fX9_text at h
  refine nq_iload_n hX rfl 1 rfl dX9_text_0 ?_
  obtain ⟨v2, hc1, h⟩ := nq_bE h
  refine nq_callSi hX (tX9_isUse  hc1) gX9_text_X9_isUse rfl rfl dsX9_isUse (by decide) rfl (Nat.le_of_ble_eq_true rfl) dX9_text_1 ?_
  refine nq_if_ne hX (tgt := 13) (by decide) dX9_text_4 (fun c3 => ?_) (fun c3 => ?_)
  · rw [if_pos c3] at h
    refine nq_aload_n hX rfl 0 rfl dX9_text_7 ?_
    refine nq_iconst hX (v := 1) (by decide) dX9_text_8 ?_
    obtain ⟨v5, M6, hc4, h⟩ := nq_b2E h
    refine nq_callVi hX (tX9_finds hL hc4) gX9_text_X9_finds rfl rfl dsX9_finds (by decide) (nq_Model_0 hL) rfl rfl (Nat.le_of_ble_eq_true rfl) dX9_text_9 ?_
    obtain ⟨rfl, rfl⟩ := nq_sE2 h; exact nq_iret hX hr dX9_text_12
  · rw [if_neg c3] at h
    refine nq_aload_n hX rfl 0 rfl dX9_text_13 ?_
    refine nq_getr (v := .ref (nq_ad E 1)) hX inX9_text_9 (nq_Model_0 hL) rfl 0 (by decide) lkX9_text_7 _ rfl rfl dX9_text_14 ?_
    refine nq_bipush hX (v := 9) (by decide) dX9_text_17 ?_
    obtain ⟨v7, e7, hi7, h⟩ := nq_agE h
    refine nq_iald hX (nq_Model_d hL) e7 hi7 dX9_text_19 ?_
    refine nq_istore_n hX (lv' := [(2, .int v7), (0, .ref (nq_ad E 0)), (1, .int x1)]) rfl (by decide) rfl rfl dX9_text_20 ?_
    refine nq_aload_n hX rfl 1 rfl dX9_text_21 ?_
    refine nq_getr (v := .ref (nq_ad E 1)) hX inX9_text_9 (nq_Model_0 hL) rfl 0 (by decide) lkX9_text_7 _ rfl rfl dX9_text_22 ?_
    refine nq_bipush hX (v := 9) (by decide) dX9_text_25 ?_
    refine nq_iconst hX (v := 0) (by decide) dX9_text_27 ?_
    obtain ⟨M8, e8, hi8, h⟩ := nq_asE h
    refine nq_iast hX (nq_Model_d hL) e8 hi8 dX9_text_28 ?_
    refine nq_aload_n hX rfl 1 rfl dX9_text_29 ?_
    refine nq_sipush hX (v := 540) (by decide) dX9_text_30 ?_
    refine nq_iload_n hX rfl 0 rfl dX9_text_33 ?_
    refine nq_iload_n hX rfl 2 rfl dX9_text_34 ?_
    obtain ⟨v10, M11, hc9, h⟩ := nq_b2E h
    refine nq_callVi hX (tX9_worked hL hc9) gX9_text_X9_worked rfl rfl dsX9_worked (by decide) (nq_Model_0 hL) rfl rfl (Nat.le_of_ble_eq_true rfl) dX9_text_35 ?_
    refine nq_istore_n hX (lv' := [(3, .int v10), (2, .int v7), (0, .ref (nq_ad E 0)), (1, .int x1)]) rfl (by decide) rfl rfl dX9_text_38 ?_
    refine nq_aload_n hX rfl 2 rfl dX9_text_39 ?_
    obtain ⟨v12, e12, h⟩ := nq_ltE h
    refine nq_geti hX inX9_text_9 (nq_Model_0 hL) rfl 12 (by decide) lkX9_text_187 rfl e12 dX9_text_40 ?_
    refine nq_if_lt hX (tgt := 54) (by decide) dX9_text_43 (fun c13 => ?_) (fun c13 => ?_)
    · rw [if_pos c13] at h
      refine nq_aload_n hX rfl 2 rfl dX9_text_54 ?_
      refine nq_getr (v := .ref (nq_ad E 1)) hX inX9_text_9 (nq_Model_0 hL) rfl 0 (by decide) lkX9_text_7 _ rfl rfl dX9_text_55 ?_
      refine nq_sipush hX (v := 130) (by decide) dX9_text_58 ?_
      refine nq_iload_n hX rfl 3 rfl dX9_text_61 ?_
      refine nq_iadd hX dX9_text_62 ?_
      refine nq_iload_n hX rfl 1 rfl dX9_text_63 ?_
      obtain ⟨M14, e14, hi14, h⟩ := nq_asE h
      refine nq_iast hX (nq_Model_d hL) e14 hi14 dX9_text_64 ?_
      refine nq_iconst hX (v := 0) (by decide) dX9_text_65 ?_
      refine nq_istore hX (lv' := [(4, .int (0 : Int32)), (3, .int v10), (2, .int v7), (0, .ref (nq_ad E 0)), (1, .int x1)]) (by decide) rfl rfl dX9_text_66 ?_
      refine nq_sub (lv' := [(0, .ref (nq_ad E 0)), (1, .int x1), (2, .int v7), (4, .int (0 : Int32))]) [3, 4, 2, 0] rfl ?_
      exact mX9_text_L68 hL hX hr h
    · rw [if_neg c13] at h
      refine nq_bipush hX (v := -10) (by decide) dX9_text_46 ?_
      refine nq_aload_n hX rfl 2 rfl dX9_text_48 ?_
      obtain ⟨v19, e19, h⟩ := nq_ltE h
      refine nq_geti hX inX9_text_9 (nq_Model_0 hL) rfl 12 (by decide) lkX9_text_187 rfl e19 dX9_text_49 ?_
      refine nq_isub hX dX9_text_52 ?_
      obtain ⟨rfl, rfl⟩ := nq_sE2 h; exact nq_iret hX hr dX9_text_53
theorem dsX9_text : yX9_text.cls ≠ "java/lang/invoke/MethodHandle" ∧ yX9_text.cls ≠ "java/lang/invoke/VarHandle" ∧ (parseMethodDescriptor yX9_text.desc).map (fun d => d.parameters.length) = some 1 := by decide +kernel
theorem tX9_text {l : Launch} {E : Ev} {K : List Sh} {x1 : Int32} {M : Mem} {r : Int32} {M' : Mem} (hL : nq_atModel E K) (h : fX9_text x1 M = some (r, M')) : nq_MA l E yX9_text wsX9_text (nq_rm 104) [.ref (nq_ad E 0), .int x1] K M (some (.int r)) K M' :=
  nq_met (own := RX9) (cc := cX9_text) (maxL := 5) (ret := (some .int)) (by decide) rfl rfl (Nat.le_of_ble_eq_true rfl) (fun X hX hr => mX9_text hL hX hr h)

theorem inX9_gives_9 : ∀ w ∈ u_ws RX9 TX9 23, w ∈ wsX9_gives := by
  intro w h; unfold wsX9_gives; simp only [List.mem_cons, List.mem_append]; simp only [h, true_or, or_true]
theorem lkX9_gives_7 : Cond.fieldLink RX9 7 (TX9 0).1 (TX9 0).2.1 (TX9 0).2.2.1 ∈ wsX9_gives := by decide +kernel
def fX9_gives (x1 : Int32) (M : Mem) : Option (Int32 × Mem) :=
  (nq_ag (M 1) 1250 ((130 : Int32) + x1)).bind fun v1 =>
  if v1 = 0 then
  (some ((0 : Int32), M))
  else
  ((nq_ag (M 1) 1250 ((130 : Int32) + x1)).bind fun v3 =>
  nq_b2 (fX9_worked ((140 : Int32) + ((50 : Int32) * x1)) v3 x1 M) fun v5 M6 =>
  some (v5, M6))
set_option maxHeartbeats 4000000 in
theorem mX9_gives {X : Cx} {E : Ev} {l : Launch} {K : List Sh} {x1 : Int32} {M : Mem} {r : Int32} {M' : Mem} (hL : nq_atModel E K) (hX : nq_OK X E l (nq_rm 104) cX9_gives 2 RX9 wsX9_gives) (hr : nq_RT X E (some .int) (some (.int r)) K M') (h : fX9_gives x1 M = some (r, M')) : nq_G X E 2 0 [(0, .ref (nq_ad E 0)), (1, .int x1)] [] K M := by
  unfold fX9_gives at h
  refine nq_aload_n hX rfl 0 rfl dX9_gives_0 ?_
  refine nq_getr (v := .ref (nq_ad E 1)) hX inX9_gives_9 (nq_Model_0 hL) rfl 0 (by decide) lkX9_gives_7 _ rfl rfl dX9_gives_1 ?_
  refine nq_sipush hX (v := 130) (by decide) dX9_gives_4 ?_
  refine nq_iload_n hX rfl 1 rfl dX9_gives_7 ?_
  refine nq_iadd hX dX9_gives_8 ?_
  obtain ⟨v1, e1, hi1, h⟩ := nq_agE h
  refine nq_iald hX (nq_Model_d hL) e1 hi1 dX9_gives_9 ?_
  refine nq_if_ne hX (tgt := 17) (by decide) dX9_gives_10 (fun c2 => ?_) (fun c2 => ?_)
  · rw [if_pos c2] at h
    refine nq_iconst hX (v := 0) (by decide) dX9_gives_13 ?_
    refine nq_goto hX (tgt := 40) (by decide) dX9_gives_14 ?_
    obtain ⟨rfl, rfl⟩ := nq_sE2 h; exact nq_iret hX hr dX9_gives_40
  · rw [if_neg c2] at h
    refine nq_aload_n hX rfl 0 rfl dX9_gives_17 ?_
    refine nq_sipush hX (v := 140) (by decide) dX9_gives_18 ?_
    refine nq_bipush hX (v := 50) (by decide) dX9_gives_21 ?_
    refine nq_iload_n hX rfl 1 rfl dX9_gives_23 ?_
    refine nq_imul hX dX9_gives_24 ?_
    refine nq_iadd hX dX9_gives_25 ?_
    refine nq_aload_n hX rfl 0 rfl dX9_gives_26 ?_
    refine nq_getr (v := .ref (nq_ad E 1)) hX inX9_gives_9 (nq_Model_0 hL) rfl 0 (by decide) lkX9_gives_7 _ rfl rfl dX9_gives_27 ?_
    refine nq_sipush hX (v := 130) (by decide) dX9_gives_30 ?_
    refine nq_iload_n hX rfl 1 rfl dX9_gives_33 ?_
    refine nq_iadd hX dX9_gives_34 ?_
    obtain ⟨v3, e3, hi3, h⟩ := nq_agE h
    refine nq_iald hX (nq_Model_d hL) e3 hi3 dX9_gives_35 ?_
    refine nq_iload_n hX rfl 1 rfl dX9_gives_36 ?_
    obtain ⟨v5, M6, hc4, h⟩ := nq_b2E h
    refine nq_callVi hX (tX9_worked hL hc4) gX9_gives_X9_worked rfl rfl dsX9_worked (by decide) (nq_Model_0 hL) rfl rfl (Nat.le_of_ble_eq_true rfl) dX9_gives_37 ?_
    obtain ⟨rfl, rfl⟩ := nq_sE2 h; exact nq_iret hX hr dX9_gives_40
theorem dsX9_gives : yX9_gives.cls ≠ "java/lang/invoke/MethodHandle" ∧ yX9_gives.cls ≠ "java/lang/invoke/VarHandle" ∧ (parseMethodDescriptor yX9_gives.desc).map (fun d => d.parameters.length) = some 1 := by decide +kernel
theorem tX9_gives {l : Launch} {E : Ev} {K : List Sh} {x1 : Int32} {M : Mem} {r : Int32} {M' : Mem} (hL : nq_atModel E K) (h : fX9_gives x1 M = some (r, M')) : nq_MA l E yX9_gives wsX9_gives (nq_rm 104) [.ref (nq_ad E 0), .int x1] K M (some (.int r)) K M' :=
  nq_met (own := RX9) (cc := cX9_gives) (maxL := 2) (ret := (some .int)) (by decide) rfl rfl (Nat.le_of_ble_eq_true rfl) (fun X hX hr => mX9_gives hL hX hr h)

theorem inX9_law_9 : ∀ w ∈ u_ws RX9 TX9 23, w ∈ wsX9_law := by
  intro w h; unfold wsX9_law; simp only [List.mem_cons, List.mem_append]; simp only [h, true_or, or_true]
theorem lkX9_law_35 : Cond.fieldLink RX9 35 (TX9 15).1 (TX9 15).2.1 (TX9 15).2.2.1 ∈ wsX9_law := by decide +kernel
def fX9_law (x1 : Int32) (x2 : Int32) (x3 : Int32) (M : Mem) : Option (Int32 × Mem) :=
  (fX9_isUse x1 M).bind fun v2 =>
  if v2 = 0 then
  (nq_b2 (fX9_finds (1 : Int32) M) fun v5 M6 =>
  some (v5, M6))
  else
  ((nq_as M 9 5 (0 : Int32) x2).bind fun M7 =>
  (nq_as M7 9 5 (1 : Int32) x3).bind fun M8 =>
  (nq_as M8 9 5 (2 : Int32) (0 : Int32)).bind fun M9 =>
  (nq_as M9 9 5 (3 : Int32) (0 : Int32)).bind fun M10 =>
  (nq_as M10 9 5 (4 : Int32) (0 : Int32)).bind fun M11 =>
  nq_b2 (fX9_gives x1 M11) fun v13 M14 =>
  some (v13, M14))
set_option maxHeartbeats 4000000 in
theorem mX9_law {X : Cx} {E : Ev} {l : Launch} {K : List Sh} {x1 : Int32} {x2 : Int32} {x3 : Int32} {M : Mem} {r : Int32} {M' : Mem} (hL : nq_atModel E K) (hX : nq_OK X E l (nq_rm 105) cX9_law 4 RX9 wsX9_law) (hr : nq_RT X E (some .int) (some (.int r)) K M') (h : fX9_law x1 x2 x3 M = some (r, M')) : nq_G X E 4 0 [(0, .ref (nq_ad E 0)), (1, .int x1), (2, .int x2), (3, .int x3)] [] K M := by
  unfold fX9_law at h
  refine nq_iload_n hX rfl 1 rfl dX9_law_0 ?_
  obtain ⟨v2, hc1, h⟩ := nq_bE h
  refine nq_callSi hX (tX9_isUse  hc1) gX9_law_X9_isUse rfl rfl dsX9_isUse (by decide) rfl (Nat.le_of_ble_eq_true rfl) dX9_law_1 ?_
  refine nq_if_ne hX (tgt := 13) (by decide) dX9_law_4 (fun c3 => ?_) (fun c3 => ?_)
  · rw [if_pos c3] at h
    refine nq_aload_n hX rfl 0 rfl dX9_law_7 ?_
    refine nq_iconst hX (v := 1) (by decide) dX9_law_8 ?_
    obtain ⟨v5, M6, hc4, h⟩ := nq_b2E h
    refine nq_callVi hX (tX9_finds hL hc4) gX9_law_X9_finds rfl rfl dsX9_finds (by decide) (nq_Model_0 hL) rfl rfl (Nat.le_of_ble_eq_true rfl) dX9_law_9 ?_
    obtain ⟨rfl, rfl⟩ := nq_sE2 h; exact nq_iret hX hr dX9_law_12
  · rw [if_neg c3] at h
    refine nq_aload_n hX rfl 0 rfl dX9_law_13 ?_
    refine nq_getr (v := .ref (nq_ad E 9)) hX inX9_law_9 (nq_Model_0 hL) rfl 15 (by decide) lkX9_law_35 _ rfl rfl dX9_law_14 ?_
    refine nq_iconst hX (v := 0) (by decide) dX9_law_17 ?_
    refine nq_iload_n hX rfl 2 rfl dX9_law_18 ?_
    obtain ⟨M7, e7, hi7, h⟩ := nq_asE h
    refine nq_iast hX (nq_Model_names hL) e7 hi7 dX9_law_19 ?_
    refine nq_aload_n hX rfl 0 rfl dX9_law_20 ?_
    refine nq_getr (v := .ref (nq_ad E 9)) hX inX9_law_9 (nq_Model_0 hL) rfl 15 (by decide) lkX9_law_35 _ rfl rfl dX9_law_21 ?_
    refine nq_iconst hX (v := 1) (by decide) dX9_law_24 ?_
    refine nq_iload_n hX rfl 3 rfl dX9_law_25 ?_
    obtain ⟨M8, e8, hi8, h⟩ := nq_asE h
    refine nq_iast hX (nq_Model_names hL) e8 hi8 dX9_law_26 ?_
    refine nq_aload_n hX rfl 0 rfl dX9_law_27 ?_
    refine nq_getr (v := .ref (nq_ad E 9)) hX inX9_law_9 (nq_Model_0 hL) rfl 15 (by decide) lkX9_law_35 _ rfl rfl dX9_law_28 ?_
    refine nq_iconst hX (v := 2) (by decide) dX9_law_31 ?_
    refine nq_iconst hX (v := 0) (by decide) dX9_law_32 ?_
    obtain ⟨M9, e9, hi9, h⟩ := nq_asE h
    refine nq_iast hX (nq_Model_names hL) e9 hi9 dX9_law_33 ?_
    refine nq_aload_n hX rfl 0 rfl dX9_law_34 ?_
    refine nq_getr (v := .ref (nq_ad E 9)) hX inX9_law_9 (nq_Model_0 hL) rfl 15 (by decide) lkX9_law_35 _ rfl rfl dX9_law_35 ?_
    refine nq_iconst hX (v := 3) (by decide) dX9_law_38 ?_
    refine nq_iconst hX (v := 0) (by decide) dX9_law_39 ?_
    obtain ⟨M10, e10, hi10, h⟩ := nq_asE h
    refine nq_iast hX (nq_Model_names hL) e10 hi10 dX9_law_40 ?_
    refine nq_aload_n hX rfl 0 rfl dX9_law_41 ?_
    refine nq_getr (v := .ref (nq_ad E 9)) hX inX9_law_9 (nq_Model_0 hL) rfl 15 (by decide) lkX9_law_35 _ rfl rfl dX9_law_42 ?_
    refine nq_iconst hX (v := 4) (by decide) dX9_law_45 ?_
    refine nq_iconst hX (v := 0) (by decide) dX9_law_46 ?_
    obtain ⟨M11, e11, hi11, h⟩ := nq_asE h
    refine nq_iast hX (nq_Model_names hL) e11 hi11 dX9_law_47 ?_
    refine nq_aload_n hX rfl 0 rfl dX9_law_48 ?_
    refine nq_iload_n hX rfl 1 rfl dX9_law_49 ?_
    obtain ⟨v13, M14, hc12, h⟩ := nq_b2E h
    refine nq_callVi hX (tX9_gives hL hc12) gX9_law_X9_gives rfl rfl dsX9_gives (by decide) (nq_Model_0 hL) rfl rfl (Nat.le_of_ble_eq_true rfl) dX9_law_50 ?_
    obtain ⟨rfl, rfl⟩ := nq_sE2 h; exact nq_iret hX hr dX9_law_53
theorem dsX9_law : yX9_law.cls ≠ "java/lang/invoke/MethodHandle" ∧ yX9_law.cls ≠ "java/lang/invoke/VarHandle" ∧ (parseMethodDescriptor yX9_law.desc).map (fun d => d.parameters.length) = some 3 := by decide +kernel
theorem tX9_law {l : Launch} {E : Ev} {K : List Sh} {x1 : Int32} {x2 : Int32} {x3 : Int32} {M : Mem} {r : Int32} {M' : Mem} (hL : nq_atModel E K) (h : fX9_law x1 x2 x3 M = some (r, M')) : nq_MA l E yX9_law wsX9_law (nq_rm 105) [.ref (nq_ad E 0), .int x1, .int x2, .int x3] K M (some (.int r)) K M' :=
  nq_met (own := RX9) (cc := cX9_law) (maxL := 4) (ret := (some .int)) (by decide) rfl rfl (Nat.le_of_ble_eq_true rfl) (fun X hX hr => mX9_law hL hX hr h)

theorem inX9_aim_9 : ∀ w ∈ u_ws RX9 TX9 23, w ∈ wsX9_aim := by
  intro w h; unfold wsX9_aim; simp only [List.mem_cons, List.mem_append]; simp only [h, true_or, or_true]
theorem lkX9_aim_7 : Cond.fieldLink RX9 7 (TX9 0).1 (TX9 0).2.1 (TX9 0).2.2.1 ∈ wsX9_aim := by decide +kernel
def fX9_aim_L45 (x1 : Int32) (x2 : Int32) (M : Mem) : Option (Int32 × Mem) :=
  (nq_as M 1 1250 ((60 : Int32) + x1) x2).bind fun M8 =>
  some ((1 : Int32), M8)
set_option maxHeartbeats 4000000 in
theorem mX9_aim_L45 {X : Cx} {E : Ev} {l : Launch} {K : List Sh} {x1 : Int32} {x2 : Int32} {M : Mem} {r : Int32} {M' : Mem} (hL : nq_atModel E K) (hX : nq_OK X E l (nq_rm 4) cX9_aim 3 RX9 wsX9_aim) (hr : nq_RT X E (some .int) (some (.int r)) K M') (h : fX9_aim_L45 x1 x2 M = some (r, M')) : nq_G X E 3 45 [(0, .ref (nq_ad E 0)), (1, .int x1), (2, .int x2)] [] K M := by
  unfold fX9_aim_L45 at h
  refine nq_aload_n hX rfl 0 rfl dX9_aim_45 ?_
  refine nq_getr (v := .ref (nq_ad E 1)) hX inX9_aim_9 (nq_Model_0 hL) rfl 0 (by decide) lkX9_aim_7 _ rfl rfl dX9_aim_46 ?_
  refine nq_bipush hX (v := 60) (by decide) dX9_aim_49 ?_
  refine nq_iload_n hX rfl 1 rfl dX9_aim_51 ?_
  refine nq_iadd hX dX9_aim_52 ?_
  refine nq_iload_n hX rfl 2 rfl dX9_aim_53 ?_
  obtain ⟨M8, e8, hi8, h⟩ := nq_asE h
  refine nq_iast hX (nq_Model_d hL) e8 hi8 dX9_aim_54 ?_
  refine nq_iconst hX (v := 1) (by decide) dX9_aim_55 ?_
  obtain ⟨rfl, rfl⟩ := nq_sE2 h; exact nq_iret hX hr dX9_aim_56
def fX9_aim (x1 : Int32) (x2 : Int32) (M : Mem) : Option (Int32 × Mem) :=
  (fX9_isPlace x1 M).bind fun v2 =>
  if v2 = 0 then
  (nq_b2 (fX9_finds (1 : Int32) M) fun v5 M6 =>
  some (v5, M6))
  else
  (if x2 = (-1 : Int32) then
  (fX9_aim_L45 x1 x2 M)
  else
  (if x2 < 0 then
  (nq_b2 (fX9_finds (1 : Int32) M) fun v11 M12 =>
  some (v11, M12))
  else
  ((nq_dv x2 (10 : Int32)).bind fun v13 =>
  (fX9_areTwo x1 v13 M).bind fun v15 =>
  if v15 = 0 then
  (nq_b2 (fX9_finds (1 : Int32) M) fun v18 M19 =>
  some (v18, M19))
  else
  ((nq_rem x2 (10 : Int32)).bind fun v20 =>
  (fX9_isPact v20 M).bind fun v22 =>
  if v22 = 0 then
  (nq_b2 (fX9_finds (1 : Int32) M) fun v25 M26 =>
  some (v25, M26))
  else
  (fX9_aim_L45 x1 x2 M)))))
set_option maxHeartbeats 4000000 in
theorem mX9_aim {X : Cx} {E : Ev} {l : Launch} {K : List Sh} {x1 : Int32} {x2 : Int32} {M : Mem} {r : Int32} {M' : Mem} (hL : nq_atModel E K) (hX : nq_OK X E l (nq_rm 4) cX9_aim 3 RX9 wsX9_aim) (hr : nq_RT X E (some .int) (some (.int r)) K M') (h : fX9_aim x1 x2 M = some (r, M')) : nq_G X E 3 0 [(0, .ref (nq_ad E 0)), (1, .int x1), (2, .int x2)] [] K M := by
  unfold fX9_aim at h
  refine nq_aload_n hX rfl 0 rfl dX9_aim_0 ?_
  refine nq_iload_n hX rfl 1 rfl dX9_aim_1 ?_
  obtain ⟨v2, hc1, h⟩ := nq_bE h
  refine nq_callVi hX (tX9_isPlace hL hc1) gX9_aim_X9_isPlace rfl rfl dsX9_isPlace (by decide) (nq_Model_0 hL) rfl rfl (Nat.le_of_ble_eq_true rfl) dX9_aim_2 ?_
  refine nq_if_eq hX (tgt := 39) (by decide) dX9_aim_5 (fun c3 => ?_) (fun c3 => ?_)
  · rw [if_pos c3] at h
    refine nq_aload_n hX rfl 0 rfl dX9_aim_39 ?_
    refine nq_iconst hX (v := 1) (by decide) dX9_aim_40 ?_
    obtain ⟨v5, M6, hc4, h⟩ := nq_b2E h
    refine nq_callVi hX (tX9_finds hL hc4) gX9_aim_X9_finds rfl rfl dsX9_finds (by decide) (nq_Model_0 hL) rfl rfl (Nat.le_of_ble_eq_true rfl) dX9_aim_41 ?_
    obtain ⟨rfl, rfl⟩ := nq_sE2 h; exact nq_iret hX hr dX9_aim_44
  · rw [if_neg c3] at h
    refine nq_iload_n hX rfl 2 rfl dX9_aim_8 ?_
    refine nq_iconst hX (v := -1) (by decide) dX9_aim_9 ?_
    refine nq_icmp_eq hX (tgt := 45) (by decide) dX9_aim_10 (fun c7 => ?_) (fun c7 => ?_)
    · rw [if_pos c7] at h
      exact mX9_aim_L45 hL hX hr h
    · rw [if_neg c7] at h
      refine nq_iload_n hX rfl 2 rfl dX9_aim_13 ?_
      refine nq_if_lt hX (tgt := 39) (by decide) dX9_aim_14 (fun c9 => ?_) (fun c9 => ?_)
      · rw [if_pos c9] at h
        refine nq_aload_n hX rfl 0 rfl dX9_aim_39 ?_
        refine nq_iconst hX (v := 1) (by decide) dX9_aim_40 ?_
        obtain ⟨v11, M12, hc10, h⟩ := nq_b2E h
        refine nq_callVi hX (tX9_finds hL hc10) gX9_aim_X9_finds rfl rfl dsX9_finds (by decide) (nq_Model_0 hL) rfl rfl (Nat.le_of_ble_eq_true rfl) dX9_aim_41 ?_
        obtain ⟨rfl, rfl⟩ := nq_sE2 h; exact nq_iret hX hr dX9_aim_44
      · rw [if_neg c9] at h
        refine nq_aload_n hX rfl 0 rfl dX9_aim_17 ?_
        refine nq_iload_n hX rfl 1 rfl dX9_aim_18 ?_
        refine nq_iload_n hX rfl 2 rfl dX9_aim_19 ?_
        refine nq_bipush hX (v := 10) (by decide) dX9_aim_20 ?_
        obtain ⟨v13, e13, hn13, h⟩ := nq_ifE h
        refine nq_idiv hX hn13 e13 dX9_aim_22 ?_
        obtain ⟨v15, hc14, h⟩ := nq_bE h
        refine nq_callVi hX (tX9_areTwo hL hc14) gX9_aim_X9_areTwo rfl rfl dsX9_areTwo (by decide) (nq_Model_0 hL) rfl rfl (Nat.le_of_ble_eq_true rfl) dX9_aim_23 ?_
        refine nq_if_eq hX (tgt := 39) (by decide) dX9_aim_26 (fun c16 => ?_) (fun c16 => ?_)
        · rw [if_pos c16] at h
          refine nq_aload_n hX rfl 0 rfl dX9_aim_39 ?_
          refine nq_iconst hX (v := 1) (by decide) dX9_aim_40 ?_
          obtain ⟨v18, M19, hc17, h⟩ := nq_b2E h
          refine nq_callVi hX (tX9_finds hL hc17) gX9_aim_X9_finds rfl rfl dsX9_finds (by decide) (nq_Model_0 hL) rfl rfl (Nat.le_of_ble_eq_true rfl) dX9_aim_41 ?_
          obtain ⟨rfl, rfl⟩ := nq_sE2 h; exact nq_iret hX hr dX9_aim_44
        · rw [if_neg c16] at h
          refine nq_iload_n hX rfl 2 rfl dX9_aim_29 ?_
          refine nq_bipush hX (v := 10) (by decide) dX9_aim_30 ?_
          obtain ⟨v20, e20, hn20, h⟩ := nq_ifE h
          refine nq_irem hX hn20 e20 dX9_aim_32 ?_
          obtain ⟨v22, hc21, h⟩ := nq_bE h
          refine nq_callSi hX (tX9_isPact  hc21) gX9_aim_X9_isPact rfl rfl dsX9_isPact (by decide) rfl (Nat.le_of_ble_eq_true rfl) dX9_aim_33 ?_
          refine nq_if_ne hX (tgt := 45) (by decide) dX9_aim_36 (fun c23 => ?_) (fun c23 => ?_)
          · rw [if_pos c23] at h
            refine nq_aload_n hX rfl 0 rfl dX9_aim_39 ?_
            refine nq_iconst hX (v := 1) (by decide) dX9_aim_40 ?_
            obtain ⟨v25, M26, hc24, h⟩ := nq_b2E h
            refine nq_callVi hX (tX9_finds hL hc24) gX9_aim_X9_finds rfl rfl dsX9_finds (by decide) (nq_Model_0 hL) rfl rfl (Nat.le_of_ble_eq_true rfl) dX9_aim_41 ?_
            obtain ⟨rfl, rfl⟩ := nq_sE2 h; exact nq_iret hX hr dX9_aim_44
          · rw [if_neg c23] at h
            exact mX9_aim_L45 hL hX hr h
theorem dsX9_aim : yX9_aim.cls ≠ "java/lang/invoke/MethodHandle" ∧ yX9_aim.cls ≠ "java/lang/invoke/VarHandle" ∧ (parseMethodDescriptor yX9_aim.desc).map (fun d => d.parameters.length) = some 2 := by decide +kernel
theorem tX9_aim {l : Launch} {E : Ev} {K : List Sh} {x1 : Int32} {x2 : Int32} {M : Mem} {r : Int32} {M' : Mem} (hL : nq_atModel E K) (h : fX9_aim x1 x2 M = some (r, M')) : nq_MA l E yX9_aim wsX9_aim (nq_rm 4) [.ref (nq_ad E 0), .int x1, .int x2] K M (some (.int r)) K M' :=
  nq_met (own := RX9) (cc := cX9_aim) (maxL := 3) (ret := (some .int)) (by decide) rfl rfl (Nat.le_of_ble_eq_true rfl) (fun X hX hr => mX9_aim hL hX hr h)

theorem inX9_latestKind_9 : ∀ w ∈ u_ws RX9 TX9 23, w ∈ wsX9_latestKind := by
  intro w h; unfold wsX9_latestKind; simp only [List.mem_cons, List.mem_append]; simp only [h, true_or, or_true]
theorem lkX9_latestKind_7 : Cond.fieldLink RX9 7 (TX9 0).1 (TX9 0).2.1 (TX9 0).2.2.1 ∈ wsX9_latestKind := by decide +kernel
def fX9_latestKind_B5 (x1 : Int32) (x2 : Int32) (x3 : Int32) (x4 : Int32) (M : Mem) : Option ((Int32 × Int32) ⊕ (Int32)) :=
  (nq_ag (M 1) 1250 (2 : Int32)).bind fun v1 =>
  if v1 ≤ x4 then
  (some (.inr x3))
  else
  ((nq_ag (M 1) 1250 (0 : Int32)).bind fun v3 =>
  (fX9_hasCome x4 x1 x2 v3 M).bind fun v5 =>
  if v5 = 0 then
  (nq_lt (x4 + (1 : Int32)) fun v7 =>
  some (.inl (x3, v7)))
  else
  (if x3 < 0 then
  (nq_lt (x4 + (1 : Int32)) fun v9 =>
  some (.inl (x4, v9)))
  else
  ((fX9_wo x4 (5 : Int32) M).bind fun v11 =>
  (fX9_wo x3 (5 : Int32) M).bind fun v13 =>
  if v11 < v13 then
  (nq_lt (x4 + (1 : Int32)) fun v15 =>
  some (.inl (x3, v15)))
  else
  (nq_lt (x4 + (1 : Int32)) fun v16 =>
  some (.inl (x4, v16))))))
set_option maxHeartbeats 4000000 in
theorem mX9_latestKind_B5 {X : Cx} {E : Ev} {l : Launch} {K : List Sh} {x1 : Int32} {x2 : Int32} {x3 : Int32} {x4 : Int32} {M : Mem} (hL : nq_atModel E K) (hX : nq_OK X E l (nq_rm 3) cX9_latestKind 5 RX9 wsX9_latestKind) {x : (Int32 × Int32) ⊕ (Int32)} (hc : ∀ s' : Int32 × Int32, x = .inl s' → nq_G X E 5 5 [(0, .ref (nq_ad E 0)), (1, .int x1), (2, .int x2), (3, .int s'.1), (4, .int s'.2)] [] K M) (he : ∀ s' : Int32, x = .inr s' → nq_G X E 5 66 [(0, .ref (nq_ad E 0)), (3, .int s')] [] K M) (h : fX9_latestKind_B5 x1 x2 x3 x4 M = some x) : nq_G X E 5 5 [(0, .ref (nq_ad E 0)), (1, .int x1), (2, .int x2), (3, .int x3), (4, .int x4)] [] K M := by
  unfold fX9_latestKind_B5 at h
  refine nq_iload hX 4 rfl dX9_latestKind_5 ?_
  refine nq_aload_n hX rfl 0 rfl dX9_latestKind_7 ?_
  refine nq_getr (v := .ref (nq_ad E 1)) hX inX9_latestKind_9 (nq_Model_0 hL) rfl 0 (by decide) lkX9_latestKind_7 _ rfl rfl dX9_latestKind_8 ?_
  refine nq_iconst hX (v := 2) (by decide) dX9_latestKind_11 ?_
  obtain ⟨v1, e1, hi1, h⟩ := nq_agE h
  refine nq_iald hX (nq_Model_d hL) e1 hi1 dX9_latestKind_12 ?_
  refine nq_icmp_ge hX (tgt := 66) (by decide) dX9_latestKind_13 (fun c2 => ?_) (fun c2 => ?_)
  · rw [if_pos c2] at h
    refine nq_sub (lv' := [(0, .ref (nq_ad E 0)), (3, .int x3)]) [0, 3] rfl ?_
    exact he x3 (nq_sE h).symm
  · rw [if_neg c2] at h
    refine nq_aload_n hX rfl 0 rfl dX9_latestKind_16 ?_
    refine nq_iload hX 4 rfl dX9_latestKind_17 ?_
    refine nq_iload_n hX rfl 1 rfl dX9_latestKind_19 ?_
    refine nq_iload_n hX rfl 2 rfl dX9_latestKind_20 ?_
    refine nq_aload_n hX rfl 0 rfl dX9_latestKind_21 ?_
    refine nq_getr (v := .ref (nq_ad E 1)) hX inX9_latestKind_9 (nq_Model_0 hL) rfl 0 (by decide) lkX9_latestKind_7 _ rfl rfl dX9_latestKind_22 ?_
    refine nq_iconst hX (v := 0) (by decide) dX9_latestKind_25 ?_
    obtain ⟨v3, e3, hi3, h⟩ := nq_agE h
    refine nq_iald hX (nq_Model_d hL) e3 hi3 dX9_latestKind_26 ?_
    obtain ⟨v5, hc4, h⟩ := nq_bE h
    refine nq_callVi hX (tX9_hasCome hL hc4) gX9_latestKind_X9_hasCome rfl rfl dsX9_hasCome (by decide) (nq_Model_0 hL) rfl rfl (Nat.le_of_ble_eq_true rfl) dX9_latestKind_27 ?_
    refine nq_if_eq hX (tgt := 58) (by decide) dX9_latestKind_30 (fun c6 => ?_) (fun c6 => ?_)
    · rw [if_pos c6] at h
      refine nq_iload_n hX rfl 3 rfl dX9_latestKind_58 ?_
      refine nq_istore_n hX (lv' := [(3, .int x3), (0, .ref (nq_ad E 0)), (1, .int x1), (2, .int x2), (4, .int x4)]) rfl (by decide) rfl rfl dX9_latestKind_59 ?_
      obtain ⟨v7, e7, h⟩ := nq_ltE h
      refine nq_iinc hX (lv' := [(4, .int v7), (3, .int x3), (0, .ref (nq_ad E 0)), (1, .int x1), (2, .int x2)]) (j := 4) rfl (e7.trans rfl) (by decide) rfl dX9_latestKind_60 ?_
      refine nq_goto hX (tgt := 5) (by decide) dX9_latestKind_63 ?_
      refine nq_sub (lv' := [(0, .ref (nq_ad E 0)), (1, .int x1), (2, .int x2), (3, .int x3), (4, .int v7)]) [2, 3, 4, 1, 0] rfl ?_
      exact hc (x3, v7) (nq_sE h).symm
    · rw [if_neg c6] at h
      refine nq_iload_n hX rfl 3 rfl dX9_latestKind_33 ?_
      refine nq_if_lt hX (tgt := 53) (by decide) dX9_latestKind_34 (fun c8 => ?_) (fun c8 => ?_)
      · rw [if_pos c8] at h
        refine nq_iload hX 4 rfl dX9_latestKind_53 ?_
        refine nq_goto hX (tgt := 59) (by decide) dX9_latestKind_55 ?_
        refine nq_istore_n hX (lv' := [(3, .int x4), (0, .ref (nq_ad E 0)), (1, .int x1), (2, .int x2), (4, .int x4)]) rfl (by decide) rfl rfl dX9_latestKind_59 ?_
        obtain ⟨v9, e9, h⟩ := nq_ltE h
        refine nq_iinc hX (lv' := [(4, .int v9), (3, .int x4), (0, .ref (nq_ad E 0)), (1, .int x1), (2, .int x2)]) (j := 4) rfl (e9.trans rfl) (by decide) rfl dX9_latestKind_60 ?_
        refine nq_goto hX (tgt := 5) (by decide) dX9_latestKind_63 ?_
        refine nq_sub (lv' := [(0, .ref (nq_ad E 0)), (1, .int x1), (2, .int x2), (3, .int x4), (4, .int v9)]) [2, 3, 4, 1, 0] rfl ?_
        exact hc (x4, v9) (nq_sE h).symm
      · rw [if_neg c8] at h
        refine nq_aload_n hX rfl 0 rfl dX9_latestKind_37 ?_
        refine nq_iload hX 4 rfl dX9_latestKind_38 ?_
        refine nq_iconst hX (v := 5) (by decide) dX9_latestKind_40 ?_
        obtain ⟨v11, hc10, h⟩ := nq_bE h
        refine nq_callVi hX (tX9_wo hL hc10) gX9_latestKind_X9_wo rfl rfl dsX9_wo (by decide) (nq_Model_0 hL) rfl rfl (Nat.le_of_ble_eq_true rfl) dX9_latestKind_41 ?_
        refine nq_aload_n hX rfl 0 rfl dX9_latestKind_44 ?_
        refine nq_iload_n hX rfl 3 rfl dX9_latestKind_45 ?_
        refine nq_iconst hX (v := 5) (by decide) dX9_latestKind_46 ?_
        obtain ⟨v13, hc12, h⟩ := nq_bE h
        refine nq_callVi hX (tX9_wo hL hc12) gX9_latestKind_X9_wo rfl rfl dsX9_wo (by decide) (nq_Model_0 hL) rfl rfl (Nat.le_of_ble_eq_true rfl) dX9_latestKind_47 ?_
        refine nq_icmp_lt hX (tgt := 58) (by decide) dX9_latestKind_50 (fun c14 => ?_) (fun c14 => ?_)
        · rw [if_pos c14] at h
          refine nq_iload_n hX rfl 3 rfl dX9_latestKind_58 ?_
          refine nq_istore_n hX (lv' := [(3, .int x3), (0, .ref (nq_ad E 0)), (1, .int x1), (2, .int x2), (4, .int x4)]) rfl (by decide) rfl rfl dX9_latestKind_59 ?_
          obtain ⟨v15, e15, h⟩ := nq_ltE h
          refine nq_iinc hX (lv' := [(4, .int v15), (3, .int x3), (0, .ref (nq_ad E 0)), (1, .int x1), (2, .int x2)]) (j := 4) rfl (e15.trans rfl) (by decide) rfl dX9_latestKind_60 ?_
          refine nq_goto hX (tgt := 5) (by decide) dX9_latestKind_63 ?_
          refine nq_sub (lv' := [(0, .ref (nq_ad E 0)), (1, .int x1), (2, .int x2), (3, .int x3), (4, .int v15)]) [2, 3, 4, 1, 0] rfl ?_
          exact hc (x3, v15) (nq_sE h).symm
        · rw [if_neg c14] at h
          refine nq_iload hX 4 rfl dX9_latestKind_53 ?_
          refine nq_goto hX (tgt := 59) (by decide) dX9_latestKind_55 ?_
          refine nq_istore_n hX (lv' := [(3, .int x4), (0, .ref (nq_ad E 0)), (1, .int x1), (2, .int x2), (4, .int x4)]) rfl (by decide) rfl rfl dX9_latestKind_59 ?_
          obtain ⟨v16, e16, h⟩ := nq_ltE h
          refine nq_iinc hX (lv' := [(4, .int v16), (3, .int x4), (0, .ref (nq_ad E 0)), (1, .int x1), (2, .int x2)]) (j := 4) rfl (e16.trans rfl) (by decide) rfl dX9_latestKind_60 ?_
          refine nq_goto hX (tgt := 5) (by decide) dX9_latestKind_63 ?_
          refine nq_sub (lv' := [(0, .ref (nq_ad E 0)), (1, .int x1), (2, .int x2), (3, .int x4), (4, .int v16)]) [2, 3, 4, 1, 0] rfl ?_
          exact hc (x4, v16) (nq_sE h).symm
def fX9_latestKind_L66 (x3 : Int32) (M : Mem) : Option (Int32) :=
  if 0 ≤ x3 then
  ((fX9_wo x3 (0 : Int32) M).bind fun v19 =>
  some v19)
  else
  (some (9 : Int32))
set_option maxHeartbeats 4000000 in
theorem mX9_latestKind_L66 {X : Cx} {E : Ev} {l : Launch} {K : List Sh} {x3 : Int32} {M : Mem} {r : Int32} (hL : nq_atModel E K) (hX : nq_OK X E l (nq_rm 3) cX9_latestKind 5 RX9 wsX9_latestKind) (hr : nq_RT X E (some .int) (some (.int r)) K M) (h : fX9_latestKind_L66 x3 M = some r) : nq_G X E 5 66 [(0, .ref (nq_ad E 0)), (3, .int x3)] [] K M := by
  unfold fX9_latestKind_L66 at h
  refine nq_iload_n hX rfl 1 rfl dX9_latestKind_66 ?_
  refine nq_if_ge hX (tgt := 75) (by decide) dX9_latestKind_67 (fun c17 => ?_) (fun c17 => ?_)
  · rw [if_pos c17] at h
    refine nq_aload_n hX rfl 0 rfl dX9_latestKind_75 ?_
    refine nq_iload_n hX rfl 1 rfl dX9_latestKind_76 ?_
    refine nq_iconst hX (v := 0) (by decide) dX9_latestKind_77 ?_
    obtain ⟨v19, hc18, h⟩ := nq_bE h
    refine nq_callVi hX (tX9_wo hL hc18) gX9_latestKind_X9_wo rfl rfl dsX9_wo (by decide) (nq_Model_0 hL) rfl rfl (Nat.le_of_ble_eq_true rfl) dX9_latestKind_78 ?_
    obtain rfl := nq_sE1 h; exact nq_iret hX hr dX9_latestKind_81
  · rw [if_neg c17] at h
    refine nq_bipush hX (v := 9) (by decide) dX9_latestKind_70 ?_
    refine nq_goto hX (tgt := 81) (by decide) dX9_latestKind_72 ?_
    obtain rfl := nq_sE1 h; exact nq_iret hX hr dX9_latestKind_81
def fX9_latestKind_L5 (x1 : Int32) (x2 : Int32) (x3 : Int32) (x4 : Int32) (M : Mem) : Option (Int32) :=
  (nq_lp (fun s : Int32 × Int32 => fX9_latestKind_B5 x1 x2 s.1 s.2 M) nq_fuel (x3, x4)).bind (fun e => fX9_latestKind_L66 e M)
set_option maxHeartbeats 4000000 in
theorem mX9_latestKind_L5 {X : Cx} {E : Ev} {l : Launch} {K : List Sh} {x1 : Int32} {x2 : Int32} {x3 : Int32} {x4 : Int32} {M : Mem} {r : Int32} (hL : nq_atModel E K) (hX : nq_OK X E l (nq_rm 3) cX9_latestKind 5 RX9 wsX9_latestKind) (hr : nq_RT X E (some .int) (some (.int r)) K M) (h : fX9_latestKind_L5 x1 x2 x3 x4 M = some r) : nq_G X E 5 5 [(0, .ref (nq_ad E 0)), (1, .int x1), (2, .int x2), (3, .int x3), (4, .int x4)] [] K M := by
  unfold fX9_latestKind_L5 at h
  obtain ⟨e, h1, h⟩ := nq_bE h
  have key : ∀ (ex : Int32), nq_lp (fun s : Int32 × Int32 => fX9_latestKind_B5 x1 x2 s.1 s.2 M) nq_fuel (x3, x4) = some ex → (∀ e, ex = e → nq_G X E 5 66 [(0, .ref (nq_ad E 0)), (3, .int e)] [] K M) → nq_G X E 5 5 [(0, .ref (nq_ad E 0)), (1, .int x1), (2, .int x2), (3, .int ((x3, x4).1)), (4, .int ((x3, x4).2))] [] K M := by
    intro ex h1 hE
    refine nq_lpE (P := fun s : Int32 × Int32 => nq_G X E 5 5 [(0, .ref (nq_ad E 0)), (1, .int x1), (2, .int x2), (3, .int s.1), (4, .int s.2)] [] K M) (r := ex) ?_ nq_fuel (x3, x4) h1
    intro s xx hx1 hc1 he1
    exact mX9_latestKind_B5 hL hX hc1 (fun e q => hE e (he1 _ q).symm) hx1
  refine key e h1 (fun e q => ?_)
  subst q
  exact mX9_latestKind_L66 hL hX hr h
def fX9_latestKind (x1 : Int32) (x2 : Int32) (M : Mem) : Option (Int32) :=
  fX9_latestKind_L5 x1 x2 (-1 : Int32) (0 : Int32) M
set_option maxHeartbeats 4000000 in
theorem mX9_latestKind {X : Cx} {E : Ev} {l : Launch} {K : List Sh} {x1 : Int32} {x2 : Int32} {M : Mem} {r : Int32} (hL : nq_atModel E K) (hX : nq_OK X E l (nq_rm 3) cX9_latestKind 5 RX9 wsX9_latestKind) (hr : nq_RT X E (some .int) (some (.int r)) K M) (h : fX9_latestKind x1 x2 M = some r) : nq_G X E 5 0 [(0, .ref (nq_ad E 0)), (1, .int x1), (2, .int x2)] [] K M := by
  unfold fX9_latestKind at h
  refine nq_iconst hX (v := -1) (by decide) dX9_latestKind_0 ?_
  refine nq_istore_n hX (lv' := [(3, .int (-1 : Int32)), (0, .ref (nq_ad E 0)), (1, .int x1), (2, .int x2)]) rfl (by decide) rfl rfl dX9_latestKind_1 ?_
  refine nq_iconst hX (v := 0) (by decide) dX9_latestKind_2 ?_
  refine nq_istore hX (lv' := [(4, .int (0 : Int32)), (3, .int (-1 : Int32)), (0, .ref (nq_ad E 0)), (1, .int x1), (2, .int x2)]) (by decide) rfl rfl dX9_latestKind_3 ?_
  refine nq_sub (lv' := [(0, .ref (nq_ad E 0)), (1, .int x1), (2, .int x2), (3, .int (-1 : Int32)), (4, .int (0 : Int32))]) [2, 3, 4, 1, 0] rfl ?_
  exact mX9_latestKind_L5 hL hX hr h
theorem dsX9_latestKind : yX9_latestKind.cls ≠ "java/lang/invoke/MethodHandle" ∧ yX9_latestKind.cls ≠ "java/lang/invoke/VarHandle" ∧ (parseMethodDescriptor yX9_latestKind.desc).map (fun d => d.parameters.length) = some 2 := by decide +kernel
theorem tX9_latestKind {l : Launch} {E : Ev} {K : List Sh} {x1 : Int32} {x2 : Int32} {M : Mem} {r : Int32} (hL : nq_atModel E K) (h : fX9_latestKind x1 x2 M = some r) : nq_MA l E yX9_latestKind wsX9_latestKind (nq_rm 3) [.ref (nq_ad E 0), .int x1, .int x2] K M (some (.int r)) K M :=
  nq_met (own := RX9) (cc := cX9_latestKind) (maxL := 5) (ret := (some .int)) (by decide) rfl rfl (Nat.le_of_ble_eq_true rfl) (fun X hX hr => mX9_latestKind hL hX hr h)

theorem inX9_acts_9 : ∀ w ∈ u_ws RX9 TX9 23, w ∈ wsX9_acts := by
  intro w h; unfold wsX9_acts; simp only [List.mem_cons, List.mem_append]; simp only [h, true_or, or_true]
theorem lkX9_acts_7 : Cond.fieldLink RX9 7 (TX9 0).1 (TX9 0).2.1 (TX9 0).2.2.1 ∈ wsX9_acts := by decide +kernel
theorem lkX9_acts_35 : Cond.fieldLink RX9 35 (TX9 15).1 (TX9 15).2.1 (TX9 15).2.2.1 ∈ wsX9_acts := by decide +kernel
theorem mmX9_acts_c106 : Cond.constantLong RX9 106 (6) ∈ wsX9_acts := by decide +kernel
def fX9_acts (x1 : Int32) (M : Mem) : Option (Mem) :=
  (nq_ag (M 1) 1250 ((60 : Int32) + x1)).bind fun v1 =>
  (nq_dv v1 (10 : Int32)).bind fun v2 =>
  (nq_ag (M 1) 1250 ((60 : Int32) + x1)).bind fun v3 =>
  (nq_rem v3 (10 : Int32)).bind fun v4 =>
  (nq_ag (M 1) 1250 (0 : Int32)).bind fun v5 =>
  nq_b2 (fX9_stanceOf x1 v4 v5 M) fun v7 M8 =>
  (nq_as M8 9 5 (0 : Int32) v7).bind fun M9 =>
  (nq_ag (M9 1) 1250 (0 : Int32)).bind fun v10 =>
  (fX9_manyCame x1 v4 v10 M9).bind fun v12 =>
  (nq_as M9 9 5 (1 : Int32) v12).bind fun M13 =>
  (fX9_latestKind x1 v4 M13).bind fun v15 =>
  (nq_as M13 9 5 (2 : Int32) v15).bind fun M16 =>
  (nq_ag (M16 1) 1250 (0 : Int32)).bind fun v17 =>
  (nq_as M16 9 5 (3 : Int32) v17).bind fun M18 =>
  nq_b2 (fX9_gives x1 M18) fun v20 M21 =>
  (fX9_in v20.toInt64 (1 : Int64) (6 : Int64) M21).bind fun v23 =>
  if v23 = 0 then
  (some M21)
  else
  (nq_b2 (fX9_whyNot v20 (((10 : Int32) * x1) + v2) v4 M21) fun v26 M27 =>
  if v26 = 0 then
  ((fX9_sends v20 (((10 : Int32) * x1) + v2) v4 M27).bind fun M30 =>
  some M30)
  else
  (some M27))
set_option maxHeartbeats 4000000 in
theorem mX9_acts {X : Cx} {E : Ev} {l : Launch} {K : List Sh} {x1 : Int32} {M : Mem} {M' : Mem} (hL : nq_atModel E K) (hX : nq_OK X E l (nq_rm 105) cX9_acts 5 RX9 wsX9_acts) (hr : nq_RT X E none none K M') (h : fX9_acts x1 M = some M') : nq_G X E 5 0 [(0, .ref (nq_ad E 0)), (1, .int x1)] [] K M := by
  unfold fX9_acts at h
  refine nq_aload_n hX rfl 0 rfl dX9_acts_0 ?_
  refine nq_getr (v := .ref (nq_ad E 1)) hX inX9_acts_9 (nq_Model_0 hL) rfl 0 (by decide) lkX9_acts_7 _ rfl rfl dX9_acts_1 ?_
  refine nq_bipush hX (v := 60) (by decide) dX9_acts_4 ?_
  refine nq_iload_n hX rfl 1 rfl dX9_acts_6 ?_
  refine nq_iadd hX dX9_acts_7 ?_
  obtain ⟨v1, e1, hi1, h⟩ := nq_agE h
  refine nq_iald hX (nq_Model_d hL) e1 hi1 dX9_acts_8 ?_
  refine nq_bipush hX (v := 10) (by decide) dX9_acts_9 ?_
  obtain ⟨v2, e2, hn2, h⟩ := nq_ifE h
  refine nq_idiv hX hn2 e2 dX9_acts_11 ?_
  refine nq_istore_n hX (lv' := [(2, .int v2), (0, .ref (nq_ad E 0)), (1, .int x1)]) rfl (by decide) rfl rfl dX9_acts_12 ?_
  refine nq_aload_n hX rfl 1 rfl dX9_acts_13 ?_
  refine nq_getr (v := .ref (nq_ad E 1)) hX inX9_acts_9 (nq_Model_0 hL) rfl 0 (by decide) lkX9_acts_7 _ rfl rfl dX9_acts_14 ?_
  refine nq_bipush hX (v := 60) (by decide) dX9_acts_17 ?_
  refine nq_iload_n hX rfl 2 rfl dX9_acts_19 ?_
  refine nq_iadd hX dX9_acts_20 ?_
  obtain ⟨v3, e3, hi3, h⟩ := nq_agE h
  refine nq_iald hX (nq_Model_d hL) e3 hi3 dX9_acts_21 ?_
  refine nq_bipush hX (v := 10) (by decide) dX9_acts_22 ?_
  obtain ⟨v4, e4, hn4, h⟩ := nq_ifE h
  refine nq_irem hX hn4 e4 dX9_acts_24 ?_
  refine nq_istore_n hX (lv' := [(3, .int v4), (2, .int v2), (0, .ref (nq_ad E 0)), (1, .int x1)]) rfl (by decide) rfl rfl dX9_acts_25 ?_
  refine nq_aload_n hX rfl 2 rfl dX9_acts_26 ?_
  refine nq_getr (v := .ref (nq_ad E 9)) hX inX9_acts_9 (nq_Model_0 hL) rfl 15 (by decide) lkX9_acts_35 _ rfl rfl dX9_acts_27 ?_
  refine nq_iconst hX (v := 0) (by decide) dX9_acts_30 ?_
  refine nq_aload_n hX rfl 2 rfl dX9_acts_31 ?_
  refine nq_iload_n hX rfl 3 rfl dX9_acts_32 ?_
  refine nq_iload_n hX rfl 0 rfl dX9_acts_33 ?_
  refine nq_aload_n hX rfl 2 rfl dX9_acts_34 ?_
  refine nq_getr (v := .ref (nq_ad E 1)) hX inX9_acts_9 (nq_Model_0 hL) rfl 0 (by decide) lkX9_acts_7 _ rfl rfl dX9_acts_35 ?_
  refine nq_iconst hX (v := 0) (by decide) dX9_acts_38 ?_
  obtain ⟨v5, e5, hi5, h⟩ := nq_agE h
  refine nq_iald hX (nq_Model_d hL) e5 hi5 dX9_acts_39 ?_
  obtain ⟨v7, M8, hc6, h⟩ := nq_b2E h
  refine nq_callVi hX (tX9_stanceOf hL hc6) gX9_acts_X9_stanceOf rfl rfl dsX9_stanceOf (by decide) (nq_Model_0 hL) rfl rfl (Nat.le_of_ble_eq_true rfl) dX9_acts_40 ?_
  obtain ⟨M9, e9, hi9, h⟩ := nq_asE h
  refine nq_iast hX (nq_Model_names hL) e9 hi9 dX9_acts_43 ?_
  refine nq_aload_n hX rfl 2 rfl dX9_acts_44 ?_
  refine nq_getr (v := .ref (nq_ad E 9)) hX inX9_acts_9 (nq_Model_0 hL) rfl 15 (by decide) lkX9_acts_35 _ rfl rfl dX9_acts_45 ?_
  refine nq_iconst hX (v := 1) (by decide) dX9_acts_48 ?_
  refine nq_aload_n hX rfl 2 rfl dX9_acts_49 ?_
  refine nq_iload_n hX rfl 3 rfl dX9_acts_50 ?_
  refine nq_iload_n hX rfl 0 rfl dX9_acts_51 ?_
  refine nq_aload_n hX rfl 2 rfl dX9_acts_52 ?_
  refine nq_getr (v := .ref (nq_ad E 1)) hX inX9_acts_9 (nq_Model_0 hL) rfl 0 (by decide) lkX9_acts_7 _ rfl rfl dX9_acts_53 ?_
  refine nq_iconst hX (v := 0) (by decide) dX9_acts_56 ?_
  obtain ⟨v10, e10, hi10, h⟩ := nq_agE h
  refine nq_iald hX (nq_Model_d hL) e10 hi10 dX9_acts_57 ?_
  obtain ⟨v12, hc11, h⟩ := nq_bE h
  refine nq_callVi hX (tX9_manyCame hL hc11) gX9_acts_X9_manyCame rfl rfl dsX9_manyCame (by decide) (nq_Model_0 hL) rfl rfl (Nat.le_of_ble_eq_true rfl) dX9_acts_58 ?_
  obtain ⟨M13, e13, hi13, h⟩ := nq_asE h
  refine nq_iast hX (nq_Model_names hL) e13 hi13 dX9_acts_61 ?_
  refine nq_aload_n hX rfl 2 rfl dX9_acts_62 ?_
  refine nq_getr (v := .ref (nq_ad E 9)) hX inX9_acts_9 (nq_Model_0 hL) rfl 15 (by decide) lkX9_acts_35 _ rfl rfl dX9_acts_63 ?_
  refine nq_iconst hX (v := 2) (by decide) dX9_acts_66 ?_
  refine nq_aload_n hX rfl 2 rfl dX9_acts_67 ?_
  refine nq_iload_n hX rfl 3 rfl dX9_acts_68 ?_
  refine nq_iload_n hX rfl 0 rfl dX9_acts_69 ?_
  obtain ⟨v15, hc14, h⟩ := nq_bE h
  refine nq_callVi hX (tX9_latestKind hL hc14) gX9_acts_X9_latestKind rfl rfl dsX9_latestKind (by decide) (nq_Model_0 hL) rfl rfl (Nat.le_of_ble_eq_true rfl) dX9_acts_70 ?_
  obtain ⟨M16, e16, hi16, h⟩ := nq_asE h
  refine nq_iast hX (nq_Model_names hL) e16 hi16 dX9_acts_73 ?_
  refine nq_aload_n hX rfl 2 rfl dX9_acts_74 ?_
  refine nq_getr (v := .ref (nq_ad E 9)) hX inX9_acts_9 (nq_Model_0 hL) rfl 15 (by decide) lkX9_acts_35 _ rfl rfl dX9_acts_75 ?_
  refine nq_iconst hX (v := 3) (by decide) dX9_acts_78 ?_
  refine nq_aload_n hX rfl 2 rfl dX9_acts_79 ?_
  refine nq_getr (v := .ref (nq_ad E 1)) hX inX9_acts_9 (nq_Model_0 hL) rfl 0 (by decide) lkX9_acts_7 _ rfl rfl dX9_acts_80 ?_
  refine nq_iconst hX (v := 0) (by decide) dX9_acts_83 ?_
  obtain ⟨v17, e17, hi17, h⟩ := nq_agE h
  refine nq_iald hX (nq_Model_d hL) e17 hi17 dX9_acts_84 ?_
  obtain ⟨M18, e18, hi18, h⟩ := nq_asE h
  refine nq_iast hX (nq_Model_names hL) e18 hi18 dX9_acts_85 ?_
  refine nq_aload_n hX rfl 2 rfl dX9_acts_86 ?_
  refine nq_iload_n hX rfl 3 rfl dX9_acts_87 ?_
  obtain ⟨v20, M21, hc19, h⟩ := nq_b2E h
  refine nq_callVi hX (tX9_gives hL hc19) gX9_acts_X9_gives rfl rfl dsX9_gives (by decide) (nq_Model_0 hL) rfl rfl (Nat.le_of_ble_eq_true rfl) dX9_acts_88 ?_
  refine nq_istore hX (lv' := [(4, .int v20), (3, .int v4), (2, .int v2), (0, .ref (nq_ad E 0)), (1, .int x1)]) (by decide) rfl rfl dX9_acts_91 ?_
  refine nq_iload hX 0 rfl dX9_acts_93 ?_
  refine nq_i2l hX dX9_acts_95 ?_
  refine nq_lconst hX (v := 1) (by decide) dX9_acts_96 ?_
  refine nq_ldc2 hX (v := 6) mmX9_acts_c106 dX9_acts_97 ?_
  obtain ⟨v23, hc22, h⟩ := nq_bE h
  refine nq_callSi hX (tX9_in  hc22) gX9_acts_X9_in rfl rfl dsX9_in (by decide) rfl (Nat.le_of_ble_eq_true rfl) dX9_acts_100 ?_
  refine nq_if_eq hX (tgt := 135) (by decide) dX9_acts_103 (fun c24 => ?_) (fun c24 => ?_)
  · rw [if_pos c24] at h
    obtain rfl := nq_sE1 h; exact nq_vret hX hr dX9_acts_135
  · rw [if_neg c24] at h
    refine nq_aload_n hX rfl 3 rfl dX9_acts_106 ?_
    refine nq_iload hX 0 rfl dX9_acts_107 ?_
    refine nq_bipush hX (v := 10) (by decide) dX9_acts_109 ?_
    refine nq_iload_n hX rfl 4 rfl dX9_acts_111 ?_
    refine nq_imul hX dX9_acts_112 ?_
    refine nq_iload_n hX rfl 2 rfl dX9_acts_113 ?_
    refine nq_iadd hX dX9_acts_114 ?_
    refine nq_iload_n hX rfl 1 rfl dX9_acts_115 ?_
    obtain ⟨v26, M27, hc25, h⟩ := nq_b2E h
    refine nq_callVi hX (tX9_whyNot hL hc25) gX9_acts_X9_whyNot rfl rfl dsX9_whyNot (by decide) (nq_Model_0 hL) rfl rfl (Nat.le_of_ble_eq_true rfl) dX9_acts_116 ?_
    refine nq_if_ne hX (tgt := 135) (by decide) dX9_acts_119 (fun c28 => ?_) (fun c28 => ?_)
    · rw [if_pos c28] at h
      refine nq_aload_n hX rfl 3 rfl dX9_acts_122 ?_
      refine nq_iload hX 0 rfl dX9_acts_123 ?_
      refine nq_bipush hX (v := 10) (by decide) dX9_acts_125 ?_
      refine nq_iload_n hX rfl 4 rfl dX9_acts_127 ?_
      refine nq_imul hX dX9_acts_128 ?_
      refine nq_iload_n hX rfl 2 rfl dX9_acts_129 ?_
      refine nq_iadd hX dX9_acts_130 ?_
      refine nq_iload_n hX rfl 1 rfl dX9_acts_131 ?_
      obtain ⟨M30, hc29, h⟩ := nq_bE h
      refine nq_callVv hX (tX9_sends hL hc29) gX9_acts_X9_sends rfl rfl dsX9_sends (by decide) (nq_Model_0 hL) rfl rfl (Nat.le_of_ble_eq_true rfl) dX9_acts_132 ?_
      obtain rfl := nq_sE1 h; exact nq_vret hX hr dX9_acts_135
    · rw [if_neg c28] at h
      obtain rfl := nq_sE1 h; exact nq_vret hX hr dX9_acts_135
theorem dsX9_acts : yX9_acts.cls ≠ "java/lang/invoke/MethodHandle" ∧ yX9_acts.cls ≠ "java/lang/invoke/VarHandle" ∧ (parseMethodDescriptor yX9_acts.desc).map (fun d => d.parameters.length) = some 1 := by decide +kernel
theorem tX9_acts {l : Launch} {E : Ev} {K : List Sh} {x1 : Int32} {M : Mem} {M' : Mem} (hL : nq_atModel E K) (h : fX9_acts x1 M = some M') : nq_MA l E yX9_acts wsX9_acts (nq_rm 105) [.ref (nq_ad E 0), .int x1] K M none K M' :=
  nq_met (own := RX9) (cc := cX9_acts) (maxL := 5) (ret := none) (by decide) rfl rfl (Nat.le_of_ble_eq_true rfl) (fun X hX hr => mX9_acts hL hX hr h)

theorem mmX9_live_c250 : Cond.constantLong RX9 250 (50) ∈ wsX9_live := by decide +kernel
theorem inX9_live_9 : ∀ w ∈ u_ws RX9 TX9 23, w ∈ wsX9_live := by
  intro w h; unfold wsX9_live; simp only [List.mem_cons, List.mem_append]; simp only [h, true_or, or_true]
theorem lkX9_live_7 : Cond.fieldLink RX9 7 (TX9 0).1 (TX9 0).2.1 (TX9 0).2.2.1 ∈ wsX9_live := by decide +kernel
def fX9_live_B47_40 (x1 : Int32) (x2 : Int32) (x3 : Int32) (M : Mem) : Option ((Int32 × Mem) ⊕ (Mem)) :=
  (nq_ag (M 1) 1250 (1 : Int32)).bind fun v10 =>
  if v10 ≤ x3 then
  (some (.inr M))
  else
  ((nq_ag (M 1) 1250 ((60 : Int32) + x3)).bind fun v12 =>
  if v12 < 0 then
  (nq_lt (x3 + (1 : Int32)) fun v14 =>
  some (.inl (v14, M)))
  else
  ((fX9_acts x3 M).bind fun M16 =>
  nq_lt (x3 + (1 : Int32)) fun v17 =>
  some (.inl (v17, M16))))
set_option maxHeartbeats 4000000 in
theorem mX9_live_B47_40 {X : Cx} {E : Ev} {l : Launch} {K : List Sh} {x1 : Int32} {x2 : Int32} {x3 : Int32} {M : Mem} (hL : nq_atModel E K) (hX : nq_OK X E l (nq_rm 106) cX9_live 4 RX9 wsX9_live) {x : (Int32 × Mem) ⊕ (Mem)} (hc : ∀ s' : Int32 × Mem, x = .inl s' → nq_G X E 4 47 [(0, .ref (nq_ad E 0)), (1, .int x1), (2, .int x2), (3, .int s'.1)] [] K s'.2) (he : ∀ s' : Mem, x = .inr s' → nq_G X E 4 80 [(0, .ref (nq_ad E 0)), (1, .int x1), (2, .int x2)] [] K s') (h : fX9_live_B47_40 x1 x2 x3 M = some x) : nq_G X E 4 47 [(0, .ref (nq_ad E 0)), (1, .int x1), (2, .int x2), (3, .int x3)] [] K M := by
  unfold fX9_live_B47_40 at h
  refine nq_iload_n hX rfl 3 rfl dX9_live_47 ?_
  refine nq_aload_n hX rfl 0 rfl dX9_live_48 ?_
  refine nq_getr (v := .ref (nq_ad E 1)) hX inX9_live_9 (nq_Model_0 hL) rfl 0 (by decide) lkX9_live_7 _ rfl rfl dX9_live_49 ?_
  refine nq_iconst hX (v := 1) (by decide) dX9_live_52 ?_
  obtain ⟨v10, e10, hi10, h⟩ := nq_agE h
  refine nq_iald hX (nq_Model_d hL) e10 hi10 dX9_live_53 ?_
  refine nq_icmp_ge hX (tgt := 80) (by decide) dX9_live_54 (fun c11 => ?_) (fun c11 => ?_)
  · rw [if_pos c11] at h
    refine nq_sub (lv' := [(0, .ref (nq_ad E 0)), (1, .int x1), (2, .int x2)]) [0, 1, 2] rfl ?_
    exact he M (nq_sE h).symm
  · rw [if_neg c11] at h
    refine nq_aload_n hX rfl 0 rfl dX9_live_57 ?_
    refine nq_getr (v := .ref (nq_ad E 1)) hX inX9_live_9 (nq_Model_0 hL) rfl 0 (by decide) lkX9_live_7 _ rfl rfl dX9_live_58 ?_
    refine nq_bipush hX (v := 60) (by decide) dX9_live_61 ?_
    refine nq_iload_n hX rfl 3 rfl dX9_live_63 ?_
    refine nq_iadd hX dX9_live_64 ?_
    obtain ⟨v12, e12, hi12, h⟩ := nq_agE h
    refine nq_iald hX (nq_Model_d hL) e12 hi12 dX9_live_65 ?_
    refine nq_if_lt hX (tgt := 74) (by decide) dX9_live_66 (fun c13 => ?_) (fun c13 => ?_)
    · rw [if_pos c13] at h
      obtain ⟨v14, e14, h⟩ := nq_ltE h
      refine nq_iinc hX (lv' := [(3, .int v14), (0, .ref (nq_ad E 0)), (1, .int x1), (2, .int x2)]) (j := 3) rfl (e14.trans rfl) (by decide) rfl dX9_live_74 ?_
      refine nq_goto hX (tgt := 47) (by decide) dX9_live_77 ?_
      refine nq_sub (lv' := [(0, .ref (nq_ad E 0)), (1, .int x1), (2, .int x2), (3, .int v14)]) [1, 2, 3, 0] rfl ?_
      exact hc (v14, M) (nq_sE h).symm
    · rw [if_neg c13] at h
      refine nq_aload_n hX rfl 0 rfl dX9_live_69 ?_
      refine nq_iload_n hX rfl 3 rfl dX9_live_70 ?_
      obtain ⟨M16, hc15, h⟩ := nq_bE h
      refine nq_callVv hX (tX9_acts hL hc15) gX9_live_X9_acts rfl rfl dsX9_acts (by decide) (nq_Model_0 hL) rfl rfl (Nat.le_of_ble_eq_true rfl) dX9_live_71 ?_
      obtain ⟨v17, e17, h⟩ := nq_ltE h
      refine nq_iinc hX (lv' := [(3, .int v17), (0, .ref (nq_ad E 0)), (1, .int x1), (2, .int x2)]) (j := 3) rfl (e17.trans rfl) (by decide) rfl dX9_live_74 ?_
      refine nq_goto hX (tgt := 47) (by decide) dX9_live_77 ?_
      refine nq_sub (lv' := [(0, .ref (nq_ad E 0)), (1, .int x1), (2, .int x2), (3, .int v17)]) [1, 2, 3, 0] rfl ?_
      exact hc (v17, M16) (nq_sE h).symm
def fX9_live_L80_40 (x1 : Int32) (x2 : Int32) (M : Mem) : Option ((Int32 × Mem) ⊕ (Mem)) :=
  (nq_ag (M 1) 1250 (0 : Int32)).bind fun v18 =>
  (nq_as M 1 1250 (0 : Int32) (v18 + (1 : Int32))).bind fun M19 =>
  nq_lt (x2 + (1 : Int32)) fun v20 =>
  some (.inl (v20, M19))
set_option maxHeartbeats 4000000 in
theorem mX9_live_L80_40 {X : Cx} {E : Ev} {l : Launch} {K : List Sh} {x1 : Int32} {x2 : Int32} {M : Mem} (hL : nq_atModel E K) (hX : nq_OK X E l (nq_rm 106) cX9_live 4 RX9 wsX9_live) {x : (Int32 × Mem) ⊕ (Mem)} (hc : ∀ s' : Int32 × Mem, x = .inl s' → nq_G X E 4 40 [(0, .ref (nq_ad E 0)), (1, .int x1), (2, .int s'.1)] [] K s'.2) (he : ∀ s' : Mem, x = .inr s' → nq_G X E 4 96 [(0, .ref (nq_ad E 0))] [] K s') (h : fX9_live_L80_40 x1 x2 M = some x) : nq_G X E 4 80 [(0, .ref (nq_ad E 0)), (1, .int x1), (2, .int x2)] [] K M := by
  unfold fX9_live_L80_40 at h
  refine nq_aload_n hX rfl 0 rfl dX9_live_80 ?_
  refine nq_getr (v := .ref (nq_ad E 1)) hX inX9_live_9 (nq_Model_0 hL) rfl 0 (by decide) lkX9_live_7 _ rfl rfl dX9_live_81 ?_
  refine nq_iconst hX (v := 0) (by decide) dX9_live_84 ?_
  refine nq_dup2 hX rfl rfl dX9_live_85 ?_
  obtain ⟨v18, e18, hi18, h⟩ := nq_agE h
  refine nq_iald hX (nq_Model_d hL) e18 hi18 dX9_live_86 ?_
  refine nq_iconst hX (v := 1) (by decide) dX9_live_87 ?_
  refine nq_iadd hX dX9_live_88 ?_
  obtain ⟨M19, e19, hi19, h⟩ := nq_asE h
  refine nq_iast hX (nq_Model_d hL) e19 hi19 dX9_live_89 ?_
  obtain ⟨v20, e20, h⟩ := nq_ltE h
  refine nq_iinc hX (lv' := [(2, .int v20), (0, .ref (nq_ad E 0)), (1, .int x1)]) (j := 2) rfl (e20.trans rfl) (by decide) rfl dX9_live_90 ?_
  refine nq_goto hX (tgt := 40) (by decide) dX9_live_93 ?_
  refine nq_sub (lv' := [(0, .ref (nq_ad E 0)), (1, .int x1), (2, .int v20)]) [1, 2, 0] rfl ?_
  exact hc (v20, M19) (nq_sE h).symm
def fX9_live_L47_40 (x1 : Int32) (x2 : Int32) (x3 : Int32) (M : Mem) : Option ((Int32 × Mem) ⊕ (Mem)) :=
  (nq_lp (fun s : Int32 × Mem => fX9_live_B47_40 x1 x2 s.1 s.2) nq_fuel (x3, M)).bind (fun e => fX9_live_L80_40 x1 x2 e)
set_option maxHeartbeats 4000000 in
theorem mX9_live_L47_40 {X : Cx} {E : Ev} {l : Launch} {K : List Sh} {x1 : Int32} {x2 : Int32} {x3 : Int32} {M : Mem} (hL : nq_atModel E K) (hX : nq_OK X E l (nq_rm 106) cX9_live 4 RX9 wsX9_live) {x : (Int32 × Mem) ⊕ (Mem)} (hc : ∀ s' : Int32 × Mem, x = .inl s' → nq_G X E 4 40 [(0, .ref (nq_ad E 0)), (1, .int x1), (2, .int s'.1)] [] K s'.2) (he : ∀ s' : Mem, x = .inr s' → nq_G X E 4 96 [(0, .ref (nq_ad E 0))] [] K s') (h : fX9_live_L47_40 x1 x2 x3 M = some x) : nq_G X E 4 47 [(0, .ref (nq_ad E 0)), (1, .int x1), (2, .int x2), (3, .int x3)] [] K M := by
  unfold fX9_live_L47_40 at h
  obtain ⟨e, h1, h⟩ := nq_bE h
  have key : ∀ (ex : Mem), nq_lp (fun s : Int32 × Mem => fX9_live_B47_40 x1 x2 s.1 s.2) nq_fuel (x3, M) = some ex → (∀ e, ex = e → nq_G X E 4 80 [(0, .ref (nq_ad E 0)), (1, .int x1), (2, .int x2)] [] K e) → nq_G X E 4 47 [(0, .ref (nq_ad E 0)), (1, .int x1), (2, .int x2), (3, .int ((x3, M).1))] [] K (x3, M).2 := by
    intro ex h1 hE
    refine nq_lpE (P := fun s : Int32 × Mem => nq_G X E 4 47 [(0, .ref (nq_ad E 0)), (1, .int x1), (2, .int x2), (3, .int s.1)] [] K s.2) (r := ex) ?_ nq_fuel (x3, M) h1
    intro s xx hx1 hc1 he1
    exact mX9_live_B47_40 hL hX hc1 (fun e q => hE e (he1 _ q).symm) hx1
  refine key e h1 (fun e q => ?_)
  subst q
  exact mX9_live_L80_40 hL hX hc he h
def fX9_live_B40 (x1 : Int32) (x2 : Int32) (M : Mem) : Option ((Int32 × Mem) ⊕ (Mem)) :=
  if x1 ≤ x2 then
  (some (.inr M))
  else
  (fX9_live_L47_40 x1 x2 (0 : Int32) M)
set_option maxHeartbeats 4000000 in
theorem mX9_live_B40 {X : Cx} {E : Ev} {l : Launch} {K : List Sh} {x1 : Int32} {x2 : Int32} {M : Mem} (hL : nq_atModel E K) (hX : nq_OK X E l (nq_rm 106) cX9_live 4 RX9 wsX9_live) {x : (Int32 × Mem) ⊕ (Mem)} (hc : ∀ s' : Int32 × Mem, x = .inl s' → nq_G X E 4 40 [(0, .ref (nq_ad E 0)), (1, .int x1), (2, .int s'.1)] [] K s'.2) (he : ∀ s' : Mem, x = .inr s' → nq_G X E 4 96 [(0, .ref (nq_ad E 0))] [] K s') (h : fX9_live_B40 x1 x2 M = some x) : nq_G X E 4 40 [(0, .ref (nq_ad E 0)), (1, .int x1), (2, .int x2)] [] K M := by
  unfold fX9_live_B40 at h
  refine nq_iload_n hX rfl 2 rfl dX9_live_40 ?_
  refine nq_iload_n hX rfl 1 rfl dX9_live_41 ?_
  refine nq_icmp_ge hX (tgt := 96) (by decide) dX9_live_42 (fun c9 => ?_) (fun c9 => ?_)
  · rw [if_pos c9] at h
    refine nq_sub (lv' := [(0, .ref (nq_ad E 0))]) [0] rfl ?_
    exact he M (nq_sE h).symm
  · rw [if_neg c9] at h
    refine nq_iconst hX (v := 0) (by decide) dX9_live_45 ?_
    refine nq_istore_n hX (lv' := [(3, .int (0 : Int32)), (0, .ref (nq_ad E 0)), (1, .int x1), (2, .int x2)]) rfl (by decide) rfl rfl dX9_live_46 ?_
    refine nq_sub (lv' := [(0, .ref (nq_ad E 0)), (1, .int x1), (2, .int x2), (3, .int (0 : Int32))]) [1, 2, 3, 0] rfl ?_
    exact mX9_live_L47_40 hL hX hc he h
def fX9_live_L96 (M : Mem) : Option (Int32 × Mem) :=
  (nq_ag (M 1) 1250 (0 : Int32)).bind fun v21 =>
  some (v21, M)
set_option maxHeartbeats 4000000 in
theorem mX9_live_L96 {X : Cx} {E : Ev} {l : Launch} {K : List Sh} {M : Mem} {r : Int32} {M' : Mem} (hL : nq_atModel E K) (hX : nq_OK X E l (nq_rm 106) cX9_live 4 RX9 wsX9_live) (hr : nq_RT X E (some .int) (some (.int r)) K M') (h : fX9_live_L96 M = some (r, M')) : nq_G X E 4 96 [(0, .ref (nq_ad E 0))] [] K M := by
  unfold fX9_live_L96 at h
  refine nq_aload_n hX rfl 0 rfl dX9_live_96 ?_
  refine nq_getr (v := .ref (nq_ad E 1)) hX inX9_live_9 (nq_Model_0 hL) rfl 0 (by decide) lkX9_live_7 _ rfl rfl dX9_live_97 ?_
  refine nq_iconst hX (v := 0) (by decide) dX9_live_100 ?_
  obtain ⟨v21, e21, hi21, h⟩ := nq_agE h
  refine nq_iald hX (nq_Model_d hL) e21 hi21 dX9_live_101 ?_
  obtain ⟨rfl, rfl⟩ := nq_sE2 h; exact nq_iret hX hr dX9_live_102
def fX9_live_L40 (x1 : Int32) (x2 : Int32) (M : Mem) : Option (Int32 × Mem) :=
  (nq_lp (fun s : Int32 × Mem => fX9_live_B40 x1 s.1 s.2) nq_fuel (x2, M)).bind (fun e => fX9_live_L96 e)
set_option maxHeartbeats 4000000 in
theorem mX9_live_L40 {X : Cx} {E : Ev} {l : Launch} {K : List Sh} {x1 : Int32} {x2 : Int32} {M : Mem} {r : Int32} {M' : Mem} (hL : nq_atModel E K) (hX : nq_OK X E l (nq_rm 106) cX9_live 4 RX9 wsX9_live) (hr : nq_RT X E (some .int) (some (.int r)) K M') (h : fX9_live_L40 x1 x2 M = some (r, M')) : nq_G X E 4 40 [(0, .ref (nq_ad E 0)), (1, .int x1), (2, .int x2)] [] K M := by
  unfold fX9_live_L40 at h
  obtain ⟨e, h1, h⟩ := nq_bE h
  have key : ∀ (ex : Mem), nq_lp (fun s : Int32 × Mem => fX9_live_B40 x1 s.1 s.2) nq_fuel (x2, M) = some ex → (∀ e, ex = e → nq_G X E 4 96 [(0, .ref (nq_ad E 0))] [] K e) → nq_G X E 4 40 [(0, .ref (nq_ad E 0)), (1, .int x1), (2, .int ((x2, M).1))] [] K (x2, M).2 := by
    intro ex h1 hE
    refine nq_lpE (P := fun s : Int32 × Mem => nq_G X E 4 40 [(0, .ref (nq_ad E 0)), (1, .int x1), (2, .int s.1)] [] K s.2) (r := ex) ?_ nq_fuel (x2, M) h1
    intro s xx hx1 hc1 he1
    exact mX9_live_B40 hL hX hc1 (fun e q => hE e (he1 _ q).symm) hx1
  refine key e h1 (fun e q => ?_)
  subst q
  exact mX9_live_L96 hL hX hr h
def fX9_live (x1 : Int32) (M : Mem) : Option (Int32 × Mem) :=
  (fX9_in x1.toInt64 (1 : Int64) (50 : Int64) M).bind fun v2 =>
  if v2 = 0 then
  (nq_b2 (fX9_finds (1 : Int32) M) fun v5 M6 =>
  some (v5, M6))
  else
  ((nq_ag (M 1) 1250 (0 : Int32)).bind fun v7 =>
  if (v7 + x1) ≤ (399 : Int32) then
  (fX9_live_L40 x1 (0 : Int32) M)
  else
  (nq_b2 (fX9_finds (3 : Int32) M) fun v23 M24 =>
  some (v23, M24)))
set_option maxHeartbeats 4000000 in
theorem mX9_live {X : Cx} {E : Ev} {l : Launch} {K : List Sh} {x1 : Int32} {M : Mem} {r : Int32} {M' : Mem} (hL : nq_atModel E K) (hX : nq_OK X E l (nq_rm 106) cX9_live 4 RX9 wsX9_live) (hr : nq_RT X E (some .int) (some (.int r)) K M') (h : fX9_live x1 M = some (r, M')) : nq_G X E 4 0 [(0, .ref (nq_ad E 0)), (1, .int x1)] [] K M := by
  unfold fX9_live at h
  refine nq_iload_n hX rfl 1 rfl dX9_live_0 ?_
  refine nq_i2l hX dX9_live_1 ?_
  refine nq_lconst hX (v := 1) (by decide) dX9_live_2 ?_
  refine nq_ldc2 hX (v := 50) mmX9_live_c250 dX9_live_3 ?_
  obtain ⟨v2, hc1, h⟩ := nq_bE h
  refine nq_callSi hX (tX9_in  hc1) gX9_live_X9_in rfl rfl dsX9_in (by decide) rfl (Nat.le_of_ble_eq_true rfl) dX9_live_6 ?_
  refine nq_if_ne hX (tgt := 18) (by decide) dX9_live_9 (fun c3 => ?_) (fun c3 => ?_)
  · rw [if_pos c3] at h
    refine nq_aload_n hX rfl 0 rfl dX9_live_12 ?_
    refine nq_iconst hX (v := 1) (by decide) dX9_live_13 ?_
    obtain ⟨v5, M6, hc4, h⟩ := nq_b2E h
    refine nq_callVi hX (tX9_finds hL hc4) gX9_live_X9_finds rfl rfl dsX9_finds (by decide) (nq_Model_0 hL) rfl rfl (Nat.le_of_ble_eq_true rfl) dX9_live_14 ?_
    obtain ⟨rfl, rfl⟩ := nq_sE2 h; exact nq_iret hX hr dX9_live_17
  · rw [if_neg c3] at h
    refine nq_aload_n hX rfl 0 rfl dX9_live_18 ?_
    refine nq_getr (v := .ref (nq_ad E 1)) hX inX9_live_9 (nq_Model_0 hL) rfl 0 (by decide) lkX9_live_7 _ rfl rfl dX9_live_19 ?_
    refine nq_iconst hX (v := 0) (by decide) dX9_live_22 ?_
    obtain ⟨v7, e7, hi7, h⟩ := nq_agE h
    refine nq_iald hX (nq_Model_d hL) e7 hi7 dX9_live_23 ?_
    refine nq_iload_n hX rfl 1 rfl dX9_live_24 ?_
    refine nq_iadd hX dX9_live_25 ?_
    refine nq_sipush hX (v := 399) (by decide) dX9_live_26 ?_
    refine nq_icmp_le hX (tgt := 38) (by decide) dX9_live_29 (fun c8 => ?_) (fun c8 => ?_)
    · rw [if_pos c8] at h
      refine nq_iconst hX (v := 0) (by decide) dX9_live_38 ?_
      refine nq_istore_n hX (lv' := [(2, .int (0 : Int32)), (0, .ref (nq_ad E 0)), (1, .int x1)]) rfl (by decide) rfl rfl dX9_live_39 ?_
      refine nq_sub (lv' := [(0, .ref (nq_ad E 0)), (1, .int x1), (2, .int (0 : Int32))]) [1, 2, 0] rfl ?_
      exact mX9_live_L40 hL hX hr h
    · rw [if_neg c8] at h
      refine nq_aload_n hX rfl 0 rfl dX9_live_32 ?_
      refine nq_iconst hX (v := 3) (by decide) dX9_live_33 ?_
      obtain ⟨v23, M24, hc22, h⟩ := nq_b2E h
      refine nq_callVi hX (tX9_finds hL hc22) gX9_live_X9_finds rfl rfl dsX9_finds (by decide) (nq_Model_0 hL) rfl rfl (Nat.le_of_ble_eq_true rfl) dX9_live_34 ?_
      obtain ⟨rfl, rfl⟩ := nq_sE2 h; exact nq_iret hX hr dX9_live_37
theorem dsX9_live : yX9_live.cls ≠ "java/lang/invoke/MethodHandle" ∧ yX9_live.cls ≠ "java/lang/invoke/VarHandle" ∧ (parseMethodDescriptor yX9_live.desc).map (fun d => d.parameters.length) = some 1 := by decide +kernel
theorem tX9_live {l : Launch} {E : Ev} {K : List Sh} {x1 : Int32} {M : Mem} {r : Int32} {M' : Mem} (hL : nq_atModel E K) (h : fX9_live x1 M = some (r, M')) : nq_MA l E yX9_live wsX9_live (nq_rm 106) [.ref (nq_ad E 0), .int x1] K M (some (.int r)) K M' :=
  nq_met (own := RX9) (cc := cX9_live) (maxL := 4) (ret := (some .int)) (by decide) rfl rfl (Nat.le_of_ble_eq_true rfl) (fun X hX hr => mX9_live hL hX hr h)

theorem mmX9_soon_c93 : Cond.constantLong RX9 93 (9) ∈ wsX9_soon := by decide +kernel
theorem inX9_soon_9 : ∀ w ∈ u_ws RX9 TX9 23, w ∈ wsX9_soon := by
  intro w h; unfold wsX9_soon; simp only [List.mem_cons, List.mem_append]; simp only [h, true_or, or_true]
theorem lkX9_soon_7 : Cond.fieldLink RX9 7 (TX9 0).1 (TX9 0).2.1 (TX9 0).2.2.1 ∈ wsX9_soon := by decide +kernel
def fX9_soon (x1 : Int32) (x2 : Int32) (x3 : Int32) (M : Mem) : Option (Int32 × Mem) :=
  (fX9_areFt x1 M).bind fun v2 =>
  if v2 = 0 then
  (nq_b2 (fX9_finds (1 : Int32) M) fun v5 M6 =>
  some (v5, M6))
  else
  ((fX9_in x2.toInt64 (1 : Int64) (9 : Int64) M).bind fun v8 =>
  if v8 = 0 then
  (nq_b2 (fX9_finds (1 : Int32) M) fun v11 M12 =>
  some (v11, M12))
  else
  ((fX9_in x3.toInt64 (0 : Int64) (9 : Int64) M).bind fun v14 =>
  if v14 = 0 then
  (nq_b2 (fX9_finds (1 : Int32) M) fun v17 M18 =>
  some (v17, M18))
  else
  ((nq_dv x1 (10 : Int32)).bind fun v19 =>
  (nq_rem x1 (10 : Int32)).bind fun v20 =>
  nq_b2 (fX9_wayOf v19 v20 M) fun v22 M23 =>
  (nq_ag (M23 1) 1250 (0 : Int32)).bind fun v24 =>
  nq_lt (((v24 + (x2 * v22)) + x3)) fun v25 =>
  if v22 < 0 then
  (nq_b2 (fX9_finds (2 : Int32) M23) fun v28 M29 =>
  some (v28, M29))
  else
  (if v25 ≤ (399 : Int32) then
  (some (v25, M23))
  else
  (nq_b2 (fX9_finds (2 : Int32) M23) fun v32 M33 =>
  some (v32, M33))))))
set_option maxHeartbeats 4000000 in
theorem mX9_soon {X : Cx} {E : Ev} {l : Launch} {K : List Sh} {x1 : Int32} {x2 : Int32} {x3 : Int32} {M : Mem} {r : Int32} {M' : Mem} (hL : nq_atModel E K) (hX : nq_OK X E l (nq_rm 5) cX9_soon 6 RX9 wsX9_soon) (hr : nq_RT X E (some .int) (some (.int r)) K M') (h : fX9_soon x1 x2 x3 M = some (r, M')) : nq_G X E 6 0 [(0, .ref (nq_ad E 0)), (1, .int x1), (2, .int x2), (3, .int x3)] [] K M := by
  unfold fX9_soon at h
  refine nq_aload_n hX rfl 0 rfl dX9_soon_0 ?_
  refine nq_iload_n hX rfl 1 rfl dX9_soon_1 ?_
  obtain ⟨v2, hc1, h⟩ := nq_bE h
  refine nq_callVi hX (tX9_areFt hL hc1) gX9_soon_X9_areFt rfl rfl dsX9_areFt (by decide) (nq_Model_0 hL) rfl rfl (Nat.le_of_ble_eq_true rfl) dX9_soon_2 ?_
  refine nq_if_eq hX (tgt := 32) (by decide) dX9_soon_5 (fun c3 => ?_) (fun c3 => ?_)
  · rw [if_pos c3] at h
    refine nq_aload_n hX rfl 0 rfl dX9_soon_32 ?_
    refine nq_iconst hX (v := 1) (by decide) dX9_soon_33 ?_
    obtain ⟨v5, M6, hc4, h⟩ := nq_b2E h
    refine nq_callVi hX (tX9_finds hL hc4) gX9_soon_X9_finds rfl rfl dsX9_finds (by decide) (nq_Model_0 hL) rfl rfl (Nat.le_of_ble_eq_true rfl) dX9_soon_34 ?_
    obtain ⟨rfl, rfl⟩ := nq_sE2 h; exact nq_iret hX hr dX9_soon_37
  · rw [if_neg c3] at h
    refine nq_iload_n hX rfl 2 rfl dX9_soon_8 ?_
    refine nq_i2l hX dX9_soon_9 ?_
    refine nq_lconst hX (v := 1) (by decide) dX9_soon_10 ?_
    refine nq_ldc2 hX (v := 9) mmX9_soon_c93 dX9_soon_11 ?_
    obtain ⟨v8, hc7, h⟩ := nq_bE h
    refine nq_callSi hX (tX9_in  hc7) gX9_soon_X9_in rfl rfl dsX9_in (by decide) rfl (Nat.le_of_ble_eq_true rfl) dX9_soon_14 ?_
    refine nq_if_eq hX (tgt := 32) (by decide) dX9_soon_17 (fun c9 => ?_) (fun c9 => ?_)
    · rw [if_pos c9] at h
      refine nq_aload_n hX rfl 0 rfl dX9_soon_32 ?_
      refine nq_iconst hX (v := 1) (by decide) dX9_soon_33 ?_
      obtain ⟨v11, M12, hc10, h⟩ := nq_b2E h
      refine nq_callVi hX (tX9_finds hL hc10) gX9_soon_X9_finds rfl rfl dsX9_finds (by decide) (nq_Model_0 hL) rfl rfl (Nat.le_of_ble_eq_true rfl) dX9_soon_34 ?_
      obtain ⟨rfl, rfl⟩ := nq_sE2 h; exact nq_iret hX hr dX9_soon_37
    · rw [if_neg c9] at h
      refine nq_iload_n hX rfl 3 rfl dX9_soon_20 ?_
      refine nq_i2l hX dX9_soon_21 ?_
      refine nq_lconst hX (v := 0) (by decide) dX9_soon_22 ?_
      refine nq_ldc2 hX (v := 9) mmX9_soon_c93 dX9_soon_23 ?_
      obtain ⟨v14, hc13, h⟩ := nq_bE h
      refine nq_callSi hX (tX9_in  hc13) gX9_soon_X9_in rfl rfl dsX9_in (by decide) rfl (Nat.le_of_ble_eq_true rfl) dX9_soon_26 ?_
      refine nq_if_ne hX (tgt := 38) (by decide) dX9_soon_29 (fun c15 => ?_) (fun c15 => ?_)
      · rw [if_pos c15] at h
        refine nq_aload_n hX rfl 0 rfl dX9_soon_32 ?_
        refine nq_iconst hX (v := 1) (by decide) dX9_soon_33 ?_
        obtain ⟨v17, M18, hc16, h⟩ := nq_b2E h
        refine nq_callVi hX (tX9_finds hL hc16) gX9_soon_X9_finds rfl rfl dsX9_finds (by decide) (nq_Model_0 hL) rfl rfl (Nat.le_of_ble_eq_true rfl) dX9_soon_34 ?_
        obtain ⟨rfl, rfl⟩ := nq_sE2 h; exact nq_iret hX hr dX9_soon_37
      · rw [if_neg c15] at h
        refine nq_aload_n hX rfl 0 rfl dX9_soon_38 ?_
        refine nq_iload_n hX rfl 1 rfl dX9_soon_39 ?_
        refine nq_bipush hX (v := 10) (by decide) dX9_soon_40 ?_
        obtain ⟨v19, e19, hn19, h⟩ := nq_ifE h
        refine nq_idiv hX hn19 e19 dX9_soon_42 ?_
        refine nq_iload_n hX rfl 1 rfl dX9_soon_43 ?_
        refine nq_bipush hX (v := 10) (by decide) dX9_soon_44 ?_
        obtain ⟨v20, e20, hn20, h⟩ := nq_ifE h
        refine nq_irem hX hn20 e20 dX9_soon_46 ?_
        obtain ⟨v22, M23, hc21, h⟩ := nq_b2E h
        refine nq_callVi hX (tX9_wayOf hL hc21) gX9_soon_X9_wayOf rfl rfl dsX9_wayOf (by decide) (nq_Model_0 hL) rfl rfl (Nat.le_of_ble_eq_true rfl) dX9_soon_47 ?_
        refine nq_istore hX (lv' := [(4, .int v22), (0, .ref (nq_ad E 0)), (1, .int x1), (2, .int x2), (3, .int x3)]) (by decide) rfl rfl dX9_soon_50 ?_
        refine nq_aload_n hX rfl 1 rfl dX9_soon_52 ?_
        refine nq_getr (v := .ref (nq_ad E 1)) hX inX9_soon_9 (nq_Model_0 hL) rfl 0 (by decide) lkX9_soon_7 _ rfl rfl dX9_soon_53 ?_
        refine nq_iconst hX (v := 0) (by decide) dX9_soon_56 ?_
        obtain ⟨v24, e24, hi24, h⟩ := nq_agE h
        refine nq_iald hX (nq_Model_d hL) e24 hi24 dX9_soon_57 ?_
        refine nq_iload_n hX rfl 3 rfl dX9_soon_58 ?_
        refine nq_iload hX 0 rfl dX9_soon_59 ?_
        refine nq_imul hX dX9_soon_61 ?_
        refine nq_iadd hX dX9_soon_62 ?_
        refine nq_iload_n hX rfl 4 rfl dX9_soon_63 ?_
        refine nq_iadd hX dX9_soon_64 ?_
        obtain ⟨v25, e25, h⟩ := nq_ltE h
        refine nq_istore hX (lv' := [(5, .int v25), (4, .int v22), (0, .ref (nq_ad E 0)), (1, .int x1), (2, .int x2), (3, .int x3)]) (by decide) e25 rfl dX9_soon_65 ?_
        refine nq_iload hX 1 rfl dX9_soon_67 ?_
        refine nq_if_lt hX (tgt := 80) (by decide) dX9_soon_69 (fun c26 => ?_) (fun c26 => ?_)
        · rw [if_pos c26] at h
          refine nq_aload_n hX rfl 2 rfl dX9_soon_80 ?_
          refine nq_iconst hX (v := 2) (by decide) dX9_soon_81 ?_
          obtain ⟨v28, M29, hc27, h⟩ := nq_b2E h
          refine nq_callVi hX (tX9_finds hL hc27) gX9_soon_X9_finds rfl rfl dsX9_finds (by decide) (nq_Model_0 hL) rfl rfl (Nat.le_of_ble_eq_true rfl) dX9_soon_82 ?_
          refine nq_goto hX (tgt := 90) (by decide) dX9_soon_85 ?_
          obtain ⟨rfl, rfl⟩ := nq_sE2 h; exact nq_iret hX hr dX9_soon_90
        · rw [if_neg c26] at h
          refine nq_iload hX 0 rfl dX9_soon_72 ?_
          refine nq_sipush hX (v := 399) (by decide) dX9_soon_74 ?_
          refine nq_icmp_le hX (tgt := 88) (by decide) dX9_soon_77 (fun c30 => ?_) (fun c30 => ?_)
          · rw [if_pos c30] at h
            refine nq_iload hX 0 rfl dX9_soon_88 ?_
            obtain ⟨rfl, rfl⟩ := nq_sE2 h; exact nq_iret hX hr dX9_soon_90
          · rw [if_neg c30] at h
            refine nq_aload_n hX rfl 2 rfl dX9_soon_80 ?_
            refine nq_iconst hX (v := 2) (by decide) dX9_soon_81 ?_
            obtain ⟨v32, M33, hc31, h⟩ := nq_b2E h
            refine nq_callVi hX (tX9_finds hL hc31) gX9_soon_X9_finds rfl rfl dsX9_finds (by decide) (nq_Model_0 hL) rfl rfl (Nat.le_of_ble_eq_true rfl) dX9_soon_82 ?_
            refine nq_goto hX (tgt := 90) (by decide) dX9_soon_85 ?_
            obtain ⟨rfl, rfl⟩ := nq_sE2 h; exact nq_iret hX hr dX9_soon_90
theorem dsX9_soon : yX9_soon.cls ≠ "java/lang/invoke/MethodHandle" ∧ yX9_soon.cls ≠ "java/lang/invoke/VarHandle" ∧ (parseMethodDescriptor yX9_soon.desc).map (fun d => d.parameters.length) = some 3 := by decide +kernel
theorem tX9_soon {l : Launch} {E : Ev} {K : List Sh} {x1 : Int32} {x2 : Int32} {x3 : Int32} {M : Mem} {r : Int32} {M' : Mem} (hL : nq_atModel E K) (h : fX9_soon x1 x2 x3 M = some (r, M')) : nq_MA l E yX9_soon wsX9_soon (nq_rm 5) [.ref (nq_ad E 0), .int x1, .int x2, .int x3] K M (some (.int r)) K M' :=
  nq_met (own := RX9) (cc := cX9_soon) (maxL := 6) (ret := (some .int)) (by decide) rfl rfl (Nat.le_of_ble_eq_true rfl) (fun X hX hr => mX9_soon hL hX hr h)

def fX9_power_B5 (x0 : Int64) (x2 : Int32) (x3 : Int64) (x5 : Int32) (M : Mem) : Option ((Int64 × Int32) ⊕ (Int64)) :=
  if x2 ≤ x5 then
  (some (.inr x3))
  else
  (nq_lt ((x3 * x0)) fun v2 =>
  nq_lt (x5 + (1 : Int32)) fun v3 =>
  some (.inl (v2, v3)))
set_option maxHeartbeats 4000000 in
theorem mX9_power_B5 {X : Cx} {E : Ev} {l : Launch} {K : List Sh} {x0 : Int64} {x2 : Int32} {x3 : Int64} {x5 : Int32} {M : Mem}  (hX : nq_OK X E l (nq_rm 1) cX9_power 6 RX9 wsX9_power) {x : (Int64 × Int32) ⊕ (Int64)} (hc : ∀ s' : Int64 × Int32, x = .inl s' → nq_G X E 6 5 [(0, .long x0), (2, .int x2), (3, .long s'.1), (5, .int s'.2)] [] K M) (he : ∀ s' : Int64, x = .inr s' → nq_G X E 6 21 [(3, .long s')] [] K M) (h : fX9_power_B5 x0 x2 x3 x5 M = some x) : nq_G X E 6 5 [(0, .long x0), (2, .int x2), (3, .long x3), (5, .int x5)] [] K M := by
  unfold fX9_power_B5 at h
  refine nq_iload hX 3 rfl dX9_power_5 ?_
  refine nq_iload_n hX rfl 1 rfl dX9_power_7 ?_
  refine nq_icmp_ge hX (tgt := 21) (by decide) dX9_power_8 (fun c1 => ?_) (fun c1 => ?_)
  · rw [if_pos c1] at h
    refine nq_sub (lv' := [(3, .long x3)]) [2] rfl ?_
    exact he x3 (nq_sE h).symm
  · rw [if_neg c1] at h
    refine nq_lload_n hX rfl 2 rfl dX9_power_11 ?_
    refine nq_lload_n hX rfl 0 rfl dX9_power_12 ?_
    refine nq_lmul hX dX9_power_13 ?_
    obtain ⟨v2, e2, h⟩ := nq_ltE h
    refine nq_lstore_n hX (lv' := [(3, .long v2), (0, .long x0), (2, .int x2), (5, .int x5)]) rfl (by decide) e2 rfl dX9_power_14 ?_
    obtain ⟨v3, e3, h⟩ := nq_ltE h
    refine nq_iinc hX (lv' := [(5, .int v3), (3, .long v2), (0, .long x0), (2, .int x2)]) (j := 3) rfl (e3.trans rfl) (by decide) rfl dX9_power_15 ?_
    refine nq_goto hX (tgt := 5) (by decide) dX9_power_18 ?_
    refine nq_sub (lv' := [(0, .long x0), (2, .int x2), (3, .long v2), (5, .int v3)]) [2, 3, 1, 0] rfl ?_
    exact hc (v2, v3) (nq_sE h).symm
def fX9_power_L21 (x3 : Int64) (M : Mem) : Option (Int64) :=
  some x3
set_option maxHeartbeats 4000000 in
theorem mX9_power_L21 {X : Cx} {E : Ev} {l : Launch} {K : List Sh} {x3 : Int64} {M : Mem} {r : Int64}  (hX : nq_OK X E l (nq_rm 1) cX9_power 6 RX9 wsX9_power) (hr : nq_RT X E (some .long) (some (.long r)) K M) (h : fX9_power_L21 x3 M = some r) : nq_G X E 6 21 [(3, .long x3)] [] K M := by
  unfold fX9_power_L21 at h
  refine nq_lload_n hX rfl 0 rfl dX9_power_21 ?_
  obtain rfl := nq_sE1 h; exact nq_lret hX hr dX9_power_22
def fX9_power_L5 (x0 : Int64) (x2 : Int32) (x3 : Int64) (x5 : Int32) (M : Mem) : Option (Int64) :=
  (nq_lp (fun s : Int64 × Int32 => fX9_power_B5 x0 x2 s.1 s.2 M) nq_fuel (x3, x5)).bind (fun e => fX9_power_L21 e M)
set_option maxHeartbeats 4000000 in
theorem mX9_power_L5 {X : Cx} {E : Ev} {l : Launch} {K : List Sh} {x0 : Int64} {x2 : Int32} {x3 : Int64} {x5 : Int32} {M : Mem} {r : Int64}  (hX : nq_OK X E l (nq_rm 1) cX9_power 6 RX9 wsX9_power) (hr : nq_RT X E (some .long) (some (.long r)) K M) (h : fX9_power_L5 x0 x2 x3 x5 M = some r) : nq_G X E 6 5 [(0, .long x0), (2, .int x2), (3, .long x3), (5, .int x5)] [] K M := by
  unfold fX9_power_L5 at h
  obtain ⟨e, h1, h⟩ := nq_bE h
  have key : ∀ (ex : Int64), nq_lp (fun s : Int64 × Int32 => fX9_power_B5 x0 x2 s.1 s.2 M) nq_fuel (x3, x5) = some ex → (∀ e, ex = e → nq_G X E 6 21 [(3, .long e)] [] K M) → nq_G X E 6 5 [(0, .long x0), (2, .int x2), (3, .long ((x3, x5).1)), (5, .int ((x3, x5).2))] [] K M := by
    intro ex h1 hE
    refine nq_lpE (P := fun s : Int64 × Int32 => nq_G X E 6 5 [(0, .long x0), (2, .int x2), (3, .long s.1), (5, .int s.2)] [] K M) (r := ex) ?_ nq_fuel (x3, x5) h1
    intro s xx hx1 hc1 he1
    exact mX9_power_B5  hX hc1 (fun e q => hE e (he1 _ q).symm) hx1
  refine key e h1 (fun e q => ?_)
  subst q
  exact mX9_power_L21  hX hr h
def fX9_power (x0 : Int64) (x2 : Int32) (M : Mem) : Option (Int64) :=
  fX9_power_L5 x0 x2 (1 : Int64) (0 : Int32) M
set_option maxHeartbeats 4000000 in
theorem mX9_power {X : Cx} {E : Ev} {l : Launch} {K : List Sh} {x0 : Int64} {x2 : Int32} {M : Mem} {r : Int64}  (hX : nq_OK X E l (nq_rm 1) cX9_power 6 RX9 wsX9_power) (hr : nq_RT X E (some .long) (some (.long r)) K M) (h : fX9_power x0 x2 M = some r) : nq_G X E 6 0 [(0, .long x0), (2, .int x2)] [] K M := by
  unfold fX9_power at h
  refine nq_lconst hX (v := 1) (by decide) dX9_power_0 ?_
  refine nq_lstore_n hX (lv' := [(3, .long (1 : Int64)), (0, .long x0), (2, .int x2)]) rfl (by decide) rfl rfl dX9_power_1 ?_
  refine nq_iconst hX (v := 0) (by decide) dX9_power_2 ?_
  refine nq_istore hX (lv' := [(5, .int (0 : Int32)), (3, .long (1 : Int64)), (0, .long x0), (2, .int x2)]) (by decide) rfl rfl dX9_power_3 ?_
  refine nq_sub (lv' := [(0, .long x0), (2, .int x2), (3, .long (1 : Int64)), (5, .int (0 : Int32))]) [2, 3, 1, 0] rfl ?_
  exact mX9_power_L5  hX hr h
theorem dsX9_power : yX9_power.cls ≠ "java/lang/invoke/MethodHandle" ∧ yX9_power.cls ≠ "java/lang/invoke/VarHandle" ∧ (parseMethodDescriptor yX9_power.desc).map (fun d => d.parameters.length) = some 2 := by decide +kernel
theorem tX9_power {l : Launch} {E : Ev} {K : List Sh} {x0 : Int64} {x2 : Int32} {M : Mem} {r : Int64}  (h : fX9_power x0 x2 M = some r) : nq_MA l E yX9_power wsX9_power (nq_rm 1) [.long x0, .int x2] K M (some (.long r)) K M :=
  nq_met (own := RX9) (cc := cX9_power) (maxL := 6) (ret := (some .long)) (by decide) rfl rfl (Nat.le_of_ble_eq_true rfl) (fun X hX hr => mX9_power  hX hr h)

