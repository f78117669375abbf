/-! printed by dec.py: Model 3 -/
theorem inX9_marksYears_9 : ∀ w ∈ u_ws RX9 TX9 23, w ∈ wsX9_marksYears := by
  intro w h; unfold wsX9_marksYears; simp only [List.mem_cons, List.mem_append]; simp only [h, true_or, or_true]
theorem lkX9_marksYears_7 : Cond.fieldLink RX9 7 (TX9 0).1 (TX9 0).2.1 (TX9 0).2.2.1 ∈ wsX9_marksYears := by decide +kernel
theorem mmX9_marksYears_c140 : Cond.constantLong RX9 140 (399) ∈ wsX9_marksYears := by decide +kernel
theorem lkX9_marksYears_31 : Cond.fieldLink RX9 31 (TX9 8).1 (TX9 8).2.1 (TX9 8).2.2.1 ∈ wsX9_marksYears := by decide +kernel
def fX9_marksYears_L65_2 (x1 : Int32) (x2 : Int32) (x3 : Int32) (M : Mem) : Option ((Int32 × Mem) ⊕ (Mem)) :=
  (fX9_wo x3 (1 : Int32) M).bind fun v15 =>
  if v15 = x1 then
  ((fX9_wo x3 (4 : Int32) M).bind fun v18 =>
  (nq_as M 8 400 v18 (1 : Int32)).bind fun M19 =>
  nq_lt (x3 + (1 : Int32)) fun v20 =>
  some (.inl (v20, M19)))
  else
  (nq_lt (x3 + (1 : Int32)) fun v21 =>
  some (.inl (v21, M)))
set_option maxHeartbeats 4000000 in
theorem mX9_marksYears_L65_2 {X : Cx} {E : Ev} {l : Launch} {K : List Sh} {x1 : Int32} {x2 : Int32} {x3 : Int32} {M : Mem} (hL : nq_atModel E K) (hX : nq_OK X E l (nq_rm 2) cX9_marksYears 5 RX9 wsX9_marksYears) {x : (Int32 × Mem) ⊕ (Mem)} (hc : ∀ s' : Int32 × Mem, x = .inl s' → nq_G X E 5 2 [(0, .ref (nq_ad E 0)), (1, .int x1), (2, .int x2), (3, .int s'.1)] [] K s'.2) (he : ∀ s' : Mem, x = .inr s' → nq_G X E 5 93 [] [] K s') (h : fX9_marksYears_L65_2 x1 x2 x3 M = some x) : nq_G X E 5 65 [(0, .ref (nq_ad E 0)), (1, .int x1), (2, .int x2), (3, .int x3)] [] K M := by
  unfold fX9_marksYears_L65_2 at h
  refine nq_aload_n hX rfl 0 rfl dX9_marksYears_65 ?_
  refine nq_iload_n hX rfl 3 rfl dX9_marksYears_66 ?_
  refine nq_iconst hX (v := 1) (by decide) dX9_marksYears_67 ?_
  obtain ⟨v15, hc14, h⟩ := nq_bE h
  refine nq_callVi hX (tX9_wo hL hc14) gX9_marksYears_X9_wo rfl rfl dsX9_wo (by decide) (nq_Model_0 hL) rfl rfl (Nat.le_of_ble_eq_true rfl) dX9_marksYears_68 ?_
  refine nq_iload_n hX rfl 1 rfl dX9_marksYears_71 ?_
  refine nq_icmp_ne hX (tgt := 87) (by decide) dX9_marksYears_72 (fun c16 => ?_) (fun c16 => ?_)
  · rw [if_pos c16] at h
    refine nq_aload_n hX rfl 0 rfl dX9_marksYears_75 ?_
    refine nq_getr (v := .ref (nq_ad E 8)) hX inX9_marksYears_9 (nq_Model_0 hL) rfl 8 (by decide) lkX9_marksYears_31 _ rfl rfl dX9_marksYears_76 ?_
    refine nq_aload_n hX rfl 0 rfl dX9_marksYears_79 ?_
    refine nq_iload_n hX rfl 3 rfl dX9_marksYears_80 ?_
    refine nq_iconst hX (v := 4) (by decide) dX9_marksYears_81 ?_
    obtain ⟨v18, hc17, h⟩ := nq_bE h
    refine nq_callVi hX (tX9_wo hL hc17) gX9_marksYears_X9_wo rfl rfl dsX9_wo (by decide) (nq_Model_0 hL) rfl rfl (Nat.le_of_ble_eq_true rfl) dX9_marksYears_82 ?_
    refine nq_iconst hX (v := 1) (by decide) dX9_marksYears_85 ?_
    obtain ⟨M19, e19, hi19, h⟩ := nq_asE h
    refine nq_zast hX (nq_Model_isYear hL) (by decide) e19 hi19 dX9_marksYears_86 ?_
    obtain ⟨v20, e20, h⟩ := nq_ltE h
    refine nq_iinc hX (lv' := [(3, .int v20), (0, .ref (nq_ad E 0)), (1, .int x1), (2, .int x2)]) (j := 3) rfl (e20.trans rfl) (by decide) rfl dX9_marksYears_87 ?_
    refine nq_goto hX (tgt := 2) (by decide) dX9_marksYears_90 ?_
    refine nq_sub (lv' := [(0, .ref (nq_ad E 0)), (1, .int x1), (2, .int x2), (3, .int v20)]) [1, 2, 3, 0] rfl ?_
    exact hc (v20, M19) (nq_sE h).symm
  · rw [if_neg c16] at h
    obtain ⟨v21, e21, h⟩ := nq_ltE h
    refine nq_iinc hX (lv' := [(3, .int v21), (0, .ref (nq_ad E 0)), (1, .int x1), (2, .int x2)]) (j := 3) rfl (e21.trans rfl) (by decide) rfl dX9_marksYears_87 ?_
    refine nq_goto hX (tgt := 2) (by decide) dX9_marksYears_90 ?_
    refine nq_sub (lv' := [(0, .ref (nq_ad E 0)), (1, .int x1), (2, .int x2), (3, .int v21)]) [1, 2, 3, 0] rfl ?_
    exact hc (v21, M) (nq_sE h).symm
def fX9_marksYears_L42_2 (x1 : Int32) (x2 : Int32) (x3 : Int32) (s0 : Int32) (M : Mem) : Option ((Int32 × Mem) ⊕ (Mem)) :=
  (fX9_in s0.toInt64 (0 : Int64) (399 : Int64) M).bind fun v12 =>
  if v12 = 0 then
  (fX9_marksYears_L65_2 x1 x2 x3 M)
  else
  ((nq_as M 8 400 s0 (1 : Int32)).bind fun M22 =>
  fX9_marksYears_L65_2 x1 x2 x3 M22)
set_option maxHeartbeats 4000000 in
theorem mX9_marksYears_L42_2 {X : Cx} {E : Ev} {l : Launch} {K : List Sh} {x1 : Int32} {x2 : Int32} {x3 : Int32} {s0 : Int32} {M : Mem} (hL : nq_atModel E K) (hX : nq_OK X E l (nq_rm 2) cX9_marksYears 5 RX9 wsX9_marksYears) {x : (Int32 × Mem) ⊕ (Mem)} (hc : ∀ s' : Int32 × Mem, x = .inl s' → nq_G X E 5 2 [(0, .ref (nq_ad E 0)), (1, .int x1), (2, .int x2), (3, .int s'.1)] [] K s'.2) (he : ∀ s' : Mem, x = .inr s' → nq_G X E 5 93 [] [] K s') (h : fX9_marksYears_L42_2 x1 x2 x3 s0 M = some x) : nq_G X E 5 42 [(0, .ref (nq_ad E 0)), (1, .int x1), (2, .int x2), (3, .int x3)] [.int s0] K M := by
  unfold fX9_marksYears_L42_2 at h
  refine nq_istore hX (lv' := [(4, .int s0), (0, .ref (nq_ad E 0)), (1, .int x1), (2, .int x2), (3, .int x3)]) (by decide) rfl rfl dX9_marksYears_42 ?_
  refine nq_iload hX 0 rfl dX9_marksYears_44 ?_
  refine nq_i2l hX dX9_marksYears_46 ?_
  refine nq_lconst hX (v := 0) (by decide) dX9_marksYears_47 ?_
  refine nq_ldc2 hX (v := 399) mmX9_marksYears_c140 dX9_marksYears_48 ?_
  obtain ⟨v12, hc11, h⟩ := nq_bE h
  refine nq_callSi hX (tX9_in  hc11) gX9_marksYears_X9_in rfl rfl dsX9_in (by decide) rfl (Nat.le_of_ble_eq_true rfl) dX9_marksYears_51 ?_
  refine nq_if_eq hX (tgt := 65) (by decide) dX9_marksYears_54 (fun c13 => ?_) (fun c13 => ?_)
  · rw [if_pos c13] at h
    refine nq_sub (lv' := [(0, .ref (nq_ad E 0)), (1, .int x1), (2, .int x2), (3, .int x3)]) [1, 2, 3, 4] rfl ?_
    exact mX9_marksYears_L65_2 hL hX hc he h
  · rw [if_neg c13] at h
    refine nq_aload_n hX rfl 1 rfl dX9_marksYears_57 ?_
    refine nq_getr (v := .ref (nq_ad E 8)) hX inX9_marksYears_9 (nq_Model_0 hL) rfl 8 (by decide) lkX9_marksYears_31 _ rfl rfl dX9_marksYears_58 ?_
    refine nq_iload hX 0 rfl dX9_marksYears_61 ?_
    refine nq_iconst hX (v := 1) (by decide) dX9_marksYears_63 ?_
    obtain ⟨M22, e22, hi22, h⟩ := nq_asE h
    refine nq_zast hX (nq_Model_isYear hL) (by decide) e22 hi22 dX9_marksYears_64 ?_
    refine nq_sub (lv' := [(0, .ref (nq_ad E 0)), (1, .int x1), (2, .int x2), (3, .int x3)]) [1, 2, 3, 4] rfl ?_
    exact mX9_marksYears_L65_2 hL hX hc he h
def fX9_marksYears_B2 (x1 : Int32) (x2 : Int32) (x3 : Int32) (M : Mem) : Option ((Int32 × Mem) ⊕ (Mem)) :=
  (nq_ag (M 1) 1250 (2 : Int32)).bind fun v1 =>
  if v1 ≤ x3 then
  (some (.inr M))
  else
  ((fX9_wo x3 (3 : Int32) M).bind fun v4 =>
  if v4 = x2 then
  ((fX9_wo x3 (2 : Int32) M).bind fun v7 =>
  if v7 = x1 then
  ((fX9_wo x3 (5 : Int32) M).bind fun v10 =>
  fX9_marksYears_L42_2 x1 x2 x3 v10 M)
  else
  (fX9_marksYears_L42_2 x1 x2 x3 (-1 : Int32) M))
  else
  (nq_lt (x3 + (1 : Int32)) fun v23 =>
  some (.inl (v23, M))))
set_option maxHeartbeats 4000000 in
theorem mX9_marksYears_B2 {X : Cx} {E : Ev} {l : Launch} {K : List Sh} {x1 : Int32} {x2 : Int32} {x3 : Int32} {M : Mem} (hL : nq_atModel E K) (hX : nq_OK X E l (nq_rm 2) cX9_marksYears 5 RX9 wsX9_marksYears) {x : (Int32 × Mem) ⊕ (Mem)} (hc : ∀ s' : Int32 × Mem, x = .inl s' → nq_G X E 5 2 [(0, .ref (nq_ad E 0)), (1, .int x1), (2, .int x2), (3, .int s'.1)] [] K s'.2) (he : ∀ s' : Mem, x = .inr s' → nq_G X E 5 93 [] [] K s') (h : fX9_marksYears_B2 x1 x2 x3 M = some x) : nq_G X E 5 2 [(0, .ref (nq_ad E 0)), (1, .int x1), (2, .int x2), (3, .int x3)] [] K M := by
  unfold fX9_marksYears_B2 at h
  refine nq_iload_n hX rfl 3 rfl dX9_marksYears_2 ?_
  refine nq_aload_n hX rfl 0 rfl dX9_marksYears_3 ?_
  refine nq_getr (v := .ref (nq_ad E 1)) hX inX9_marksYears_9 (nq_Model_0 hL) rfl 0 (by decide) lkX9_marksYears_7 _ rfl rfl dX9_marksYears_4 ?_
  refine nq_iconst hX (v := 2) (by decide) dX9_marksYears_7 ?_
  obtain ⟨v1, e1, hi1, h⟩ := nq_agE h
  refine nq_iald hX (nq_Model_d hL) e1 hi1 dX9_marksYears_8 ?_
  refine nq_icmp_ge hX (tgt := 93) (by decide) dX9_marksYears_9 (fun c2 => ?_) (fun c2 => ?_)
  · rw [if_pos c2] at h
    refine nq_sub (lv' := []) [] rfl ?_
    exact he M (nq_sE h).symm
  · rw [if_neg c2] at h
    refine nq_aload_n hX rfl 0 rfl dX9_marksYears_12 ?_
    refine nq_iload_n hX rfl 3 rfl dX9_marksYears_13 ?_
    refine nq_iconst hX (v := 3) (by decide) dX9_marksYears_14 ?_
    obtain ⟨v4, hc3, h⟩ := nq_bE h
    refine nq_callVi hX (tX9_wo hL hc3) gX9_marksYears_X9_wo rfl rfl dsX9_wo (by decide) (nq_Model_0 hL) rfl rfl (Nat.le_of_ble_eq_true rfl) dX9_marksYears_15 ?_
    refine nq_iload_n hX rfl 2 rfl dX9_marksYears_18 ?_
    refine nq_icmp_ne hX (tgt := 87) (by decide) dX9_marksYears_19 (fun c5 => ?_) (fun c5 => ?_)
    · rw [if_pos c5] at h
      refine nq_aload_n hX rfl 0 rfl dX9_marksYears_22 ?_
      refine nq_iload_n hX rfl 3 rfl dX9_marksYears_23 ?_
      refine nq_iconst hX (v := 2) (by decide) dX9_marksYears_24 ?_
      obtain ⟨v7, hc6, h⟩ := nq_bE h
      refine nq_callVi hX (tX9_wo hL hc6) gX9_marksYears_X9_wo rfl rfl dsX9_wo (by decide) (nq_Model_0 hL) rfl rfl (Nat.le_of_ble_eq_true rfl) dX9_marksYears_25 ?_
      refine nq_iload_n hX rfl 1 rfl dX9_marksYears_28 ?_
      refine nq_icmp_ne hX (tgt := 41) (by decide) dX9_marksYears_29 (fun c8 => ?_) (fun c8 => ?_)
      · rw [if_pos c8] at h
        refine nq_aload_n hX rfl 0 rfl dX9_marksYears_32 ?_
        refine nq_iload_n hX rfl 3 rfl dX9_marksYears_33 ?_
        refine nq_iconst hX (v := 5) (by decide) dX9_marksYears_34 ?_
        obtain ⟨v10, hc9, h⟩ := nq_bE h
        refine nq_callVi hX (tX9_wo hL hc9) gX9_marksYears_X9_wo rfl rfl dsX9_wo (by decide) (nq_Model_0 hL) rfl rfl (Nat.le_of_ble_eq_true rfl) dX9_marksYears_35 ?_
        refine nq_goto hX (tgt := 42) (by decide) dX9_marksYears_38 ?_
        exact mX9_marksYears_L42_2 hL hX hc he h
      · rw [if_neg c8] at h
        refine nq_iconst hX (v := -1) (by decide) dX9_marksYears_41 ?_
        exact mX9_marksYears_L42_2 hL hX hc he h
    · rw [if_neg c5] at h
      obtain ⟨v23, e23, h⟩ := nq_ltE h
      refine nq_iinc hX (lv' := [(3, .int v23), (0, .ref (nq_ad E 0)), (1, .int x1), (2, .int x2)]) (j := 3) rfl (e23.trans rfl) (by decide) rfl dX9_marksYears_87 ?_
      refine nq_goto hX (tgt := 2) (by decide) dX9_marksYears_90 ?_
      refine nq_sub (lv' := [(0, .ref (nq_ad E 0)), (1, .int x1), (2, .int x2), (3, .int v23)]) [1, 2, 3, 0] rfl ?_
      exact hc (v23, M) (nq_sE h).symm
def fX9_marksYears_L93 (M : Mem) : Option (Mem) :=
  some M
set_option maxHeartbeats 4000000 in
theorem mX9_marksYears_L93 {X : Cx} {E : Ev} {l : Launch} {K : List Sh} {M : Mem} {M' : Mem} (hL : nq_atModel E K) (hX : nq_OK X E l (nq_rm 2) cX9_marksYears 5 RX9 wsX9_marksYears) (hr : nq_RT X E none none K M') (h : fX9_marksYears_L93 M = some M') : nq_G X E 5 93 [] [] K M := by
  unfold fX9_marksYears_L93 at h
  obtain rfl := nq_sE1 h; exact nq_vret hX hr dX9_marksYears_93
def fX9_marksYears_L2 (x1 : Int32) (x2 : Int32) (x3 : Int32) (M : Mem) : Option (Mem) :=
  (nq_lp (fun s : Int32 × Mem => fX9_marksYears_B2 x1 x2 s.1 s.2) nq_fuel (x3, M)).bind (fun e => fX9_marksYears_L93 e)
set_option maxHeartbeats 4000000 in
theorem mX9_marksYears_L2 {X : Cx} {E : Ev} {l : Launch} {K : List Sh} {x1 : Int32} {x2 : Int32} {x3 : Int32} {M : Mem} {M' : Mem} (hL : nq_atModel E K) (hX : nq_OK X E l (nq_rm 2) cX9_marksYears 5 RX9 wsX9_marksYears) (hr : nq_RT X E none none K M') (h : fX9_marksYears_L2 x1 x2 x3 M = some M') : nq_G X E 5 2 [(0, .ref (nq_ad E 0)), (1, .int x1), (2, .int x2), (3, .int x3)] [] K M := by
  unfold fX9_marksYears_L2 at h
  obtain ⟨e, h1, h⟩ := nq_bE h
  have key : ∀ (ex : Mem), nq_lp (fun s : Int32 × Mem => fX9_marksYears_B2 x1 x2 s.1 s.2) nq_fuel (x3, M) = some ex → (∀ e, ex = e → nq_G X E 5 93 [] [] K e) → nq_G X E 5 2 [(0, .ref (nq_ad E 0)), (1, .int x1), (2, .int x2), (3, .int ((x3, M).1))] [] K (x3, M).2 := by
    intro ex h1 hE
    refine nq_lpE (P := fun s : Int32 × Mem => nq_G X E 5 2 [(0, .ref (nq_ad E 0)), (1, .int x1), (2, .int x2), (3, .int s.1)] [] K s.2) (r := ex) ?_ nq_fuel (x3, M) h1
    intro s xx hx1 hc1 he1
    exact mX9_marksYears_B2 hL hX hc1 (fun e q => hE e (he1 _ q).symm) hx1
  refine key e h1 (fun e q => ?_)
  subst q
  exact mX9_marksYears_L93 hL hX hr h
def fX9_marksYears (x1 : Int32) (x2 : Int32) (M : Mem) : Option (Mem) :=
  fX9_marksYears_L2 x1 x2 (0 : Int32) M
set_option maxHeartbeats 4000000 in
theorem mX9_marksYears {X : Cx} {E : Ev} {l : Launch} {K : List Sh} {x1 : Int32} {x2 : Int32} {M : Mem} {M' : Mem} (hL : nq_atModel E K) (hX : nq_OK X E l (nq_rm 2) cX9_marksYears 5 RX9 wsX9_marksYears) (hr : nq_RT X E none none K M') (h : fX9_marksYears x1 x2 M = some M') : nq_G X E 5 0 [(0, .ref (nq_ad E 0)), (1, .int x1), (2, .int x2)] [] K M := by
  unfold fX9_marksYears at h
  refine nq_iconst hX (v := 0) (by decide) dX9_marksYears_0 ?_
  refine nq_istore_n hX (lv' := [(3, .int (0 : Int32)), (0, .ref (nq_ad E 0)), (1, .int x1), (2, .int x2)]) rfl (by decide) rfl rfl dX9_marksYears_1 ?_
  refine nq_sub (lv' := [(0, .ref (nq_ad E 0)), (1, .int x1), (2, .int x2), (3, .int (0 : Int32))]) [1, 2, 3, 0] rfl ?_
  exact mX9_marksYears_L2 hL hX hr h
theorem dsX9_marksYears : yX9_marksYears.cls ≠ "java/lang/invoke/MethodHandle" ∧ yX9_marksYears.cls ≠ "java/lang/invoke/VarHandle" ∧ (parseMethodDescriptor yX9_marksYears.desc).map (fun d => d.parameters.length) = some 2 := by decide +kernel
theorem tX9_marksYears {l : Launch} {E : Ev} {K : List Sh} {x1 : Int32} {x2 : Int32} {M : Mem} {M' : Mem} (hL : nq_atModel E K) (h : fX9_marksYears x1 x2 M = some M') : nq_MA l E yX9_marksYears wsX9_marksYears (nq_rm 2) [.ref (nq_ad E 0), .int x1, .int x2] K M none K M' :=
  nq_met (own := RX9) (cc := cX9_marksYears) (maxL := 5) (ret := none) (by decide) rfl rfl (Nat.le_of_ble_eq_true rfl) (fun X hX hr => mX9_marksYears hL hX hr h)

theorem inX9_begins_9 : ∀ w ∈ u_ws RX9 TX9 23, w ∈ wsX9_begins := by
  intro w h; unfold wsX9_begins; simp only [List.mem_cons, List.mem_append]; simp only [h, true_or, or_true]
theorem lkX9_begins_31 : Cond.fieldLink RX9 31 (TX9 8).1 (TX9 8).2.1 (TX9 8).2.2.1 ∈ wsX9_begins := by decide +kernel
theorem lkX9_begins_25 : Cond.fieldLink RX9 25 (TX9 6).1 (TX9 6).2.1 (TX9 6).2.2.1 ∈ wsX9_begins := by decide +kernel
def fX9_begins_B2 (x1 : Int32) (M : Mem) : Option ((Int32 × Mem) ⊕ (Mem)) :=
  if (399 : Int32) < x1 then
  (some (.inr M))
  else
  ((nq_as M 8 400 x1 (0 : Int32)).bind fun M2 =>
  nq_lt (x1 + (1 : Int32)) fun v3 =>
  some (.inl (v3, M2)))
set_option maxHeartbeats 4000000 in
theorem mX9_begins_B2 {X : Cx} {E : Ev} {l : Launch} {K : List Sh} {x1 : Int32} {M : Mem} (hL : nq_atModel E K) (hX : nq_OK X E l (nq_rm 1) cX9_begins 2 RX9 wsX9_begins) {x : (Int32 × Mem) ⊕ (Mem)} (hc : ∀ s' : Int32 × Mem, x = .inl s' → nq_G X E 2 2 [(0, .ref (nq_ad E 0)), (1, .int s'.1)] [] K s'.2) (he : ∀ s' : Mem, x = .inr s' → nq_G X E 2 22 [(0, .ref (nq_ad E 0))] [] K s') (h : fX9_begins_B2 x1 M = some x) : nq_G X E 2 2 [(0, .ref (nq_ad E 0)), (1, .int x1)] [] K M := by
  unfold fX9_begins_B2 at h
  refine nq_iload_n hX rfl 1 rfl dX9_begins_2 ?_
  refine nq_sipush hX (v := 399) (by decide) dX9_begins_3 ?_
  refine nq_icmp_gt hX (tgt := 22) (by decide) dX9_begins_6 (fun c1 => ?_) (fun c1 => ?_)
  · rw [if_pos c1] at h
    refine nq_sub (lv' := [(0, .ref (nq_ad E 0))]) [0] rfl ?_
    exact he M (nq_sE h).symm
  · rw [if_neg c1] at h
    refine nq_aload_n hX rfl 0 rfl dX9_begins_9 ?_
    refine nq_getr (v := .ref (nq_ad E 8)) hX inX9_begins_9 (nq_Model_0 hL) rfl 8 (by decide) lkX9_begins_31 _ rfl rfl dX9_begins_10 ?_
    refine nq_iload_n hX rfl 1 rfl dX9_begins_13 ?_
    refine nq_iconst hX (v := 0) (by decide) dX9_begins_14 ?_
    obtain ⟨M2, e2, hi2, h⟩ := nq_asE h
    refine nq_zast hX (nq_Model_isYear hL) (by decide) e2 hi2 dX9_begins_15 ?_
    obtain ⟨v3, e3, h⟩ := nq_ltE h
    refine nq_iinc hX (lv' := [(1, .int v3), (0, .ref (nq_ad E 0))]) (j := 1) rfl (e3.trans rfl) (by decide) rfl dX9_begins_16 ?_
    refine nq_goto hX (tgt := 2) (by decide) dX9_begins_19 ?_
    refine nq_sub (lv' := [(0, .ref (nq_ad E 0)), (1, .int v3)]) [1, 0] rfl ?_
    exact hc (v3, M2) (nq_sE h).symm
def fX9_begins_L22 (M : Mem) : Option (Mem) :=
  (nq_as M 6 2 (0 : Int32) (0 : Int32)).bind fun M4 =>
  (nq_as M4 6 2 (1 : Int32) (0 : Int32)).bind fun M5 =>
  some M5
set_option maxHeartbeats 4000000 in
theorem mX9_begins_L22 {X : Cx} {E : Ev} {l : Launch} {K : List Sh} {M : Mem} {M' : Mem} (hL : nq_atModel E K) (hX : nq_OK X E l (nq_rm 1) cX9_begins 2 RX9 wsX9_begins) (hr : nq_RT X E none none K M') (h : fX9_begins_L22 M = some M') : nq_G X E 2 22 [(0, .ref (nq_ad E 0))] [] K M := by
  unfold fX9_begins_L22 at h
  refine nq_aload_n hX rfl 0 rfl dX9_begins_22 ?_
  refine nq_getr (v := .ref (nq_ad E 6)) hX inX9_begins_9 (nq_Model_0 hL) rfl 6 (by decide) lkX9_begins_25 _ rfl rfl dX9_begins_23 ?_
  refine nq_iconst hX (v := 0) (by decide) dX9_begins_26 ?_
  refine nq_iconst hX (v := 0) (by decide) dX9_begins_27 ?_
  obtain ⟨M4, e4, hi4, h⟩ := nq_asE h
  refine nq_iast hX (nq_Model_stanceNow hL) e4 hi4 dX9_begins_28 ?_
  refine nq_aload_n hX rfl 0 rfl dX9_begins_29 ?_
  refine nq_getr (v := .ref (nq_ad E 6)) hX inX9_begins_9 (nq_Model_0 hL) rfl 6 (by decide) lkX9_begins_25 _ rfl rfl dX9_begins_30 ?_
  refine nq_iconst hX (v := 1) (by decide) dX9_begins_33 ?_
  refine nq_iconst hX (v := 0) (by decide) dX9_begins_34 ?_
  obtain ⟨M5, e5, hi5, h⟩ := nq_asE h
  refine nq_iast hX (nq_Model_stanceNow hL) e5 hi5 dX9_begins_35 ?_
  obtain rfl := nq_sE1 h; exact nq_vret hX hr dX9_begins_36
def fX9_begins_L2 (x1 : Int32) (M : Mem) : Option (Mem) :=
  (nq_lp (fun s : Int32 × Mem => fX9_begins_B2 s.1 s.2) nq_fuel (x1, M)).bind (fun e => fX9_begins_L22 e)
set_option maxHeartbeats 4000000 in
theorem mX9_begins_L2 {X : Cx} {E : Ev} {l : Launch} {K : List Sh} {x1 : Int32} {M : Mem} {M' : Mem} (hL : nq_atModel E K) (hX : nq_OK X E l (nq_rm 1) cX9_begins 2 RX9 wsX9_begins) (hr : nq_RT X E none none K M') (h : fX9_begins_L2 x1 M = some M') : nq_G X E 2 2 [(0, .ref (nq_ad E 0)), (1, .int x1)] [] K M := by
  unfold fX9_begins_L2 at h
  obtain ⟨e, h1, h⟩ := nq_bE h
  have key : ∀ (ex : Mem), nq_lp (fun s : Int32 × Mem => fX9_begins_B2 s.1 s.2) nq_fuel (x1, M) = some ex → (∀ e, ex = e → nq_G X E 2 22 [(0, .ref (nq_ad E 0))] [] K e) → nq_G X E 2 2 [(0, .ref (nq_ad E 0)), (1, .int ((x1, M).1))] [] K (x1, M).2 := by
    intro ex h1 hE
    refine nq_lpE (P := fun s : Int32 × Mem => nq_G X E 2 2 [(0, .ref (nq_ad E 0)), (1, .int s.1)] [] K s.2) (r := ex) ?_ nq_fuel (x1, M) h1
    intro s xx hx1 hc1 he1
    exact mX9_begins_B2 hL hX hc1 (fun e q => hE e (he1 _ q).symm) hx1
  refine key e h1 (fun e q => ?_)
  subst q
  exact mX9_begins_L22 hL hX hr h
def fX9_begins (M : Mem) : Option (Mem) :=
  fX9_begins_L2 (0 : Int32) M
set_option maxHeartbeats 4000000 in
theorem mX9_begins {X : Cx} {E : Ev} {l : Launch} {K : List Sh} {M : Mem} {M' : Mem} (hL : nq_atModel E K) (hX : nq_OK X E l (nq_rm 1) cX9_begins 2 RX9 wsX9_begins) (hr : nq_RT X E none none K M') (h : fX9_begins M = some M') : nq_G X E 2 0 [(0, .ref (nq_ad E 0))] [] K M := by
  unfold fX9_begins at h
  refine nq_iconst hX (v := 0) (by decide) dX9_begins_0 ?_
  refine nq_istore_n hX (lv' := [(1, .int (0 : Int32)), (0, .ref (nq_ad E 0))]) rfl (by decide) rfl rfl dX9_begins_1 ?_
  refine nq_sub (lv' := [(0, .ref (nq_ad E 0)), (1, .int (0 : Int32))]) [1, 0] rfl ?_
  exact mX9_begins_L2 hL hX hr h
theorem dsX9_begins : yX9_begins.cls ≠ "java/lang/invoke/MethodHandle" ∧ yX9_begins.cls ≠ "java/lang/invoke/VarHandle" ∧ (parseMethodDescriptor yX9_begins.desc).map (fun d => d.parameters.length) = some 0 := by decide +kernel
theorem tX9_begins {l : Launch} {E : Ev} {K : List Sh} {M : Mem} {M' : Mem} (hL : nq_atModel E K) (h : fX9_begins M = some M') : nq_MA l E yX9_begins wsX9_begins (nq_rm 1) [.ref (nq_ad E 0)] K M none K M' :=
  nq_met (own := RX9) (cc := cX9_begins) (maxL := 2) (ret := none) (by decide) rfl rfl (Nat.le_of_ble_eq_true rfl) (fun X hX hr => mX9_begins hL hX hr h)

theorem inX9_ends_9 : ∀ w ∈ u_ws RX9 TX9 23, w ∈ wsX9_ends := by
  intro w h; unfold wsX9_ends; simp only [List.mem_cons, List.mem_append]; simp only [h, true_or, or_true]
theorem lkX9_ends_25 : Cond.fieldLink RX9 25 (TX9 6).1 (TX9 6).2.1 (TX9 6).2.2.1 ∈ wsX9_ends := by decide +kernel
theorem lkX9_ends_28 : Cond.fieldLink RX9 28 (TX9 7).1 (TX9 7).2.1 (TX9 7).2.2.1 ∈ wsX9_ends := by decide +kernel
def fX9_ends (x1 : Int32) (x2 : Int32) (M : Mem) : Option (Mem) :=
  (nq_ag (M 6) 2 x1).bind fun v1 =>
  if v1 = (1 : Int32) then
  ((nq_ag (M 7) 2 x1).bind fun v3 =>
  (fX9_isOver v3 x2 M).bind fun v5 =>
  if v5 = 0 then
  (some M)
  else
  ((nq_as M 6 2 x1 (0 : Int32)).bind fun M7 =>
  some M7))
  else
  (some M)
set_option maxHeartbeats 4000000 in
theorem mX9_ends {X : Cx} {E : Ev} {l : Launch} {K : List Sh} {x1 : Int32} {x2 : Int32} {M : Mem} {M' : Mem} (hL : nq_atModel E K) (hX : nq_OK X E l (nq_rm 3) cX9_ends 3 RX9 wsX9_ends) (hr : nq_RT X E none none K M') (h : fX9_ends x1 x2 M = some M') : nq_G X E 3 0 [(0, .ref (nq_ad E 0)), (1, .int x1), (2, .int x2)] [] K M := by
  unfold fX9_ends at h
  refine nq_aload_n hX rfl 0 rfl dX9_ends_0 ?_
  refine nq_getr (v := .ref (nq_ad E 6)) hX inX9_ends_9 (nq_Model_0 hL) rfl 6 (by decide) lkX9_ends_25 _ rfl rfl dX9_ends_1 ?_
  refine nq_iload_n hX rfl 1 rfl dX9_ends_4 ?_
  obtain ⟨v1, e1, hi1, h⟩ := nq_agE h
  refine nq_iald hX (nq_Model_stanceNow hL) e1 hi1 dX9_ends_5 ?_
  refine nq_iconst hX (v := 1) (by decide) dX9_ends_6 ?_
  refine nq_icmp_ne hX (tgt := 31) (by decide) dX9_ends_7 (fun c2 => ?_) (fun c2 => ?_)
  · rw [if_pos c2] at h
    refine nq_aload_n hX rfl 0 rfl dX9_ends_10 ?_
    refine nq_aload_n hX rfl 0 rfl dX9_ends_11 ?_
    refine nq_getr (v := .ref (nq_ad E 7)) hX inX9_ends_9 (nq_Model_0 hL) rfl 7 (by decide) lkX9_ends_28 _ rfl rfl dX9_ends_12 ?_
    refine nq_iload_n hX rfl 1 rfl dX9_ends_15 ?_
    obtain ⟨v3, e3, hi3, h⟩ := nq_agE h
    refine nq_iald hX (nq_Model_offeredBy hL) e3 hi3 dX9_ends_16 ?_
    refine nq_iload_n hX rfl 2 rfl dX9_ends_17 ?_
    obtain ⟨v5, hc4, h⟩ := nq_bE h
    refine nq_callVi hX (tX9_isOver hL hc4) gX9_ends_X9_isOver rfl rfl dsX9_isOver (by decide) (nq_Model_0 hL) rfl rfl (Nat.le_of_ble_eq_true rfl) dX9_ends_18 ?_
    refine nq_if_eq hX (tgt := 31) (by decide) dX9_ends_21 (fun c6 => ?_) (fun c6 => ?_)
    · rw [if_pos c6] at h
      obtain rfl := nq_sE1 h; exact nq_vret hX hr dX9_ends_31
    · rw [if_neg c6] at h
      refine nq_aload_n hX rfl 0 rfl dX9_ends_24 ?_
      refine nq_getr (v := .ref (nq_ad E 6)) hX inX9_ends_9 (nq_Model_0 hL) rfl 6 (by decide) lkX9_ends_25 _ rfl rfl dX9_ends_25 ?_
      refine nq_iload_n hX rfl 1 rfl dX9_ends_28 ?_
      refine nq_iconst hX (v := 0) (by decide) dX9_ends_29 ?_
      obtain ⟨M7, e7, hi7, h⟩ := nq_asE h
      refine nq_iast hX (nq_Model_stanceNow hL) e7 hi7 dX9_ends_30 ?_
      obtain rfl := nq_sE1 h; exact nq_vret hX hr dX9_ends_31
  · rw [if_neg c2] at h
    obtain rfl := nq_sE1 h; exact nq_vret hX hr dX9_ends_31
theorem dsX9_ends : yX9_ends.cls ≠ "java/lang/invoke/MethodHandle" ∧ yX9_ends.cls ≠ "java/lang/invoke/VarHandle" ∧ (parseMethodDescriptor yX9_ends.desc).map (fun d => d.parameters.length) = some 2 := by decide +kernel
theorem tX9_ends {l : Launch} {E : Ev} {K : List Sh} {x1 : Int32} {x2 : Int32} {M : Mem} {M' : Mem} (hL : nq_atModel E K) (h : fX9_ends x1 x2 M = some M') : nq_MA l E yX9_ends wsX9_ends (nq_rm 3) [.ref (nq_ad E 0), .int x1, .int x2] K M none K M' :=
  nq_met (own := RX9) (cc := cX9_ends) (maxL := 3) (ret := none) (by decide) rfl rfl (Nat.le_of_ble_eq_true rfl) (fun X hX hr => mX9_ends hL hX hr h)

theorem inX9_goesThrough_9 : ∀ w ∈ u_ws RX9 TX9 23, w ∈ wsX9_goesThrough := by
  intro w h; unfold wsX9_goesThrough; simp only [List.mem_cons, List.mem_append]; simp only [h, true_or, or_true]
theorem lkX9_goesThrough_7 : Cond.fieldLink RX9 7 (TX9 0).1 (TX9 0).2.1 (TX9 0).2.2.1 ∈ wsX9_goesThrough := by decide +kernel
def fX9_goesThrough_B10 (x1 : Int32) (x2 : Int32) (x3 : Int32) (x4 : Int32) (x5 : Int32) (M : Mem) : Option ((Int32 × Mem) ⊕ (Mem)) :=
  (nq_ag (M 1) 1250 (2 : Int32)).bind fun v3 =>
  if v3 ≤ x5 then
  (some (.inr M))
  else
  ((fX9_wo x5 (2 : Int32) M).bind fun v6 =>
  if v6 = x2 then
  ((fX9_wo x5 (3 : Int32) M).bind fun v9 =>
  if v9 = x3 then
  ((fX9_wo x5 (5 : Int32) M).bind fun v12 =>
  if v12 = x4 then
  ((fX9_comes x1 x5 M).bind fun M15 =>
  nq_lt (x5 + (1 : Int32)) fun v16 =>
  some (.inl (v16, M15)))
  else
  (nq_lt (x5 + (1 : Int32)) fun v17 =>
  some (.inl (v17, M))))
  else
  (nq_lt (x5 + (1 : Int32)) fun v18 =>
  some (.inl (v18, M))))
  else
  (nq_lt (x5 + (1 : Int32)) fun v19 =>
  some (.inl (v19, M))))
set_option maxHeartbeats 4000000 in
theorem mX9_goesThrough_B10 {X : Cx} {E : Ev} {l : Launch} {K : List Sh} {x1 : Int32} {x2 : Int32} {x3 : Int32} {x4 : Int32} {x5 : Int32} {M : Mem} (hL : nq_atModel E K) (hX : nq_OK X E l (nq_rm 5) cX9_goesThrough 6 RX9 wsX9_goesThrough) {x : (Int32 × Mem) ⊕ (Mem)} (hc : ∀ s' : Int32 × Mem, x = .inl s' → nq_G X E 6 10 [(0, .ref (nq_ad E 0)), (1, .int x1), (2, .int x2), (3, .int x3), (4, .int x4), (5, .int s'.1)] [] K s'.2) (he : ∀ s' : Mem, x = .inr s' → nq_G X E 6 68 [(0, .ref (nq_ad E 0)), (1, .int x1), (2, .int x2), (3, .int x3), (4, .int x4)] [] K s') (h : fX9_goesThrough_B10 x1 x2 x3 x4 x5 M = some x) : nq_G X E 6 10 [(0, .ref (nq_ad E 0)), (1, .int x1), (2, .int x2), (3, .int x3), (4, .int x4), (5, .int x5)] [] K M := by
  unfold fX9_goesThrough_B10 at h
  refine nq_iload hX 5 rfl dX9_goesThrough_10 ?_
  refine nq_aload_n hX rfl 0 rfl dX9_goesThrough_12 ?_
  refine nq_getr (v := .ref (nq_ad E 1)) hX inX9_goesThrough_9 (nq_Model_0 hL) rfl 0 (by decide) lkX9_goesThrough_7 _ rfl rfl dX9_goesThrough_13 ?_
  refine nq_iconst hX (v := 2) (by decide) dX9_goesThrough_16 ?_
  obtain ⟨v3, e3, hi3, h⟩ := nq_agE h
  refine nq_iald hX (nq_Model_d hL) e3 hi3 dX9_goesThrough_17 ?_
  refine nq_icmp_ge hX (tgt := 68) (by decide) dX9_goesThrough_18 (fun c4 => ?_) (fun c4 => ?_)
  · rw [if_pos c4] at h
    refine nq_sub (lv' := [(0, .ref (nq_ad E 0)), (1, .int x1), (2, .int x2), (3, .int x3), (4, .int x4)]) [0, 1, 2, 3, 4] rfl ?_
    exact he M (nq_sE h).symm
  · rw [if_neg c4] at h
    refine nq_aload_n hX rfl 0 rfl dX9_goesThrough_21 ?_
    refine nq_iload hX 5 rfl dX9_goesThrough_22 ?_
    refine nq_iconst hX (v := 2) (by decide) dX9_goesThrough_24 ?_
    obtain ⟨v6, hc5, h⟩ := nq_bE h
    refine nq_callVi hX (tX9_wo hL hc5) gX9_goesThrough_X9_wo rfl rfl dsX9_wo (by decide) (nq_Model_0 hL) rfl rfl (Nat.le_of_ble_eq_true rfl) dX9_goesThrough_25 ?_
    refine nq_iload_n hX rfl 2 rfl dX9_goesThrough_28 ?_
    refine nq_icmp_ne hX (tgt := 62) (by decide) dX9_goesThrough_29 (fun c7 => ?_) (fun c7 => ?_)
    · rw [if_pos c7] at h
      refine nq_aload_n hX rfl 0 rfl dX9_goesThrough_32 ?_
      refine nq_iload hX 5 rfl dX9_goesThrough_33 ?_
      refine nq_iconst hX (v := 3) (by decide) dX9_goesThrough_35 ?_
      obtain ⟨v9, hc8, h⟩ := nq_bE h
      refine nq_callVi hX (tX9_wo hL hc8) gX9_goesThrough_X9_wo rfl rfl dsX9_wo (by decide) (nq_Model_0 hL) rfl rfl (Nat.le_of_ble_eq_true rfl) dX9_goesThrough_36 ?_
      refine nq_iload_n hX rfl 3 rfl dX9_goesThrough_39 ?_
      refine nq_icmp_ne hX (tgt := 62) (by decide) dX9_goesThrough_40 (fun c10 => ?_) (fun c10 => ?_)
      · rw [if_pos c10] at h
        refine nq_aload_n hX rfl 0 rfl dX9_goesThrough_43 ?_
        refine nq_iload hX 5 rfl dX9_goesThrough_44 ?_
        refine nq_iconst hX (v := 5) (by decide) dX9_goesThrough_46 ?_
        obtain ⟨v12, hc11, h⟩ := nq_bE h
        refine nq_callVi hX (tX9_wo hL hc11) gX9_goesThrough_X9_wo rfl rfl dsX9_wo (by decide) (nq_Model_0 hL) rfl rfl (Nat.le_of_ble_eq_true rfl) dX9_goesThrough_47 ?_
        refine nq_iload hX 4 rfl dX9_goesThrough_50 ?_
        refine nq_icmp_ne hX (tgt := 62) (by decide) dX9_goesThrough_52 (fun c13 => ?_) (fun c13 => ?_)
        · rw [if_pos c13] at h
          refine nq_aload_n hX rfl 0 rfl dX9_goesThrough_55 ?_
          refine nq_iload_n hX rfl 1 rfl dX9_goesThrough_56 ?_
          refine nq_iload hX 5 rfl dX9_goesThrough_57 ?_
          obtain ⟨M15, hc14, h⟩ := nq_bE h
          refine nq_callVv hX (tX9_comes hL hc14) gX9_goesThrough_X9_comes rfl rfl dsX9_comes (by decide) (nq_Model_0 hL) rfl rfl (Nat.le_of_ble_eq_true rfl) dX9_goesThrough_59 ?_
          obtain ⟨v16, e16, h⟩ := nq_ltE h
          refine nq_iinc hX (lv' := [(5, .int v16), (0, .ref (nq_ad E 0)), (1, .int x1), (2, .int x2), (3, .int x3), (4, .int x4)]) (j := 5) rfl (e16.trans rfl) (by decide) rfl dX9_goesThrough_62 ?_
          refine nq_goto hX (tgt := 10) (by decide) dX9_goesThrough_65 ?_
          refine nq_sub (lv' := [(0, .ref (nq_ad E 0)), (1, .int x1), (2, .int x2), (3, .int x3), (4, .int x4), (5, .int v16)]) [1, 2, 3, 4, 5, 0] rfl ?_
          exact hc (v16, M15) (nq_sE h).symm
        · rw [if_neg c13] at h
          obtain ⟨v17, e17, h⟩ := nq_ltE h
          refine nq_iinc hX (lv' := [(5, .int v17), (0, .ref (nq_ad E 0)), (1, .int x1), (2, .int x2), (3, .int x3), (4, .int x4)]) (j := 5) rfl (e17.trans rfl) (by decide) rfl dX9_goesThrough_62 ?_
          refine nq_goto hX (tgt := 10) (by decide) dX9_goesThrough_65 ?_
          refine nq_sub (lv' := [(0, .ref (nq_ad E 0)), (1, .int x1), (2, .int x2), (3, .int x3), (4, .int x4), (5, .int v17)]) [1, 2, 3, 4, 5, 0] rfl ?_
          exact hc (v17, M) (nq_sE h).symm
      · rw [if_neg c10] at h
        obtain ⟨v18, e18, h⟩ := nq_ltE h
        refine nq_iinc hX (lv' := [(5, .int v18), (0, .ref (nq_ad E 0)), (1, .int x1), (2, .int x2), (3, .int x3), (4, .int x4)]) (j := 5) rfl (e18.trans rfl) (by decide) rfl dX9_goesThrough_62 ?_
        refine nq_goto hX (tgt := 10) (by decide) dX9_goesThrough_65 ?_
        refine nq_sub (lv' := [(0, .ref (nq_ad E 0)), (1, .int x1), (2, .int x2), (3, .int x3), (4, .int x4), (5, .int v18)]) [1, 2, 3, 4, 5, 0] rfl ?_
        exact hc (v18, M) (nq_sE h).symm
    · rw [if_neg c7] at h
      obtain ⟨v19, e19, h⟩ := nq_ltE h
      refine nq_iinc hX (lv' := [(5, .int v19), (0, .ref (nq_ad E 0)), (1, .int x1), (2, .int x2), (3, .int x3), (4, .int x4)]) (j := 5) rfl (e19.trans rfl) (by decide) rfl dX9_goesThrough_62 ?_
      refine nq_goto hX (tgt := 10) (by decide) dX9_goesThrough_65 ?_
      refine nq_sub (lv' := [(0, .ref (nq_ad E 0)), (1, .int x1), (2, .int x2), (3, .int x3), (4, .int x4), (5, .int v19)]) [1, 2, 3, 4, 5, 0] rfl ?_
      exact hc (v19, M) (nq_sE h).symm
def fX9_goesThrough_B71 (x1 : Int32) (x2 : Int32) (x3 : Int32) (x4 : Int32) (x5 : Int32) (M : Mem) : Option ((Int32 × Mem) ⊕ (Mem)) :=
  (nq_ag (M 1) 1250 (2 : Int32)).bind fun v20 =>
  if v20 ≤ x5 then
  (some (.inr M))
  else
  ((fX9_wo x5 (1 : Int32) M).bind fun v23 =>
  if v23 = x2 then
  ((fX9_wo x5 (3 : Int32) M).bind fun v26 =>
  if v26 = x3 then
  ((fX9_wo x5 (4 : Int32) M).bind fun v29 =>
  if v29 = x4 then
  ((fX9_goes x1 x5 x4 M).bind fun M32 =>
  nq_lt (x5 + (1 : Int32)) fun v33 =>
  some (.inl (v33, M32)))
  else
  (nq_lt (x5 + (1 : Int32)) fun v34 =>
  some (.inl (v34, M))))
  else
  (nq_lt (x5 + (1 : Int32)) fun v35 =>
  some (.inl (v35, M))))
  else
  (nq_lt (x5 + (1 : Int32)) fun v36 =>
  some (.inl (v36, M))))
set_option maxHeartbeats 4000000 in
theorem mX9_goesThrough_B71 {X : Cx} {E : Ev} {l : Launch} {K : List Sh} {x1 : Int32} {x2 : Int32} {x3 : Int32} {x4 : Int32} {x5 : Int32} {M : Mem} (hL : nq_atModel E K) (hX : nq_OK X E l (nq_rm 5) cX9_goesThrough 6 RX9 wsX9_goesThrough) {x : (Int32 × Mem) ⊕ (Mem)} (hc : ∀ s' : Int32 × Mem, x = .inl s' → nq_G X E 6 71 [(0, .ref (nq_ad E 0)), (1, .int x1), (2, .int x2), (3, .int x3), (4, .int x4), (5, .int s'.1)] [] K s'.2) (he : ∀ s' : Mem, x = .inr s' → nq_G X E 6 131 [] [] K s') (h : fX9_goesThrough_B71 x1 x2 x3 x4 x5 M = some x) : nq_G X E 6 71 [(0, .ref (nq_ad E 0)), (1, .int x1), (2, .int x2), (3, .int x3), (4, .int x4), (5, .int x5)] [] K M := by
  unfold fX9_goesThrough_B71 at h
  refine nq_iload hX 5 rfl dX9_goesThrough_71 ?_
  refine nq_aload_n hX rfl 0 rfl dX9_goesThrough_73 ?_
  refine nq_getr (v := .ref (nq_ad E 1)) hX inX9_goesThrough_9 (nq_Model_0 hL) rfl 0 (by decide) lkX9_goesThrough_7 _ rfl rfl dX9_goesThrough_74 ?_
  refine nq_iconst hX (v := 2) (by decide) dX9_goesThrough_77 ?_
  obtain ⟨v20, e20, hi20, h⟩ := nq_agE h
  refine nq_iald hX (nq_Model_d hL) e20 hi20 dX9_goesThrough_78 ?_
  refine nq_icmp_ge hX (tgt := 131) (by decide) dX9_goesThrough_79 (fun c21 => ?_) (fun c21 => ?_)
  · rw [if_pos c21] at h
    refine nq_sub (lv' := []) [] rfl ?_
    exact he M (nq_sE h).symm
  · rw [if_neg c21] at h
    refine nq_aload_n hX rfl 0 rfl dX9_goesThrough_82 ?_
    refine nq_iload hX 5 rfl dX9_goesThrough_83 ?_
    refine nq_iconst hX (v := 1) (by decide) dX9_goesThrough_85 ?_
    obtain ⟨v23, hc22, h⟩ := nq_bE h
    refine nq_callVi hX (tX9_wo hL hc22) gX9_goesThrough_X9_wo rfl rfl dsX9_wo (by decide) (nq_Model_0 hL) rfl rfl (Nat.le_of_ble_eq_true rfl) dX9_goesThrough_86 ?_
    refine nq_iload_n hX rfl 2 rfl dX9_goesThrough_89 ?_
    refine nq_icmp_ne hX (tgt := 125) (by decide) dX9_goesThrough_90 (fun c24 => ?_) (fun c24 => ?_)
    · rw [if_pos c24] at h
      refine nq_aload_n hX rfl 0 rfl dX9_goesThrough_93 ?_
      refine nq_iload hX 5 rfl dX9_goesThrough_94 ?_
      refine nq_iconst hX (v := 3) (by decide) dX9_goesThrough_96 ?_
      obtain ⟨v26, hc25, h⟩ := nq_bE h
      refine nq_callVi hX (tX9_wo hL hc25) gX9_goesThrough_X9_wo rfl rfl dsX9_wo (by decide) (nq_Model_0 hL) rfl rfl (Nat.le_of_ble_eq_true rfl) dX9_goesThrough_97 ?_
      refine nq_iload_n hX rfl 3 rfl dX9_goesThrough_100 ?_
      refine nq_icmp_ne hX (tgt := 125) (by decide) dX9_goesThrough_101 (fun c27 => ?_) (fun c27 => ?_)
      · rw [if_pos c27] at h
        refine nq_aload_n hX rfl 0 rfl dX9_goesThrough_104 ?_
        refine nq_iload hX 5 rfl dX9_goesThrough_105 ?_
        refine nq_iconst hX (v := 4) (by decide) dX9_goesThrough_107 ?_
        obtain ⟨v29, hc28, h⟩ := nq_bE h
        refine nq_callVi hX (tX9_wo hL hc28) gX9_goesThrough_X9_wo rfl rfl dsX9_wo (by decide) (nq_Model_0 hL) rfl rfl (Nat.le_of_ble_eq_true rfl) dX9_goesThrough_108 ?_
        refine nq_iload hX 4 rfl dX9_goesThrough_111 ?_
        refine nq_icmp_ne hX (tgt := 125) (by decide) dX9_goesThrough_113 (fun c30 => ?_) (fun c30 => ?_)
        · rw [if_pos c30] at h
          refine nq_aload_n hX rfl 0 rfl dX9_goesThrough_116 ?_
          refine nq_iload_n hX rfl 1 rfl dX9_goesThrough_117 ?_
          refine nq_iload hX 5 rfl dX9_goesThrough_118 ?_
          refine nq_iload hX 4 rfl dX9_goesThrough_120 ?_
          obtain ⟨M32, hc31, h⟩ := nq_bE h
          refine nq_callVv hX (tX9_goes hL hc31) gX9_goesThrough_X9_goes rfl rfl dsX9_goes (by decide) (nq_Model_0 hL) rfl rfl (Nat.le_of_ble_eq_true rfl) dX9_goesThrough_122 ?_
          obtain ⟨v33, e33, h⟩ := nq_ltE h
          refine nq_iinc hX (lv' := [(5, .int v33), (0, .ref (nq_ad E 0)), (1, .int x1), (2, .int x2), (3, .int x3), (4, .int x4)]) (j := 5) rfl (e33.trans rfl) (by decide) rfl dX9_goesThrough_125 ?_
          refine nq_goto hX (tgt := 71) (by decide) dX9_goesThrough_128 ?_
          refine nq_sub (lv' := [(0, .ref (nq_ad E 0)), (1, .int x1), (2, .int x2), (3, .int x3), (4, .int x4), (5, .int v33)]) [1, 2, 3, 4, 5, 0] rfl ?_
          exact hc (v33, M32) (nq_sE h).symm
        · rw [if_neg c30] at h
          obtain ⟨v34, e34, h⟩ := nq_ltE h
          refine nq_iinc hX (lv' := [(5, .int v34), (0, .ref (nq_ad E 0)), (1, .int x1), (2, .int x2), (3, .int x3), (4, .int x4)]) (j := 5) rfl (e34.trans rfl) (by decide) rfl dX9_goesThrough_125 ?_
          refine nq_goto hX (tgt := 71) (by decide) dX9_goesThrough_128 ?_
          refine nq_sub (lv' := [(0, .ref (nq_ad E 0)), (1, .int x1), (2, .int x2), (3, .int x3), (4, .int x4), (5, .int v34)]) [1, 2, 3, 4, 5, 0] rfl ?_
          exact hc (v34, M) (nq_sE h).symm
      · rw [if_neg c27] at h
        obtain ⟨v35, e35, h⟩ := nq_ltE h
        refine nq_iinc hX (lv' := [(5, .int v35), (0, .ref (nq_ad E 0)), (1, .int x1), (2, .int x2), (3, .int x3), (4, .int x4)]) (j := 5) rfl (e35.trans rfl) (by decide) rfl dX9_goesThrough_125 ?_
        refine nq_goto hX (tgt := 71) (by decide) dX9_goesThrough_128 ?_
        refine nq_sub (lv' := [(0, .ref (nq_ad E 0)), (1, .int x1), (2, .int x2), (3, .int x3), (4, .int x4), (5, .int v35)]) [1, 2, 3, 4, 5, 0] rfl ?_
        exact hc (v35, M) (nq_sE h).symm
    · rw [if_neg c24] at h
      obtain ⟨v36, e36, h⟩ := nq_ltE h
      refine nq_iinc hX (lv' := [(5, .int v36), (0, .ref (nq_ad E 0)), (1, .int x1), (2, .int x2), (3, .int x3), (4, .int x4)]) (j := 5) rfl (e36.trans rfl) (by decide) rfl dX9_goesThrough_125 ?_
      refine nq_goto hX (tgt := 71) (by decide) dX9_goesThrough_128 ?_
      refine nq_sub (lv' := [(0, .ref (nq_ad E 0)), (1, .int x1), (2, .int x2), (3, .int x3), (4, .int x4), (5, .int v36)]) [1, 2, 3, 4, 5, 0] rfl ?_
      exact hc (v36, M) (nq_sE h).symm
def fX9_goesThrough_L131 (M : Mem) : Option (Mem) :=
  some M
set_option maxHeartbeats 4000000 in
theorem mX9_goesThrough_L131 {X : Cx} {E : Ev} {l : Launch} {K : List Sh} {M : Mem} {M' : Mem} (hL : nq_atModel E K) (hX : nq_OK X E l (nq_rm 5) cX9_goesThrough 6 RX9 wsX9_goesThrough) (hr : nq_RT X E none none K M') (h : fX9_goesThrough_L131 M = some M') : nq_G X E 6 131 [] [] K M := by
  unfold fX9_goesThrough_L131 at h
  obtain rfl := nq_sE1 h; exact nq_vret hX hr dX9_goesThrough_131
def fX9_goesThrough_L71 (x1 : Int32) (x2 : Int32) (x3 : Int32) (x4 : Int32) (x5 : Int32) (M : Mem) : Option (Mem) :=
  (nq_lp (fun s : Int32 × Mem => fX9_goesThrough_B71 x1 x2 x3 x4 s.1 s.2) nq_fuel (x5, M)).bind (fun e => fX9_goesThrough_L131 e)
set_option maxHeartbeats 4000000 in
theorem mX9_goesThrough_L71 {X : Cx} {E : Ev} {l : Launch} {K : List Sh} {x1 : Int32} {x2 : Int32} {x3 : Int32} {x4 : Int32} {x5 : Int32} {M : Mem} {M' : Mem} (hL : nq_atModel E K) (hX : nq_OK X E l (nq_rm 5) cX9_goesThrough 6 RX9 wsX9_goesThrough) (hr : nq_RT X E none none K M') (h : fX9_goesThrough_L71 x1 x2 x3 x4 x5 M = some M') : nq_G X E 6 71 [(0, .ref (nq_ad E 0)), (1, .int x1), (2, .int x2), (3, .int x3), (4, .int x4), (5, .int x5)] [] K M := by
  unfold fX9_goesThrough_L71 at h
  obtain ⟨e, h1, h⟩ := nq_bE h
  have key : ∀ (ex : Mem), nq_lp (fun s : Int32 × Mem => fX9_goesThrough_B71 x1 x2 x3 x4 s.1 s.2) nq_fuel (x5, M) = some ex → (∀ e, ex = e → nq_G X E 6 131 [] [] K e) → nq_G X E 6 71 [(0, .ref (nq_ad E 0)), (1, .int x1), (2, .int x2), (3, .int x3), (4, .int x4), (5, .int ((x5, M).1))] [] K (x5, M).2 := by
    intro ex h1 hE
    refine nq_lpE (P := fun s : Int32 × Mem => nq_G X E 6 71 [(0, .ref (nq_ad E 0)), (1, .int x1), (2, .int x2), (3, .int x3), (4, .int x4), (5, .int s.1)] [] K s.2) (r := ex) ?_ nq_fuel (x5, M) h1
    intro s xx hx1 hc1 he1
    exact mX9_goesThrough_B71 hL hX hc1 (fun e q => hE e (he1 _ q).symm) hx1
  refine key e h1 (fun e q => ?_)
  subst q
  exact mX9_goesThrough_L131 hL hX hr h
def fX9_goesThrough_L68 (x1 : Int32) (x2 : Int32) (x3 : Int32) (x4 : Int32) (M : Mem) : Option (Mem) :=
  fX9_goesThrough_L71 x1 x2 x3 x4 (0 : Int32) M
set_option maxHeartbeats 4000000 in
theorem mX9_goesThrough_L68 {X : Cx} {E : Ev} {l : Launch} {K : List Sh} {x1 : Int32} {x2 : Int32} {x3 : Int32} {x4 : Int32} {M : Mem} {M' : Mem} (hL : nq_atModel E K) (hX : nq_OK X E l (nq_rm 5) cX9_goesThrough 6 RX9 wsX9_goesThrough) (hr : nq_RT X E none none K M') (h : fX9_goesThrough_L68 x1 x2 x3 x4 M = some M') : nq_G X E 6 68 [(0, .ref (nq_ad E 0)), (1, .int x1), (2, .int x2), (3, .int x3), (4, .int x4)] [] K M := by
  unfold fX9_goesThrough_L68 at h
  refine nq_iconst hX (v := 0) (by decide) dX9_goesThrough_68 ?_
  refine nq_istore hX (lv' := [(5, .int (0 : Int32)), (0, .ref (nq_ad E 0)), (1, .int x1), (2, .int x2), (3, .int x3), (4, .int x4)]) (by decide) rfl rfl dX9_goesThrough_69 ?_
  refine nq_sub (lv' := [(0, .ref (nq_ad E 0)), (1, .int x1), (2, .int x2), (3, .int x3), (4, .int x4), (5, .int (0 : Int32))]) [1, 2, 3, 4, 5, 0] rfl ?_
  exact mX9_goesThrough_L71 hL hX hr h
def fX9_goesThrough_L10 (x1 : Int32) (x2 : Int32) (x3 : Int32) (x4 : Int32) (x5 : Int32) (M : Mem) : Option (Mem) :=
  (nq_lp (fun s : Int32 × Mem => fX9_goesThrough_B10 x1 x2 x3 x4 s.1 s.2) nq_fuel (x5, M)).bind (fun e => fX9_goesThrough_L68 x1 x2 x3 x4 e)
set_option maxHeartbeats 4000000 in
theorem mX9_goesThrough_L10 {X : Cx} {E : Ev} {l : Launch} {K : List Sh} {x1 : Int32} {x2 : Int32} {x3 : Int32} {x4 : Int32} {x5 : Int32} {M : Mem} {M' : Mem} (hL : nq_atModel E K) (hX : nq_OK X E l (nq_rm 5) cX9_goesThrough 6 RX9 wsX9_goesThrough) (hr : nq_RT X E none none K M') (h : fX9_goesThrough_L10 x1 x2 x3 x4 x5 M = some M') : nq_G X E 6 10 [(0, .ref (nq_ad E 0)), (1, .int x1), (2, .int x2), (3, .int x3), (4, .int x4), (5, .int x5)] [] K M := by
  unfold fX9_goesThrough_L10 at h
  obtain ⟨e, h1, h⟩ := nq_bE h
  have key : ∀ (ex : Mem), nq_lp (fun s : Int32 × Mem => fX9_goesThrough_B10 x1 x2 x3 x4 s.1 s.2) nq_fuel (x5, M) = some ex → (∀ e, ex = e → nq_G X E 6 68 [(0, .ref (nq_ad E 0)), (1, .int x1), (2, .int x2), (3, .int x3), (4, .int x4)] [] K e) → nq_G X E 6 10 [(0, .ref (nq_ad E 0)), (1, .int x1), (2, .int x2), (3, .int x3), (4, .int x4), (5, .int ((x5, M).1))] [] K (x5, M).2 := by
    intro ex h1 hE
    refine nq_lpE (P := fun s : Int32 × Mem => nq_G X E 6 10 [(0, .ref (nq_ad E 0)), (1, .int x1), (2, .int x2), (3, .int x3), (4, .int x4), (5, .int s.1)] [] K s.2) (r := ex) ?_ nq_fuel (x5, M) h1
    intro s xx hx1 hc1 he1
    exact mX9_goesThrough_B10 hL hX hc1 (fun e q => hE e (he1 _ q).symm) hx1
  refine key e h1 (fun e q => ?_)
  subst q
  exact mX9_goesThrough_L68 hL hX hr h
def fX9_goesThrough (x1 : Int32) (x2 : Int32) (x3 : Int32) (x4 : Int32) (M : Mem) : Option (Mem) :=
  (fX9_ends x1 x4 M).bind fun M2 =>
  fX9_goesThrough_L10 x1 x2 x3 x4 (0 : Int32) M2
set_option maxHeartbeats 4000000 in
theorem mX9_goesThrough {X : Cx} {E : Ev} {l : Launch} {K : List Sh} {x1 : Int32} {x2 : Int32} {x3 : Int32} {x4 : Int32} {M : Mem} {M' : Mem} (hL : nq_atModel E K) (hX : nq_OK X E l (nq_rm 5) cX9_goesThrough 6 RX9 wsX9_goesThrough) (hr : nq_RT X E none none K M') (h : fX9_goesThrough x1 x2 x3 x4 M = some M') : nq_G X E 6 0 [(0, .ref (nq_ad E 0)), (1, .int x1), (2, .int x2), (3, .int x3), (4, .int x4)] [] K M := by
  unfold fX9_goesThrough at h
  refine nq_aload_n hX rfl 0 rfl dX9_goesThrough_0 ?_
  refine nq_iload_n hX rfl 1 rfl dX9_goesThrough_1 ?_
  refine nq_iload hX 4 rfl dX9_goesThrough_2 ?_
  obtain ⟨M2, hc1, h⟩ := nq_bE h
  refine nq_callVv hX (tX9_ends hL hc1) gX9_goesThrough_X9_ends rfl rfl dsX9_ends (by decide) (nq_Model_0 hL) rfl rfl (Nat.le_of_ble_eq_true rfl) dX9_goesThrough_4 ?_
  refine nq_iconst hX (v := 0) (by decide) dX9_goesThrough_7 ?_
  refine nq_istore hX (lv' := [(5, .int (0 : Int32)), (0, .ref (nq_ad E 0)), (1, .int x1), (2, .int x2), (3, .int x3), (4, .int x4)]) (by decide) rfl rfl dX9_goesThrough_8 ?_
  refine nq_sub (lv' := [(0, .ref (nq_ad E 0)), (1, .int x1), (2, .int x2), (3, .int x3), (4, .int x4), (5, .int (0 : Int32))]) [1, 2, 3, 4, 5, 0] rfl ?_
  exact mX9_goesThrough_L10 hL hX hr h
theorem dsX9_goesThrough : yX9_goesThrough.cls ≠ "java/lang/invoke/MethodHandle" ∧ yX9_goesThrough.cls ≠ "java/lang/invoke/VarHandle" ∧ (parseMethodDescriptor yX9_goesThrough.desc).map (fun d => d.parameters.length) = some 4 := by decide +kernel
theorem tX9_goesThrough {l : Launch} {E : Ev} {K : List Sh} {x1 : Int32} {x2 : Int32} {x3 : Int32} {x4 : Int32} {M : Mem} {M' : Mem} (hL : nq_atModel E K) (h : fX9_goesThrough x1 x2 x3 x4 M = some M') : nq_MA l E yX9_goesThrough wsX9_goesThrough (nq_rm 5) [.ref (nq_ad E 0), .int x1, .int x2, .int x3, .int x4] K M none K M' :=
  nq_met (own := RX9) (cc := cX9_goesThrough) (maxL := 6) (ret := none) (by decide) rfl rfl (Nat.le_of_ble_eq_true rfl) (fun X hX hr => mX9_goesThrough hL hX hr h)

theorem inX9_stanceOf_9 : ∀ w ∈ u_ws RX9 TX9 23, w ∈ wsX9_stanceOf := by
  intro w h; unfold wsX9_stanceOf; simp only [List.mem_cons, List.mem_append]; simp only [h, true_or, or_true]
theorem lkX9_stanceOf_31 : Cond.fieldLink RX9 31 (TX9 8).1 (TX9 8).2.1 (TX9 8).2.2.1 ∈ wsX9_stanceOf := by decide +kernel
theorem lkX9_stanceOf_25 : Cond.fieldLink RX9 25 (TX9 6).1 (TX9 6).2.1 (TX9 6).2.2.1 ∈ wsX9_stanceOf := by decide +kernel
def fX9_stanceOf_B13 (x1 : Int32) (x2 : Int32) (x3 : Int32) (x4 : Int32) (M : Mem) : Option ((Int32 × Mem) ⊕ (Mem)) :=
  if x3 < x4 then
  (some (.inr M))
  else
  ((nq_ag (M 8) 400 x4).bind fun v6 =>
  if v6 = 0 then
  (nq_lt (x4 + (1 : Int32)) fun v8 =>
  some (.inl (v8, M)))
  else
  ((fX9_goesThrough (0 : Int32) x1 x2 x4 M).bind fun M10 =>
  nq_lt (x4 + (1 : Int32)) fun v11 =>
  some (.inl (v11, M10))))
set_option maxHeartbeats 4000000 in
theorem mX9_stanceOf_B13 {X : Cx} {E : Ev} {l : Launch} {K : List Sh} {x1 : Int32} {x2 : Int32} {x3 : Int32} {x4 : Int32} {M : Mem} (hL : nq_atModel E K) (hX : nq_OK X E l (nq_rm 6) cX9_stanceOf 5 RX9 wsX9_stanceOf) {x : (Int32 × Mem) ⊕ (Mem)} (hc : ∀ s' : Int32 × Mem, x = .inl s' → nq_G X E 5 13 [(0, .ref (nq_ad E 0)), (1, .int x1), (2, .int x2), (3, .int x3), (4, .int s'.1)] [] K s'.2) (he : ∀ s' : Mem, x = .inr s' → nq_G X E 5 44 [(0, .ref (nq_ad E 0)), (3, .int x3)] [] K s') (h : fX9_stanceOf_B13 x1 x2 x3 x4 M = some x) : nq_G X E 5 13 [(0, .ref (nq_ad E 0)), (1, .int x1), (2, .int x2), (3, .int x3), (4, .int x4)] [] K M := by
  unfold fX9_stanceOf_B13 at h
  refine nq_iload hX 4 rfl dX9_stanceOf_13 ?_
  refine nq_iload_n hX rfl 3 rfl dX9_stanceOf_15 ?_
  refine nq_icmp_gt hX (tgt := 44) (by decide) dX9_stanceOf_16 (fun c5 => ?_) (fun c5 => ?_)
  · rw [if_pos c5] at h
    refine nq_sub (lv' := [(0, .ref (nq_ad E 0)), (3, .int x3)]) [0, 3] rfl ?_
    exact he M (nq_sE h).symm
  · rw [if_neg c5] at h
    refine nq_aload_n hX rfl 0 rfl dX9_stanceOf_19 ?_
    refine nq_getr (v := .ref (nq_ad E 8)) hX inX9_stanceOf_9 (nq_Model_0 hL) rfl 8 (by decide) lkX9_stanceOf_31 _ rfl rfl dX9_stanceOf_20 ?_
    refine nq_iload hX 4 rfl dX9_stanceOf_23 ?_
    obtain ⟨v6, e6, hi6, h⟩ := nq_agE h
    refine nq_zald hX (nq_Model_isYear hL) e6 hi6 dX9_stanceOf_25 ?_
    refine nq_if_eq hX (tgt := 38) (by decide) dX9_stanceOf_26 (fun c7 => ?_) (fun c7 => ?_)
    · rw [if_pos c7] at h
      obtain ⟨v8, e8, h⟩ := nq_ltE h
      refine nq_iinc hX (lv' := [(4, .int v8), (0, .ref (nq_ad E 0)), (1, .int x1), (2, .int x2), (3, .int x3)]) (j := 4) rfl (e8.trans rfl) (by decide) rfl dX9_stanceOf_38 ?_
      refine nq_goto hX (tgt := 13) (by decide) dX9_stanceOf_41 ?_
      refine nq_sub (lv' := [(0, .ref (nq_ad E 0)), (1, .int x1), (2, .int x2), (3, .int x3), (4, .int v8)]) [1, 2, 3, 4, 0] rfl ?_
      exact hc (v8, M) (nq_sE h).symm
    · rw [if_neg c7] at h
      refine nq_aload_n hX rfl 0 rfl dX9_stanceOf_29 ?_
      refine nq_iconst hX (v := 0) (by decide) dX9_stanceOf_30 ?_
      refine nq_iload_n hX rfl 1 rfl dX9_stanceOf_31 ?_
      refine nq_iload_n hX rfl 2 rfl dX9_stanceOf_32 ?_
      refine nq_iload hX 4 rfl dX9_stanceOf_33 ?_
      obtain ⟨M10, hc9, h⟩ := nq_bE h
      refine nq_callVv hX (tX9_goesThrough hL hc9) gX9_stanceOf_X9_goesThrough rfl rfl dsX9_goesThrough (by decide) (nq_Model_0 hL) rfl rfl (Nat.le_of_ble_eq_true rfl) dX9_stanceOf_35 ?_
      obtain ⟨v11, e11, h⟩ := nq_ltE h
      refine nq_iinc hX (lv' := [(4, .int v11), (0, .ref (nq_ad E 0)), (1, .int x1), (2, .int x2), (3, .int x3)]) (j := 4) rfl (e11.trans rfl) (by decide) rfl dX9_stanceOf_38 ?_
      refine nq_goto hX (tgt := 13) (by decide) dX9_stanceOf_41 ?_
      refine nq_sub (lv' := [(0, .ref (nq_ad E 0)), (1, .int x1), (2, .int x2), (3, .int x3), (4, .int v11)]) [1, 2, 3, 4, 0] rfl ?_
      exact hc (v11, M10) (nq_sE h).symm
def fX9_stanceOf_L44 (x3 : Int32) (M : Mem) : Option (Int32 × Mem) :=
  (fX9_ends (0 : Int32) x3 M).bind fun M13 =>
  (nq_ag (M13 6) 2 (0 : Int32)).bind fun v14 =>
  some (v14, M13)
set_option maxHeartbeats 4000000 in
theorem mX9_stanceOf_L44 {X : Cx} {E : Ev} {l : Launch} {K : List Sh} {x3 : Int32} {M : Mem} {r : Int32} {M' : Mem} (hL : nq_atModel E K) (hX : nq_OK X E l (nq_rm 6) cX9_stanceOf 5 RX9 wsX9_stanceOf) (hr : nq_RT X E (some .int) (some (.int r)) K M') (h : fX9_stanceOf_L44 x3 M = some (r, M')) : nq_G X E 5 44 [(0, .ref (nq_ad E 0)), (3, .int x3)] [] K M := by
  unfold fX9_stanceOf_L44 at h
  refine nq_aload_n hX rfl 0 rfl dX9_stanceOf_44 ?_
  refine nq_iconst hX (v := 0) (by decide) dX9_stanceOf_45 ?_
  refine nq_iload_n hX rfl 1 rfl dX9_stanceOf_46 ?_
  obtain ⟨M13, hc12, h⟩ := nq_bE h
  refine nq_callVv hX (tX9_ends hL hc12) gX9_stanceOf_X9_ends rfl rfl dsX9_ends (by decide) (nq_Model_0 hL) rfl rfl (Nat.le_of_ble_eq_true rfl) dX9_stanceOf_47 ?_
  refine nq_aload_n hX rfl 0 rfl dX9_stanceOf_50 ?_
  refine nq_getr (v := .ref (nq_ad E 6)) hX inX9_stanceOf_9 (nq_Model_0 hL) rfl 6 (by decide) lkX9_stanceOf_25 _ rfl rfl dX9_stanceOf_51 ?_
  refine nq_iconst hX (v := 0) (by decide) dX9_stanceOf_54 ?_
  obtain ⟨v14, e14, hi14, h⟩ := nq_agE h
  refine nq_iald hX (nq_Model_stanceNow hL) e14 hi14 dX9_stanceOf_55 ?_
  obtain ⟨rfl, rfl⟩ := nq_sE2 h; exact nq_iret hX hr dX9_stanceOf_56
def fX9_stanceOf_L13 (x1 : Int32) (x2 : Int32) (x3 : Int32) (x4 : Int32) (M : Mem) : Option (Int32 × Mem) :=
  (nq_lp (fun s : Int32 × Mem => fX9_stanceOf_B13 x1 x2 x3 s.1 s.2) nq_fuel (x4, M)).bind (fun e => fX9_stanceOf_L44 x3 e)
set_option maxHeartbeats 4000000 in
theorem mX9_stanceOf_L13 {X : Cx} {E : Ev} {l : Launch} {K : List Sh} {x1 : Int32} {x2 : Int32} {x3 : Int32} {x4 : Int32} {M : Mem} {r : Int32} {M' : Mem} (hL : nq_atModel E K) (hX : nq_OK X E l (nq_rm 6) cX9_stanceOf 5 RX9 wsX9_stanceOf) (hr : nq_RT X E (some .int) (some (.int r)) K M') (h : fX9_stanceOf_L13 x1 x2 x3 x4 M = some (r, M')) : nq_G X E 5 13 [(0, .ref (nq_ad E 0)), (1, .int x1), (2, .int x2), (3, .int x3), (4, .int x4)] [] K M := by
  unfold fX9_stanceOf_L13 at h
  obtain ⟨e, h1, h⟩ := nq_bE h
  have key : ∀ (ex : Mem), nq_lp (fun s : Int32 × Mem => fX9_stanceOf_B13 x1 x2 x3 s.1 s.2) nq_fuel (x4, M) = some ex → (∀ e, ex = e → nq_G X E 5 44 [(0, .ref (nq_ad E 0)), (3, .int x3)] [] K e) → nq_G X E 5 13 [(0, .ref (nq_ad E 0)), (1, .int x1), (2, .int x2), (3, .int x3), (4, .int ((x4, M).1))] [] K (x4, M).2 := by
    intro ex h1 hE
    refine nq_lpE (P := fun s : Int32 × Mem => nq_G X E 5 13 [(0, .ref (nq_ad E 0)), (1, .int x1), (2, .int x2), (3, .int x3), (4, .int s.1)] [] K s.2) (r := ex) ?_ nq_fuel (x4, M) h1
    intro s xx hx1 hc1 he1
    exact mX9_stanceOf_B13 hL hX hc1 (fun e q => hE e (he1 _ q).symm) hx1
  refine key e h1 (fun e q => ?_)
  subst q
  exact mX9_stanceOf_L44 hL hX hr h
def fX9_stanceOf (x1 : Int32) (x2 : Int32) (x3 : Int32) (M : Mem) : Option (Int32 × Mem) :=
  (fX9_begins  M).bind fun M2 =>
  (fX9_marksYears x1 x2 M2).bind fun M4 =>
  fX9_stanceOf_L13 x1 x2 x3 (0 : Int32) M4
set_option maxHeartbeats 4000000 in
theorem mX9_stanceOf {X : Cx} {E : Ev} {l : Launch} {K : List Sh} {x1 : Int32} {x2 : Int32} {x3 : Int32} {M : Mem} {r : Int32} {M' : Mem} (hL : nq_atModel E K) (hX : nq_OK X E l (nq_rm 6) cX9_stanceOf 5 RX9 wsX9_stanceOf) (hr : nq_RT X E (some .int) (some (.int r)) K M') (h : fX9_stanceOf x1 x2 x3 M = some (r, M')) : nq_G X E 5 0 [(0, .ref (nq_ad E 0)), (1, .int x1), (2, .int x2), (3, .int x3)] [] K M := by
  unfold fX9_stanceOf at h
  refine nq_aload_n hX rfl 0 rfl dX9_stanceOf_0 ?_
  obtain ⟨M2, hc1, h⟩ := nq_bE h
  refine nq_callVv hX (tX9_begins hL hc1) gX9_stanceOf_X9_begins rfl rfl dsX9_begins (by decide) (nq_Model_0 hL) rfl rfl (Nat.le_of_ble_eq_true rfl) dX9_stanceOf_1 ?_
  refine nq_aload_n hX rfl 0 rfl dX9_stanceOf_4 ?_
  refine nq_iload_n hX rfl 1 rfl dX9_stanceOf_5 ?_
  refine nq_iload_n hX rfl 2 rfl dX9_stanceOf_6 ?_
  obtain ⟨M4, hc3, h⟩ := nq_bE h
  refine nq_callVv hX (tX9_marksYears hL hc3) gX9_stanceOf_X9_marksYears rfl rfl dsX9_marksYears (by decide) (nq_Model_0 hL) rfl rfl (Nat.le_of_ble_eq_true rfl) dX9_stanceOf_7 ?_
  refine nq_iconst hX (v := 0) (by decide) dX9_stanceOf_10 ?_
  refine nq_istore hX (lv' := [(4, .int (0 : Int32)), (0, .ref (nq_ad E 0)), (1, .int x1), (2, .int x2), (3, .int x3)]) (by decide) rfl rfl dX9_stanceOf_11 ?_
  refine nq_sub (lv' := [(0, .ref (nq_ad E 0)), (1, .int x1), (2, .int x2), (3, .int x3), (4, .int (0 : Int32))]) [1, 2, 3, 4, 0] rfl ?_
  exact mX9_stanceOf_L13 hL hX hr h
theorem dsX9_stanceOf : yX9_stanceOf.cls ≠ "java/lang/invoke/MethodHandle" ∧ yX9_stanceOf.cls ≠ "java/lang/invoke/VarHandle" ∧ (parseMethodDescriptor yX9_stanceOf.desc).map (fun d => d.parameters.length) = some 3 := by decide +kernel
theorem tX9_stanceOf {l : Launch} {E : Ev} {K : List Sh} {x1 : Int32} {x2 : Int32} {x3 : Int32} {M : Mem} {r : Int32} {M' : Mem} (hL : nq_atModel E K) (h : fX9_stanceOf x1 x2 x3 M = some (r, M')) : nq_MA l E yX9_stanceOf wsX9_stanceOf (nq_rm 6) [.ref (nq_ad E 0), .int x1, .int x2, .int x3] K M (some (.int r)) K M' :=
  nq_met (own := RX9) (cc := cX9_stanceOf) (maxL := 5) (ret := (some .int)) (by decide) rfl rfl (Nat.le_of_ble_eq_true rfl) (fun X hX hr => mX9_stanceOf hL hX hr h)

theorem inX9_stance_9 : ∀ w ∈ u_ws RX9 TX9 23, w ∈ wsX9_stance := by
  intro w h; unfold wsX9_stance; simp only [List.mem_cons, List.mem_append]; simp only [h, true_or, or_true]
theorem lkX9_stance_7 : Cond.fieldLink RX9 7 (TX9 0).1 (TX9 0).2.1 (TX9 0).2.2.1 ∈ wsX9_stance := by decide +kernel
def fX9_stance (x1 : Int32) (x2 : Int32) (x3 : Int32) (M : Mem) : Option (Int32 × Mem) :=
  (fX9_isPlace x1 M).bind fun v2 =>
  if v2 = 0 then
  (nq_b2 (fX9_finds (1 : Int32) M) fun v5 M6 =>
  some (v5, M6))
  else
  ((fX9_isPact x2 M).bind fun v8 =>
  if v8 = 0 then
  (nq_b2 (fX9_finds (1 : Int32) M) fun v11 M12 =>
  some (v11, M12))
  else
  ((nq_ag (M 1) 1250 (0 : Int32)).bind fun v13 =>
  (fX9_in x3.toInt64 (0 : Int64) v13.toInt64 M).bind fun v15 =>
  if v15 = 0 then
  (nq_b2 (fX9_finds (1 : Int32) M) fun v18 M19 =>
  some (v18, M19))
  else
  (nq_b2 (fX9_stanceOf x1 x2 x3 M) fun v21 M22 =>
  some (v21, M22))))
set_option maxHeartbeats 4000000 in
theorem mX9_stance {X : Cx} {E : Ev} {l : Launch} {K : List Sh} {x1 : Int32} {x2 : Int32} {x3 : Int32} {M : Mem} {r : Int32} {M' : Mem} (hL : nq_atModel E K) (hX : nq_OK X E l (nq_rm 7) cX9_stance 4 RX9 wsX9_stance) (hr : nq_RT X E (some .int) (some (.int r)) K M') (h : fX9_stance x1 x2 x3 M = some (r, M')) : nq_G X E 4 0 [(0, .ref (nq_ad E 0)), (1, .int x1), (2, .int x2), (3, .int x3)] [] K M := by
  unfold fX9_stance at h
  refine nq_aload_n hX rfl 0 rfl dX9_stance_0 ?_
  refine nq_iload_n hX rfl 1 rfl dX9_stance_1 ?_
  obtain ⟨v2, hc1, h⟩ := nq_bE h
  refine nq_callVi hX (tX9_isPlace hL hc1) gX9_stance_X9_isPlace rfl rfl dsX9_isPlace (by decide) (nq_Model_0 hL) rfl rfl (Nat.le_of_ble_eq_true rfl) dX9_stance_2 ?_
  refine nq_if_eq hX (tgt := 41) (by decide) dX9_stance_5 (fun c3 => ?_) (fun c3 => ?_)
  · rw [if_pos c3] at h
    refine nq_aload_n hX rfl 0 rfl dX9_stance_41 ?_
    refine nq_iconst hX (v := 1) (by decide) dX9_stance_42 ?_
    obtain ⟨v5, M6, hc4, h⟩ := nq_b2E h
    refine nq_callVi hX (tX9_finds hL hc4) gX9_stance_X9_finds rfl rfl dsX9_finds (by decide) (nq_Model_0 hL) rfl rfl (Nat.le_of_ble_eq_true rfl) dX9_stance_43 ?_
    obtain ⟨rfl, rfl⟩ := nq_sE2 h; exact nq_iret hX hr dX9_stance_46
  · rw [if_neg c3] at h
    refine nq_iload_n hX rfl 2 rfl dX9_stance_8 ?_
    obtain ⟨v8, hc7, h⟩ := nq_bE h
    refine nq_callSi hX (tX9_isPact  hc7) gX9_stance_X9_isPact rfl rfl dsX9_isPact (by decide) rfl (Nat.le_of_ble_eq_true rfl) dX9_stance_9 ?_
    refine nq_if_eq hX (tgt := 41) (by decide) dX9_stance_12 (fun c9 => ?_) (fun c9 => ?_)
    · rw [if_pos c9] at h
      refine nq_aload_n hX rfl 0 rfl dX9_stance_41 ?_
      refine nq_iconst hX (v := 1) (by decide) dX9_stance_42 ?_
      obtain ⟨v11, M12, hc10, h⟩ := nq_b2E h
      refine nq_callVi hX (tX9_finds hL hc10) gX9_stance_X9_finds rfl rfl dsX9_finds (by decide) (nq_Model_0 hL) rfl rfl (Nat.le_of_ble_eq_true rfl) dX9_stance_43 ?_
      obtain ⟨rfl, rfl⟩ := nq_sE2 h; exact nq_iret hX hr dX9_stance_46
    · rw [if_neg c9] at h
      refine nq_iload_n hX rfl 3 rfl dX9_stance_15 ?_
      refine nq_i2l hX dX9_stance_16 ?_
      refine nq_lconst hX (v := 0) (by decide) dX9_stance_17 ?_
      refine nq_aload_n hX rfl 0 rfl dX9_stance_18 ?_
      refine nq_getr (v := .ref (nq_ad E 1)) hX inX9_stance_9 (nq_Model_0 hL) rfl 0 (by decide) lkX9_stance_7 _ rfl rfl dX9_stance_19 ?_
      refine nq_iconst hX (v := 0) (by decide) dX9_stance_22 ?_
      obtain ⟨v13, e13, hi13, h⟩ := nq_agE h
      refine nq_iald hX (nq_Model_d hL) e13 hi13 dX9_stance_23 ?_
      refine nq_i2l hX dX9_stance_24 ?_
      obtain ⟨v15, hc14, h⟩ := nq_bE h
      refine nq_callSi hX (tX9_in  hc14) gX9_stance_X9_in rfl rfl dsX9_in (by decide) rfl (Nat.le_of_ble_eq_true rfl) dX9_stance_25 ?_
      refine nq_if_eq hX (tgt := 41) (by decide) dX9_stance_28 (fun c16 => ?_) (fun c16 => ?_)
      · rw [if_pos c16] at h
        refine nq_aload_n hX rfl 0 rfl dX9_stance_41 ?_
        refine nq_iconst hX (v := 1) (by decide) dX9_stance_42 ?_
        obtain ⟨v18, M19, hc17, h⟩ := nq_b2E h
        refine nq_callVi hX (tX9_finds hL hc17) gX9_stance_X9_finds rfl rfl dsX9_finds (by decide) (nq_Model_0 hL) rfl rfl (Nat.le_of_ble_eq_true rfl) dX9_stance_43 ?_
        obtain ⟨rfl, rfl⟩ := nq_sE2 h; exact nq_iret hX hr dX9_stance_46
      · rw [if_neg c16] at h
        refine nq_aload_n hX rfl 0 rfl dX9_stance_31 ?_
        refine nq_iload_n hX rfl 1 rfl dX9_stance_32 ?_
        refine nq_iload_n hX rfl 2 rfl dX9_stance_33 ?_
        refine nq_iload_n hX rfl 3 rfl dX9_stance_34 ?_
        obtain ⟨v21, M22, hc20, h⟩ := nq_b2E h
        refine nq_callVi hX (tX9_stanceOf hL hc20) gX9_stance_X9_stanceOf rfl rfl dsX9_stanceOf (by decide) (nq_Model_0 hL) rfl rfl (Nat.le_of_ble_eq_true rfl) dX9_stance_35 ?_
        refine nq_goto hX (tgt := 46) (by decide) dX9_stance_38 ?_
        obtain ⟨rfl, rfl⟩ := nq_sE2 h; exact nq_iret hX hr dX9_stance_46
theorem dsX9_stance : yX9_stance.cls ≠ "java/lang/invoke/MethodHandle" ∧ yX9_stance.cls ≠ "java/lang/invoke/VarHandle" ∧ (parseMethodDescriptor yX9_stance.desc).map (fun d => d.parameters.length) = some 3 := by decide +kernel
theorem tX9_stance {l : Launch} {E : Ev} {K : List Sh} {x1 : Int32} {x2 : Int32} {x3 : Int32} {M : Mem} {r : Int32} {M' : Mem} (hL : nq_atModel E K) (h : fX9_stance x1 x2 x3 M = some (r, M')) : nq_MA l E yX9_stance wsX9_stance (nq_rm 7) [.ref (nq_ad E 0), .int x1, .int x2, .int x3] K M (some (.int r)) K M' :=
  nq_met (own := RX9) (cc := cX9_stance) (maxL := 4) (ret := (some .int)) (by decide) rfl rfl (Nat.le_of_ble_eq_true rfl) (fun X hX hr => mX9_stance hL hX hr h)

theorem inX9_made_9 : ∀ w ∈ u_ws RX9 TX9 23, w ∈ wsX9_made := by
  intro w h; unfold wsX9_made; simp only [List.mem_cons, List.mem_append]; simp only [h, true_or, or_true]
theorem lkX9_made_7 : Cond.fieldLink RX9 7 (TX9 0).1 (TX9 0).2.1 (TX9 0).2.2.1 ∈ wsX9_made := by decide +kernel
theorem lkX9_made_31 : Cond.fieldLink RX9 31 (TX9 8).1 (TX9 8).2.1 (TX9 8).2.2.1 ∈ wsX9_made := by decide +kernel
theorem lkX9_made_25 : Cond.fieldLink RX9 25 (TX9 6).1 (TX9 6).2.1 (TX9 6).2.2.1 ∈ wsX9_made := by decide +kernel
def fX9_made_B41 (x1 : Int32) (x2 : Int32) (x3 : Int32) (x4 : Int32) (M : Mem) : Option ((Int32 × Mem) ⊕ ((Mem) ⊕ (Int32 × Mem))) :=
  (nq_ag (M 1) 1250 (0 : Int32)).bind fun v19 =>
  if v19 < x4 then
  (some (.inr (.inl M)))
  else
  ((nq_ag (M 8) 400 x4).bind fun v21 =>
  if v21 = 0 then
  (nq_lt (x4 + (1 : Int32)) fun v23 =>
  some (.inl (v23, M)))
  else
  ((fX9_goesThrough (0 : Int32) x1 x3 x4 M).bind fun M25 =>
  (fX9_goesThrough (1 : Int32) x2 x3 x4 M25).bind fun M27 =>
  (nq_ag (M27 6) 2 (0 : Int32)).bind fun v28 =>
  if v28 < (2 : Int32) then
  (nq_lt (x4 + (1 : Int32)) fun v30 =>
  some (.inl (v30, M27)))
  else
  ((nq_ag (M27 6) 2 (1 : Int32)).bind fun v31 =>
  if v31 < (2 : Int32) then
  (nq_lt (x4 + (1 : Int32)) fun v33 =>
  some (.inl (v33, M27)))
  else
  (some (.inr (.inr (x4, M27)))))))
set_option maxHeartbeats 4000000 in
theorem mX9_made_B41 {X : Cx} {E : Ev} {l : Launch} {K : List Sh} {x1 : Int32} {x2 : Int32} {x3 : Int32} {x4 : Int32} {M : Mem} (hL : nq_atModel E K) (hX : nq_OK X E l (nq_rm 6) cX9_made 5 RX9 wsX9_made) {x : (Int32 × Mem) ⊕ ((Mem) ⊕ (Int32 × Mem))} (hc : ∀ s' : Int32 × Mem, x = .inl s' → nq_G X E 5 41 [(0, .ref (nq_ad E 0)), (1, .int x1), (2, .int x2), (3, .int x3), (4, .int s'.1)] [] K s'.2) (he : ∀ s' : Mem, x = .inr (.inl s') → nq_G X E 5 109 [(0, .ref (nq_ad E 0))] [] K s') (hret : ∀ r : Int32 × Mem, x = .inr (.inr r) → nq_RT X E (some .int) (some (.int r.1)) K r.2) (h : fX9_made_B41 x1 x2 x3 x4 M = some x) : nq_G X E 5 41 [(0, .ref (nq_ad E 0)), (1, .int x1), (2, .int x2), (3, .int x3), (4, .int x4)] [] K M := by
  unfold fX9_made_B41 at h
  refine nq_iload hX 4 rfl dX9_made_41 ?_
  refine nq_aload_n hX rfl 0 rfl dX9_made_43 ?_
  refine nq_getr (v := .ref (nq_ad E 1)) hX inX9_made_9 (nq_Model_0 hL) rfl 0 (by decide) lkX9_made_7 _ rfl rfl dX9_made_44 ?_
  refine nq_iconst hX (v := 0) (by decide) dX9_made_47 ?_
  obtain ⟨v19, e19, hi19, h⟩ := nq_agE h
  refine nq_iald hX (nq_Model_d hL) e19 hi19 dX9_made_48 ?_
  refine nq_icmp_gt hX (tgt := 109) (by decide) dX9_made_49 (fun c20 => ?_) (fun c20 => ?_)
  · rw [if_pos c20] at h
    refine nq_sub (lv' := [(0, .ref (nq_ad E 0))]) [0] rfl ?_
    exact he M (nq_sE h).symm
  · rw [if_neg c20] at h
    refine nq_aload_n hX rfl 0 rfl dX9_made_52 ?_
    refine nq_getr (v := .ref (nq_ad E 8)) hX inX9_made_9 (nq_Model_0 hL) rfl 8 (by decide) lkX9_made_31 _ rfl rfl dX9_made_53 ?_
    refine nq_iload hX 4 rfl dX9_made_56 ?_
    obtain ⟨v21, e21, hi21, h⟩ := nq_agE h
    refine nq_zald hX (nq_Model_isYear hL) e21 hi21 dX9_made_58 ?_
    refine nq_if_eq hX (tgt := 103) (by decide) dX9_made_59 (fun c22 => ?_) (fun c22 => ?_)
    · rw [if_pos c22] at h
      obtain ⟨v23, e23, h⟩ := nq_ltE h
      refine nq_iinc hX (lv' := [(4, .int v23), (0, .ref (nq_ad E 0)), (1, .int x1), (2, .int x2), (3, .int x3)]) (j := 4) rfl (e23.trans rfl) (by decide) rfl dX9_made_103 ?_
      refine nq_goto hX (tgt := 41) (by decide) dX9_made_106 ?_
      refine nq_sub (lv' := [(0, .ref (nq_ad E 0)), (1, .int x1), (2, .int x2), (3, .int x3), (4, .int v23)]) [1, 2, 3, 4, 0] rfl ?_
      exact hc (v23, M) (nq_sE h).symm
    · rw [if_neg c22] at h
      refine nq_aload_n hX rfl 0 rfl dX9_made_62 ?_
      refine nq_iconst hX (v := 0) (by decide) dX9_made_63 ?_
      refine nq_iload_n hX rfl 1 rfl dX9_made_64 ?_
      refine nq_iload_n hX rfl 3 rfl dX9_made_65 ?_
      refine nq_iload hX 4 rfl dX9_made_66 ?_
      obtain ⟨M25, hc24, h⟩ := nq_bE h
      refine nq_callVv hX (tX9_goesThrough hL hc24) gX9_made_X9_goesThrough rfl rfl dsX9_goesThrough (by decide) (nq_Model_0 hL) rfl rfl (Nat.le_of_ble_eq_true rfl) dX9_made_68 ?_
      refine nq_aload_n hX rfl 0 rfl dX9_made_71 ?_
      refine nq_iconst hX (v := 1) (by decide) dX9_made_72 ?_
      refine nq_iload_n hX rfl 2 rfl dX9_made_73 ?_
      refine nq_iload_n hX rfl 3 rfl dX9_made_74 ?_
      refine nq_iload hX 4 rfl dX9_made_75 ?_
      obtain ⟨M27, hc26, h⟩ := nq_bE h
      refine nq_callVv hX (tX9_goesThrough hL hc26) gX9_made_X9_goesThrough rfl rfl dsX9_goesThrough (by decide) (nq_Model_0 hL) rfl rfl (Nat.le_of_ble_eq_true rfl) dX9_made_77 ?_
      refine nq_aload_n hX rfl 0 rfl dX9_made_80 ?_
      refine nq_getr (v := .ref (nq_ad E 6)) hX inX9_made_9 (nq_Model_0 hL) rfl 6 (by decide) lkX9_made_25 _ rfl rfl dX9_made_81 ?_
      refine nq_iconst hX (v := 0) (by decide) dX9_made_84 ?_
      obtain ⟨v28, e28, hi28, h⟩ := nq_agE h
      refine nq_iald hX (nq_Model_stanceNow hL) e28 hi28 dX9_made_85 ?_
      refine nq_iconst hX (v := 2) (by decide) dX9_made_86 ?_
      refine nq_icmp_lt hX (tgt := 103) (by decide) dX9_made_87 (fun c29 => ?_) (fun c29 => ?_)
      · rw [if_pos c29] at h
        obtain ⟨v30, e30, h⟩ := nq_ltE h
        refine nq_iinc hX (lv' := [(4, .int v30), (0, .ref (nq_ad E 0)), (1, .int x1), (2, .int x2), (3, .int x3)]) (j := 4) rfl (e30.trans rfl) (by decide) rfl dX9_made_103 ?_
        refine nq_goto hX (tgt := 41) (by decide) dX9_made_106 ?_
        refine nq_sub (lv' := [(0, .ref (nq_ad E 0)), (1, .int x1), (2, .int x2), (3, .int x3), (4, .int v30)]) [1, 2, 3, 4, 0] rfl ?_
        exact hc (v30, M27) (nq_sE h).symm
      · rw [if_neg c29] at h
        refine nq_aload_n hX rfl 0 rfl dX9_made_90 ?_
        refine nq_getr (v := .ref (nq_ad E 6)) hX inX9_made_9 (nq_Model_0 hL) rfl 6 (by decide) lkX9_made_25 _ rfl rfl dX9_made_91 ?_
        refine nq_iconst hX (v := 1) (by decide) dX9_made_94 ?_
        obtain ⟨v31, e31, hi31, h⟩ := nq_agE h
        refine nq_iald hX (nq_Model_stanceNow hL) e31 hi31 dX9_made_95 ?_
        refine nq_iconst hX (v := 2) (by decide) dX9_made_96 ?_
        refine nq_icmp_lt hX (tgt := 103) (by decide) dX9_made_97 (fun c32 => ?_) (fun c32 => ?_)
        · rw [if_pos c32] at h
          obtain ⟨v33, e33, h⟩ := nq_ltE h
          refine nq_iinc hX (lv' := [(4, .int v33), (0, .ref (nq_ad E 0)), (1, .int x1), (2, .int x2), (3, .int x3)]) (j := 4) rfl (e33.trans rfl) (by decide) rfl dX9_made_103 ?_
          refine nq_goto hX (tgt := 41) (by decide) dX9_made_106 ?_
          refine nq_sub (lv' := [(0, .ref (nq_ad E 0)), (1, .int x1), (2, .int x2), (3, .int x3), (4, .int v33)]) [1, 2, 3, 4, 0] rfl ?_
          exact hc (v33, M27) (nq_sE h).symm
        · rw [if_neg c32] at h
          refine nq_iload hX 4 rfl dX9_made_100 ?_
          exact nq_iret hX (hret (x4, M27) (nq_sE h).symm) dX9_made_102
def fX9_made_L109 (M : Mem) : Option (Int32 × Mem) :=
  nq_b2 (fX9_finds (2 : Int32) M) fun v35 M36 =>
  some (v35, M36)
set_option maxHeartbeats 4000000 in
theorem mX9_made_L109 {X : Cx} {E : Ev} {l : Launch} {K : List Sh} {M : Mem} {r : Int32} {M' : Mem} (hL : nq_atModel E K) (hX : nq_OK X E l (nq_rm 6) cX9_made 5 RX9 wsX9_made) (hr : nq_RT X E (some .int) (some (.int r)) K M') (h : fX9_made_L109 M = some (r, M')) : nq_G X E 5 109 [(0, .ref (nq_ad E 0))] [] K M := by
  unfold fX9_made_L109 at h
  refine nq_aload_n hX rfl 0 rfl dX9_made_109 ?_
  refine nq_iconst hX (v := 2) (by decide) dX9_made_110 ?_
  obtain ⟨v35, M36, hc34, h⟩ := nq_b2E h
  refine nq_callVi hX (tX9_finds hL hc34) gX9_made_X9_finds rfl rfl dsX9_finds (by decide) (nq_Model_0 hL) rfl rfl (Nat.le_of_ble_eq_true rfl) dX9_made_111 ?_
  obtain ⟨rfl, rfl⟩ := nq_sE2 h; exact nq_iret hX hr dX9_made_114
def fX9_made_L41 (x1 : Int32) (x2 : Int32) (x3 : Int32) (x4 : Int32) (M : Mem) : Option (Int32 × Mem) :=
  (nq_lp (fun s : Int32 × Mem => fX9_made_B41 x1 x2 x3 s.1 s.2) nq_fuel (x4, M)).bind (Sum.elim (fun e => fX9_made_L109 e) (fun r1 => some r1))
set_option maxHeartbeats 4000000 in
theorem mX9_made_L41 {X : Cx} {E : Ev} {l : Launch} {K : List Sh} {x1 : Int32} {x2 : Int32} {x3 : Int32} {x4 : Int32} {M : Mem} {r : Int32} {M' : Mem} (hL : nq_atModel E K) (hX : nq_OK X E l (nq_rm 6) cX9_made 5 RX9 wsX9_made) (hr : nq_RT X E (some .int) (some (.int r)) K M') (h : fX9_made_L41 x1 x2 x3 x4 M = some (r, M')) : nq_G X E 5 41 [(0, .ref (nq_ad E 0)), (1, .int x1), (2, .int x2), (3, .int x3), (4, .int x4)] [] K M := by
  unfold fX9_made_L41 at h
  obtain ⟨e, h1, h⟩ := nq_bE h
  have key : ∀ (ex : (Mem) ⊕ (Int32 × Mem)), nq_lp (fun s : Int32 × Mem => fX9_made_B41 x1 x2 x3 s.1 s.2) nq_fuel (x4, M) = some ex → (∀ e, ex = .inl e → nq_G X E 5 109 [(0, .ref (nq_ad E 0))] [] K e) → (∀ r, ex = .inr r → nq_RT X E (some .int) (some (.int r.1)) K r.2) → nq_G X E 5 41 [(0, .ref (nq_ad E 0)), (1, .int x1), (2, .int x2), (3, .int x3), (4, .int ((x4, M).1))] [] K (x4, M).2 := by
    intro ex h1 hE hR
    refine nq_lpE (P := fun s : Int32 × Mem => nq_G X E 5 41 [(0, .ref (nq_ad E 0)), (1, .int x1), (2, .int x2), (3, .int x3), (4, .int s.1)] [] K s.2) (r := ex) ?_ nq_fuel (x4, M) h1
    intro s xx hx1 hc1 he1
    exact mX9_made_B41 hL hX hc1 (fun e q => hE e (he1 _ q).symm) (fun r q => hR r (he1 _ q).symm) hx1
  refine key e h1 (fun e q => ?_) (fun r1 q => ?_)
  · subst q
    have h : fX9_made_L109 e = some (r, M') := h
    exact mX9_made_L109 hL hX hr h
  · subst q
    have h : some r1 = some (r, M') := h
    obtain rfl := nq_sE1 h; exact hr
def fX9_made (x1 : Int32) (x2 : Int32) (x3 : Int32) (M : Mem) : Option (Int32 × Mem) :=
  (fX9_areTwo x1 x2 M).bind fun v2 =>
  if v2 = 0 then
  (nq_b2 (fX9_finds (1 : Int32) M) fun v5 M6 =>
  some (v5, M6))
  else
  ((fX9_isPact x3 M).bind fun v8 =>
  if v8 = 0 then
  (nq_b2 (fX9_finds (1 : Int32) M) fun v11 M12 =>
  some (v11, M12))
  else
  ((fX9_begins  M).bind fun M14 =>
  (fX9_marksYears x1 x3 M14).bind fun M16 =>
  (fX9_marksYears x2 x3 M16).bind fun M18 =>
  fX9_made_L41 x1 x2 x3 (0 : Int32) M18))
set_option maxHeartbeats 4000000 in
theorem mX9_made {X : Cx} {E : Ev} {l : Launch} {K : List Sh} {x1 : Int32} {x2 : Int32} {x3 : Int32} {M : Mem} {r : Int32} {M' : Mem} (hL : nq_atModel E K) (hX : nq_OK X E l (nq_rm 6) cX9_made 5 RX9 wsX9_made) (hr : nq_RT X E (some .int) (some (.int r)) K M') (h : fX9_made x1 x2 x3 M = some (r, M')) : nq_G X E 5 0 [(0, .ref (nq_ad E 0)), (1, .int x1), (2, .int x2), (3, .int x3)] [] K M := by
  unfold fX9_made at h
  refine nq_aload_n hX rfl 0 rfl dX9_made_0 ?_
  refine nq_iload_n hX rfl 1 rfl dX9_made_1 ?_
  refine nq_iload_n hX rfl 2 rfl dX9_made_2 ?_
  obtain ⟨v2, hc1, h⟩ := nq_bE h
  refine nq_callVi hX (tX9_areTwo hL hc1) gX9_made_X9_areTwo rfl rfl dsX9_areTwo (by decide) (nq_Model_0 hL) rfl rfl (Nat.le_of_ble_eq_true rfl) dX9_made_3 ?_
  refine nq_if_eq hX (tgt := 16) (by decide) dX9_made_6 (fun c3 => ?_) (fun c3 => ?_)
  · rw [if_pos c3] at h
    refine nq_aload_n hX rfl 0 rfl dX9_made_16 ?_
    refine nq_iconst hX (v := 1) (by decide) dX9_made_17 ?_
    obtain ⟨v5, M6, hc4, h⟩ := nq_b2E h
    refine nq_callVi hX (tX9_finds hL hc4) gX9_made_X9_finds rfl rfl dsX9_finds (by decide) (nq_Model_0 hL) rfl rfl (Nat.le_of_ble_eq_true rfl) dX9_made_18 ?_
    obtain ⟨rfl, rfl⟩ := nq_sE2 h; exact nq_iret hX hr dX9_made_21
  · rw [if_neg c3] at h
    refine nq_iload_n hX rfl 3 rfl dX9_made_9 ?_
    obtain ⟨v8, hc7, h⟩ := nq_bE h
    refine nq_callSi hX (tX9_isPact  hc7) gX9_made_X9_isPact rfl rfl dsX9_isPact (by decide) rfl (Nat.le_of_ble_eq_true rfl) dX9_made_10 ?_
    refine nq_if_ne hX (tgt := 22) (by decide) dX9_made_13 (fun c9 => ?_) (fun c9 => ?_)
    · rw [if_pos c9] at h
      refine nq_aload_n hX rfl 0 rfl dX9_made_16 ?_
      refine nq_iconst hX (v := 1) (by decide) dX9_made_17 ?_
      obtain ⟨v11, M12, hc10, h⟩ := nq_b2E h
      refine nq_callVi hX (tX9_finds hL hc10) gX9_made_X9_finds rfl rfl dsX9_finds (by decide) (nq_Model_0 hL) rfl rfl (Nat.le_of_ble_eq_true rfl) dX9_made_18 ?_
      obtain ⟨rfl, rfl⟩ := nq_sE2 h; exact nq_iret hX hr dX9_made_21
    · rw [if_neg c9] at h
      refine nq_aload_n hX rfl 0 rfl dX9_made_22 ?_
      obtain ⟨M14, hc13, h⟩ := nq_bE h
      refine nq_callVv hX (tX9_begins hL hc13) gX9_made_X9_begins rfl rfl dsX9_begins (by decide) (nq_Model_0 hL) rfl rfl (Nat.le_of_ble_eq_true rfl) dX9_made_23 ?_
      refine nq_aload_n hX rfl 0 rfl dX9_made_26 ?_
      refine nq_iload_n hX rfl 1 rfl dX9_made_27 ?_
      refine nq_iload_n hX rfl 3 rfl dX9_made_28 ?_
      obtain ⟨M16, hc15, h⟩ := nq_bE h
      refine nq_callVv hX (tX9_marksYears hL hc15) gX9_made_X9_marksYears rfl rfl dsX9_marksYears (by decide) (nq_Model_0 hL) rfl rfl (Nat.le_of_ble_eq_true rfl) dX9_made_29 ?_
      refine nq_aload_n hX rfl 0 rfl dX9_made_32 ?_
      refine nq_iload_n hX rfl 2 rfl dX9_made_33 ?_
      refine nq_iload_n hX rfl 3 rfl dX9_made_34 ?_
      obtain ⟨M18, hc17, h⟩ := nq_bE h
      refine nq_callVv hX (tX9_marksYears hL hc17) gX9_made_X9_marksYears rfl rfl dsX9_marksYears (by decide) (nq_Model_0 hL) rfl rfl (Nat.le_of_ble_eq_true rfl) dX9_made_35 ?_
      refine nq_iconst hX (v := 0) (by decide) dX9_made_38 ?_
      refine nq_istore hX (lv' := [(4, .int (0 : Int32)), (0, .ref (nq_ad E 0)), (1, .int x1), (2, .int x2), (3, .int x3)]) (by decide) rfl rfl dX9_made_39 ?_
      refine nq_sub (lv' := [(0, .ref (nq_ad E 0)), (1, .int x1), (2, .int x2), (3, .int x3), (4, .int (0 : Int32))]) [1, 2, 3, 4, 0] rfl ?_
      exact mX9_made_L41 hL hX hr h
theorem dsX9_made : yX9_made.cls ≠ "java/lang/invoke/MethodHandle" ∧ yX9_made.cls ≠ "java/lang/invoke/VarHandle" ∧ (parseMethodDescriptor yX9_made.desc).map (fun d => d.parameters.length) = some 3 := by decide +kernel
theorem tX9_made {l : Launch} {E : Ev} {K : List Sh} {x1 : Int32} {x2 : Int32} {x3 : Int32} {M : Mem} {r : Int32} {M' : Mem} (hL : nq_atModel E K) (h : fX9_made x1 x2 x3 M = some (r, M')) : nq_MA l E yX9_made wsX9_made (nq_rm 6) [.ref (nq_ad E 0), .int x1, .int x2, .int x3] K M (some (.int r)) K M' :=
  nq_met (own := RX9) (cc := cX9_made) (maxL := 5) (ret := (some .int)) (by decide) rfl rfl (Nat.le_of_ble_eq_true rfl) (fun X hX hr => mX9_made hL hX hr h)

theorem inX9_here_9 : ∀ w ∈ u_ws RX9 TX9 23, w ∈ wsX9_here := by
  intro w h; unfold wsX9_here; simp only [List.mem_cons, List.mem_append]; simp only [h, true_or, or_true]
theorem lkX9_here_180 : Cond.fieldLink RX9 180 (TX9 10).1 (TX9 10).2.1 (TX9 10).2.2.1 ∈ wsX9_here := by decide +kernel
theorem lkX9_here_184 : Cond.fieldLink RX9 184 (TX9 11).1 (TX9 11).2.1 (TX9 11).2.2.1 ∈ wsX9_here := by decide +kernel
theorem lkX9_here_187 : Cond.fieldLink RX9 187 (TX9 12).1 (TX9 12).2.1 (TX9 12).2.2.1 ∈ wsX9_here := by decide +kernel
theorem lkX9_here_7 : Cond.fieldLink RX9 7 (TX9 0).1 (TX9 0).2.1 (TX9 0).2.2.1 ∈ wsX9_here := by decide +kernel
theorem lkX9_here_190 : Cond.fieldLink RX9 190 (TX9 9).1 (TX9 9).2.1 (TX9 9).2.2.1 ∈ wsX9_here := by decide +kernel
def fX9_here (M : Mem) : Option (Int32) :=
  nq_lt (M 0 10) fun v1 =>
  nq_lt (M 0 11) fun v2 =>
  if v2 ≤ v1 then
  (some (-1 : Int32))
  else
  (nq_lt (M 0 12) fun v4 =>
  if 0 ≤ v4 then
  (some (-1 : Int32))
  else
  (nq_lt (M 0 9) fun v6 =>
  nq_lt (M 0 10) fun v7 =>
  (nq_ag (M 1) 1250 (v6 + v7)).bind fun v8 =>
  some v8))
set_option maxHeartbeats 4000000 in
theorem mX9_here {X : Cx} {E : Ev} {l : Launch} {K : List Sh} {M : Mem} {r : Int32} (hL : nq_atModel E K) (hX : nq_OK X E l (nq_rm 1) cX9_here 1 RX9 wsX9_here) (hr : nq_RT X E (some .int) (some (.int r)) K M) (h : fX9_here M = some r) : nq_G X E 1 0 [(0, .ref (nq_ad E 0))] [] K M := by
  unfold fX9_here at h
  refine nq_aload_n hX rfl 0 rfl dX9_here_0 ?_
  obtain ⟨v1, e1, h⟩ := nq_ltE h
  refine nq_geti hX inX9_here_9 (nq_Model_0 hL) rfl 10 (by decide) lkX9_here_180 rfl e1 dX9_here_1 ?_
  refine nq_aload_n hX rfl 0 rfl dX9_here_4 ?_
  obtain ⟨v2, e2, h⟩ := nq_ltE h
  refine nq_geti hX inX9_here_9 (nq_Model_0 hL) rfl 11 (by decide) lkX9_here_184 rfl e2 dX9_here_5 ?_
  refine nq_icmp_ge hX (tgt := 35) (by decide) dX9_here_8 (fun c3 => ?_) (fun c3 => ?_)
  · rw [if_pos c3] at h
    refine nq_iconst hX (v := -1) (by decide) dX9_here_35 ?_
    obtain rfl := nq_sE1 h; exact nq_iret hX hr dX9_here_36
  · rw [if_neg c3] at h
    refine nq_aload_n hX rfl 0 rfl dX9_here_11 ?_
    obtain ⟨v4, e4, h⟩ := nq_ltE h
    refine nq_geti hX inX9_here_9 (nq_Model_0 hL) rfl 12 (by decide) lkX9_here_187 rfl e4 dX9_here_12 ?_
    refine nq_if_ge hX (tgt := 35) (by decide) dX9_here_15 (fun c5 => ?_) (fun c5 => ?_)
    · rw [if_pos c5] at h
      refine nq_iconst hX (v := -1) (by decide) dX9_here_35 ?_
      obtain rfl := nq_sE1 h; exact nq_iret hX hr dX9_here_36
    · rw [if_neg c5] at h
      refine nq_aload_n hX rfl 0 rfl dX9_here_18 ?_
      refine nq_getr (v := .ref (nq_ad E 1)) hX inX9_here_9 (nq_Model_0 hL) rfl 0 (by decide) lkX9_here_7 _ rfl rfl dX9_here_19 ?_
      refine nq_aload_n hX rfl 0 rfl dX9_here_22 ?_
      obtain ⟨v6, e6, h⟩ := nq_ltE h
      refine nq_geti hX inX9_here_9 (nq_Model_0 hL) rfl 9 (by decide) lkX9_here_190 rfl e6 dX9_here_23 ?_
      refine nq_aload_n hX rfl 0 rfl dX9_here_26 ?_
      obtain ⟨v7, e7, h⟩ := nq_ltE h
      refine nq_geti hX inX9_here_9 (nq_Model_0 hL) rfl 10 (by decide) lkX9_here_180 rfl e7 dX9_here_27 ?_
      refine nq_iadd hX dX9_here_30 ?_
      obtain ⟨v8, e8, hi8, h⟩ := nq_agE h
      refine nq_iald hX (nq_Model_d hL) e8 hi8 dX9_here_31 ?_
      refine nq_goto hX (tgt := 36) (by decide) dX9_here_32 ?_
      obtain rfl := nq_sE1 h; exact nq_iret hX hr dX9_here_36
theorem dsX9_here : yX9_here.cls ≠ "java/lang/invoke/MethodHandle" ∧ yX9_here.cls ≠ "java/lang/invoke/VarHandle" ∧ (parseMethodDescriptor yX9_here.desc).map (fun d => d.parameters.length) = some 0 := by decide +kernel
theorem tX9_here {l : Launch} {E : Ev} {K : List Sh} {M : Mem} {r : Int32} (hL : nq_atModel E K) (h : fX9_here M = some r) : nq_MA l E yX9_here wsX9_here (nq_rm 1) [.ref (nq_ad E 0)] K M (some (.int r)) K M :=
  nq_met (own := RX9) (cc := cX9_here) (maxL := 1) (ret := (some .int)) (by decide) rfl rfl (Nat.le_of_ble_eq_true rfl) (fun X hX hr => mX9_here hL hX hr h)

theorem inX9_wrong_9 : ∀ w ∈ u_ws RX9 TX9 23, w ∈ wsX9_wrong := by
  intro w h; unfold wsX9_wrong; simp only [List.mem_cons, List.mem_append]; simp only [h, true_or, or_true]
theorem lkX9_wrong_187 : Cond.fieldLink RX9 187 (TX9 12).1 (TX9 12).2.1 (TX9 12).2.2.1 ∈ wsX9_wrong := by decide +kernel
theorem lkX9_wrong_180 : Cond.fieldLink RX9 180 (TX9 10).1 (TX9 10).2.1 (TX9 10).2.2.1 ∈ wsX9_wrong := by decide +kernel
def fX9_wrong (M : Mem) : Option (Int32 × Mem) :=
  nq_lt (M 0 12) fun v1 =>
  if 0 ≤ v1 then
  (nq_lt (M 0 12) fun v3 =>
  nq_lt (nq_wr M 0 12 v3) fun M4 =>
  some ((0 : Int32), M4))
  else
  (nq_lt (M 0 10) fun v5 =>
  nq_lt (nq_wr M 0 12 v5) fun M6 =>
  some ((0 : Int32), M6))
set_option maxHeartbeats 4000000 in
theorem mX9_wrong {X : Cx} {E : Ev} {l : Launch} {K : List Sh} {M : Mem} {r : Int32} {M' : Mem} (hL : nq_atModel E K) (hX : nq_OK X E l (nq_rm 1) cX9_wrong 1 RX9 wsX9_wrong) (hr : nq_RT X E (some .int) (some (.int r)) K M') (h : fX9_wrong M = some (r, M')) : nq_G X E 1 0 [(0, .ref (nq_ad E 0))] [] K M := by
  unfold fX9_wrong at h
  refine nq_aload_n hX rfl 0 rfl dX9_wrong_0 ?_
  refine nq_aload_n hX rfl 0 rfl dX9_wrong_1 ?_
  obtain ⟨v1, e1, h⟩ := nq_ltE h
  refine nq_geti hX inX9_wrong_9 (nq_Model_0 hL) rfl 12 (by decide) lkX9_wrong_187 rfl e1 dX9_wrong_2 ?_
  refine nq_if_ge hX (tgt := 15) (by decide) dX9_wrong_5 (fun c2 => ?_) (fun c2 => ?_)
  · rw [if_pos c2] at h
    refine nq_aload_n hX rfl 0 rfl dX9_wrong_15 ?_
    obtain ⟨v3, e3, h⟩ := nq_ltE h
    refine nq_geti hX inX9_wrong_9 (nq_Model_0 hL) rfl 12 (by decide) lkX9_wrong_187 rfl e3 dX9_wrong_16 ?_
    obtain ⟨M4, eM4, h⟩ := nq_ltE h
    refine nq_puti hX inX9_wrong_9 tyX9 tyX9_ok nmX9 (nq_Model_0 hL) rfl 12 (by decide) lkX9_wrong_187 rfl rfl rfl rfl rfl eM4 dX9_wrong_19 ?_
    refine nq_iconst hX (v := 0) (by decide) dX9_wrong_22 ?_
    obtain ⟨rfl, rfl⟩ := nq_sE2 h; exact nq_iret hX hr dX9_wrong_23
  · rw [if_neg c2] at h
    refine nq_aload_n hX rfl 0 rfl dX9_wrong_8 ?_
    obtain ⟨v5, e5, h⟩ := nq_ltE h
    refine nq_geti hX inX9_wrong_9 (nq_Model_0 hL) rfl 10 (by decide) lkX9_wrong_180 rfl e5 dX9_wrong_9 ?_
    refine nq_goto hX (tgt := 19) (by decide) dX9_wrong_12 ?_
    obtain ⟨M6, eM6, h⟩ := nq_ltE h
    refine nq_puti hX inX9_wrong_9 tyX9 tyX9_ok nmX9 (nq_Model_0 hL) rfl 12 (by decide) lkX9_wrong_187 rfl rfl rfl rfl rfl eM6 dX9_wrong_19 ?_
    refine nq_iconst hX (v := 0) (by decide) dX9_wrong_22 ?_
    obtain ⟨rfl, rfl⟩ := nq_sE2 h; exact nq_iret hX hr dX9_wrong_23
theorem dsX9_wrong : yX9_wrong.cls ≠ "java/lang/invoke/MethodHandle" ∧ yX9_wrong.cls ≠ "java/lang/invoke/VarHandle" ∧ (parseMethodDescriptor yX9_wrong.desc).map (fun d => d.parameters.length) = some 0 := by decide +kernel
theorem tX9_wrong {l : Launch} {E : Ev} {K : List Sh} {M : Mem} {r : Int32} {M' : Mem} (hL : nq_atModel E K) (h : fX9_wrong M = some (r, M')) : nq_MA l E yX9_wrong wsX9_wrong (nq_rm 1) [.ref (nq_ad E 0)] K M (some (.int r)) K M' :=
  nq_met (own := RX9) (cc := cX9_wrong) (maxL := 1) (ret := (some .int)) (by decide) rfl rfl (Nat.le_of_ble_eq_true rfl) (fun X hX hr => mX9_wrong hL hX hr h)

theorem inX9_takes_9 : ∀ w ∈ u_ws RX9 TX9 23, w ∈ wsX9_takes := by
  intro w h; unfold wsX9_takes; simp only [List.mem_cons, List.mem_append]; simp only [h, true_or, or_true]
theorem lkX9_takes_180 : Cond.fieldLink RX9 180 (TX9 10).1 (TX9 10).2.1 (TX9 10).2.2.1 ∈ wsX9_takes := by decide +kernel
def fX9_takes (x1 : Int32) (M : Mem) : Option (Int32 × Mem) :=
  (fX9_here  M).bind fun v2 =>
  if v2 = x1 then
  (nq_lt (M 0 10) fun v4 =>
  nq_lt (nq_wr M 0 10 (v4 + (1 : Int32))) fun M5 =>
  some ((1 : Int32), M5))
  else
  (some ((0 : Int32), M))
set_option maxHeartbeats 4000000 in
theorem mX9_takes {X : Cx} {E : Ev} {l : Launch} {K : List Sh} {x1 : Int32} {M : Mem} {r : Int32} {M' : Mem} (hL : nq_atModel E K) (hX : nq_OK X E l (nq_rm 2) cX9_takes 2 RX9 wsX9_takes) (hr : nq_RT X E (some .boolean) (some (.int r)) K M') (h : fX9_takes x1 M = some (r, M')) : nq_G X E 2 0 [(0, .ref (nq_ad E 0)), (1, .int x1)] [] K M := by
  unfold fX9_takes at h
  refine nq_aload_n hX rfl 0 rfl dX9_takes_0 ?_
  obtain ⟨v2, hc1, h⟩ := nq_bE h
  refine nq_callVi hX (tX9_here hL hc1) gX9_takes_X9_here rfl rfl dsX9_here (by decide) (nq_Model_0 hL) rfl rfl (Nat.le_of_ble_eq_true rfl) dX9_takes_1 ?_
  refine nq_iload_n hX rfl 1 rfl dX9_takes_4 ?_
  refine nq_icmp_eq hX (tgt := 10) (by decide) dX9_takes_5 (fun c3 => ?_) (fun c3 => ?_)
  · rw [if_pos c3] at h
    refine nq_aload_n hX rfl 0 rfl dX9_takes_10 ?_
    refine nq_dup hX rfl dX9_takes_11 ?_
    obtain ⟨v4, e4, h⟩ := nq_ltE h
    refine nq_geti hX inX9_takes_9 (nq_Model_0 hL) rfl 10 (by decide) lkX9_takes_180 rfl e4 dX9_takes_12 ?_
    refine nq_iconst hX (v := 1) (by decide) dX9_takes_15 ?_
    refine nq_iadd hX dX9_takes_16 ?_
    obtain ⟨M5, eM5, h⟩ := nq_ltE h
    refine nq_puti hX inX9_takes_9 tyX9 tyX9_ok nmX9 (nq_Model_0 hL) rfl 10 (by decide) lkX9_takes_180 rfl rfl rfl rfl rfl eM5 dX9_takes_17 ?_
    refine nq_iconst hX (v := 1) (by decide) dX9_takes_20 ?_
    obtain ⟨rfl, rfl⟩ := nq_sE2 h; exact nq_zret hX hr rfl dX9_takes_21
  · rw [if_neg c3] at h
    refine nq_iconst hX (v := 0) (by decide) dX9_takes_8 ?_
    obtain ⟨rfl, rfl⟩ := nq_sE2 h; exact nq_zret hX hr rfl dX9_takes_9
theorem dsX9_takes : yX9_takes.cls ≠ "java/lang/invoke/MethodHandle" ∧ yX9_takes.cls ≠ "java/lang/invoke/VarHandle" ∧ (parseMethodDescriptor yX9_takes.desc).map (fun d => d.parameters.length) = some 1 := by decide +kernel
theorem tX9_takes {l : Launch} {E : Ev} {K : List Sh} {x1 : Int32} {M : Mem} {r : Int32} {M' : Mem} (hL : nq_atModel E K) (h : fX9_takes x1 M = some (r, M')) : nq_MA l E yX9_takes wsX9_takes (nq_rm 2) [.ref (nq_ad E 0), .int x1] K M (some (.int r)) K M' :=
  nq_met (own := RX9) (cc := cX9_takes) (maxL := 2) (ret := (some .boolean)) (by decide) rfl rfl (Nat.le_of_ble_eq_true rfl) (fun X hX hr => mX9_takes hL hX hr h)

theorem inX9_nameOf_9 : ∀ w ∈ u_ws RX9 TX9 23, w ∈ wsX9_nameOf := by
  intro w h; unfold wsX9_nameOf; simp only [List.mem_cons, List.mem_append]; simp only [h, true_or, or_true]
theorem lkX9_nameOf_196 : Cond.fieldLink RX9 196 (TX9 14).1 (TX9 14).2.1 (TX9 14).2.2.1 ∈ wsX9_nameOf := by decide +kernel
def fX9_nameOf (x1 : Int32) (M : Mem) : Option (Int32) :=
  nq_lt (M 0 14) fun v1 =>
  if v1 = 0 then
  (if x1 = (111 : Int32) then
  (some (0 : Int32))
  else
  (if x1 = (116 : Int32) then
  (some (1 : Int32))
  else
  (if x1 = (114 : Int32) then
  (some (2 : Int32))
  else
  (if x1 = (97 : Int32) then
  (some (3 : Int32))
  else
  (if x1 = (98 : Int32) then
  (some (4 : Int32))
  else
  (some (-1 : Int32)))))))
  else
  (if x1 = (115 : Int32) then
  (some (0 : Int32))
  else
  (if x1 = (99 : Int32) then
  (some (1 : Int32))
  else
  (if x1 = (107 : Int32) then
  (some (2 : Int32))
  else
  (if x1 = (121 : Int32) then
  (some (3 : Int32))
  else
  (some (-1 : Int32))))))
set_option maxHeartbeats 4000000 in
theorem mX9_nameOf {X : Cx} {E : Ev} {l : Launch} {K : List Sh} {x1 : Int32} {M : Mem} {r : Int32} (hL : nq_atModel E K) (hX : nq_OK X E l (nq_rm 1) cX9_nameOf 2 RX9 wsX9_nameOf) (hr : nq_RT X E (some .int) (some (.int r)) K M) (h : fX9_nameOf x1 M = some r) : nq_G X E 2 0 [(0, .ref (nq_ad E 0)), (1, .int x1)] [] K M := by
  unfold fX9_nameOf at h
  refine nq_aload_n hX rfl 0 rfl dX9_nameOf_0 ?_
  obtain ⟨v1, e1, h⟩ := nq_ltE h
  refine nq_geti hX inX9_nameOf_9 (nq_Model_0 hL) rfl 14 (by decide) lkX9_nameOf_196 rfl e1 dX9_nameOf_1 ?_
  refine nq_if_eq hX (tgt := 49) (by decide) dX9_nameOf_4 (fun c2 => ?_) (fun c2 => ?_)
  · rw [if_pos c2] at h
    refine nq_iload_n hX rfl 1 rfl dX9_nameOf_49 ?_
    refine nq_bipush hX (v := 111) (by decide) dX9_nameOf_50 ?_
    refine nq_icmp_ne hX (tgt := 59) (by decide) dX9_nameOf_52 (fun c3 => ?_) (fun c3 => ?_)
    · rw [if_pos c3] at h
      refine nq_iconst hX (v := 0) (by decide) dX9_nameOf_55 ?_
      refine nq_goto hX (tgt := 100) (by decide) dX9_nameOf_56 ?_
      obtain rfl := nq_sE1 h; exact nq_iret hX hr dX9_nameOf_100
    · rw [if_neg c3] at h
      refine nq_iload_n hX rfl 1 rfl dX9_nameOf_59 ?_
      refine nq_bipush hX (v := 116) (by decide) dX9_nameOf_60 ?_
      refine nq_icmp_ne hX (tgt := 69) (by decide) dX9_nameOf_62 (fun c4 => ?_) (fun c4 => ?_)
      · rw [if_pos c4] at h
        refine nq_iconst hX (v := 1) (by decide) dX9_nameOf_65 ?_
        refine nq_goto hX (tgt := 100) (by decide) dX9_nameOf_66 ?_
        obtain rfl := nq_sE1 h; exact nq_iret hX hr dX9_nameOf_100
      · rw [if_neg c4] at h
        refine nq_iload_n hX rfl 1 rfl dX9_nameOf_69 ?_
        refine nq_bipush hX (v := 114) (by decide) dX9_nameOf_70 ?_
        refine nq_icmp_ne hX (tgt := 79) (by decide) dX9_nameOf_72 (fun c5 => ?_) (fun c5 => ?_)
        · rw [if_pos c5] at h
          refine nq_iconst hX (v := 2) (by decide) dX9_nameOf_75 ?_
          refine nq_goto hX (tgt := 100) (by decide) dX9_nameOf_76 ?_
          obtain rfl := nq_sE1 h; exact nq_iret hX hr dX9_nameOf_100
        · rw [if_neg c5] at h
          refine nq_iload_n hX rfl 1 rfl dX9_nameOf_79 ?_
          refine nq_bipush hX (v := 97) (by decide) dX9_nameOf_80 ?_
          refine nq_icmp_ne hX (tgt := 89) (by decide) dX9_nameOf_82 (fun c6 => ?_) (fun c6 => ?_)
          · rw [if_pos c6] at h
            refine nq_iconst hX (v := 3) (by decide) dX9_nameOf_85 ?_
            refine nq_goto hX (tgt := 100) (by decide) dX9_nameOf_86 ?_
            obtain rfl := nq_sE1 h; exact nq_iret hX hr dX9_nameOf_100
          · rw [if_neg c6] at h
            refine nq_iload_n hX rfl 1 rfl dX9_nameOf_89 ?_
            refine nq_bipush hX (v := 98) (by decide) dX9_nameOf_90 ?_
            refine nq_icmp_ne hX (tgt := 99) (by decide) dX9_nameOf_92 (fun c7 => ?_) (fun c7 => ?_)
            · rw [if_pos c7] at h
              refine nq_iconst hX (v := 4) (by decide) dX9_nameOf_95 ?_
              refine nq_goto hX (tgt := 100) (by decide) dX9_nameOf_96 ?_
              obtain rfl := nq_sE1 h; exact nq_iret hX hr dX9_nameOf_100
            · rw [if_neg c7] at h
              refine nq_iconst hX (v := -1) (by decide) dX9_nameOf_99 ?_
              obtain rfl := nq_sE1 h; exact nq_iret hX hr dX9_nameOf_100
  · rw [if_neg c2] at h
    refine nq_iload_n hX rfl 1 rfl dX9_nameOf_7 ?_
    refine nq_bipush hX (v := 115) (by decide) dX9_nameOf_8 ?_
    refine nq_icmp_ne hX (tgt := 17) (by decide) dX9_nameOf_10 (fun c8 => ?_) (fun c8 => ?_)
    · rw [if_pos c8] at h
      refine nq_iconst hX (v := 0) (by decide) dX9_nameOf_13 ?_
      refine nq_goto hX (tgt := 48) (by decide) dX9_nameOf_14 ?_
      obtain rfl := nq_sE1 h; exact nq_iret hX hr dX9_nameOf_48
    · rw [if_neg c8] at h
      refine nq_iload_n hX rfl 1 rfl dX9_nameOf_17 ?_
      refine nq_bipush hX (v := 99) (by decide) dX9_nameOf_18 ?_
      refine nq_icmp_ne hX (tgt := 27) (by decide) dX9_nameOf_20 (fun c9 => ?_) (fun c9 => ?_)
      · rw [if_pos c9] at h
        refine nq_iconst hX (v := 1) (by decide) dX9_nameOf_23 ?_
        refine nq_goto hX (tgt := 48) (by decide) dX9_nameOf_24 ?_
        obtain rfl := nq_sE1 h; exact nq_iret hX hr dX9_nameOf_48
      · rw [if_neg c9] at h
        refine nq_iload_n hX rfl 1 rfl dX9_nameOf_27 ?_
        refine nq_bipush hX (v := 107) (by decide) dX9_nameOf_28 ?_
        refine nq_icmp_ne hX (tgt := 37) (by decide) dX9_nameOf_30 (fun c10 => ?_) (fun c10 => ?_)
        · rw [if_pos c10] at h
          refine nq_iconst hX (v := 2) (by decide) dX9_nameOf_33 ?_
          refine nq_goto hX (tgt := 48) (by decide) dX9_nameOf_34 ?_
          obtain rfl := nq_sE1 h; exact nq_iret hX hr dX9_nameOf_48
        · rw [if_neg c10] at h
          refine nq_iload_n hX rfl 1 rfl dX9_nameOf_37 ?_
          refine nq_bipush hX (v := 121) (by decide) dX9_nameOf_38 ?_
          refine nq_icmp_ne hX (tgt := 47) (by decide) dX9_nameOf_40 (fun c11 => ?_) (fun c11 => ?_)
          · rw [if_pos c11] at h
            refine nq_iconst hX (v := 3) (by decide) dX9_nameOf_43 ?_
            refine nq_goto hX (tgt := 48) (by decide) dX9_nameOf_44 ?_
            obtain rfl := nq_sE1 h; exact nq_iret hX hr dX9_nameOf_48
          · rw [if_neg c11] at h
            refine nq_iconst hX (v := -1) (by decide) dX9_nameOf_47 ?_
            obtain rfl := nq_sE1 h; exact nq_iret hX hr dX9_nameOf_48
theorem dsX9_nameOf : yX9_nameOf.cls ≠ "java/lang/invoke/MethodHandle" ∧ yX9_nameOf.cls ≠ "java/lang/invoke/VarHandle" ∧ (parseMethodDescriptor yX9_nameOf.desc).map (fun d => d.parameters.length) = some 1 := by decide +kernel
theorem tX9_nameOf {l : Launch} {E : Ev} {K : List Sh} {x1 : Int32} {M : Mem} {r : Int32} (hL : nq_atModel E K) (h : fX9_nameOf x1 M = some r) : nq_MA l E yX9_nameOf wsX9_nameOf (nq_rm 1) [.ref (nq_ad E 0), .int x1] K M (some (.int r)) K M :=
  nq_met (own := RX9) (cc := cX9_nameOf) (maxL := 2) (ret := (some .int)) (by decide) rfl rfl (Nat.le_of_ble_eq_true rfl) (fun X hX hr => mX9_nameOf hL hX hr h)

