/-! printed by dec.py: Roads 0 -/
theorem inX2_step_2 : ∀ w ∈ u_ws RX2 TX2 3, w ∈ wsX2_step := by
  intro w h; unfold wsX2_step; simp only [List.mem_cons, List.mem_append]; simp only [h, true_or, or_true]
theorem lkX2_step_15 : Cond.fieldLink RX2 15 (TX2 1).1 (TX2 1).2.1 (TX2 1).2.2.1 ∈ wsX2_step := by decide +kernel
theorem mmX2_step_c25 : Cond.constant RX2 25 (1000000) ∈ wsX2_step := by decide +kernel
def fX2_step (p : Nat) (x1 : Int32) (x2 : Int32) (M : Mem) : Option (Int32) :=
  if x1 = x2 then
  (some (0 : Int32))
  else
  ((nq_ag (M (p + 1)) 36 ((x1 * (6 : Int32)) + x2)).bind fun v2 =>
  if v2 = 0 then
  (some (1000000 : Int32))
  else
  (some (((10 : Int32) * v2) + (1 : Int32))))
set_option maxHeartbeats 4000000 in
theorem mX2_step {X : Cx} {E : Ev} {l : Launch} {K : List Sh} {p : Nat} {x1 : Int32} {x2 : Int32} {M : Mem} {r : Int32} (hL : nq_atRoads E K p) (hX : nq_OK X E l (nq_rm 1) cX2_step 4 RX2 wsX2_step) (hr : nq_RT X E (some .int) (some (.int r)) K M) (h : fX2_step p x1 x2 M = some r) : nq_G X E 4 0 [(0, .ref (nq_ad E p)), (1, .int x1), (2, .int x2)] [] K M := by
  unfold fX2_step at h
  refine nq_iload_n hX rfl 1 rfl dX2_step_0 ?_
  refine nq_iload_n hX rfl 2 rfl dX2_step_1 ?_
  refine nq_icmp_ne hX (tgt := 7) (by decide) dX2_step_2 (fun c1 => ?_) (fun c1 => ?_)
  · rw [if_pos c1] at h
    refine nq_iconst hX (v := 0) (by decide) dX2_step_5 ?_
    obtain rfl := nq_sE1 h; exact nq_iret hX hr dX2_step_6
  · rw [if_neg c1] at h
    refine nq_aload_n hX rfl 0 rfl dX2_step_7 ?_
    refine nq_getr (v := .ref (nq_ad E (p + 1))) hX inX2_step_2 (nq_Roads_0 hL) rfl 1 (by decide) lkX2_step_15 _ rfl rfl dX2_step_8 ?_
    refine nq_iload_n hX rfl 1 rfl dX2_step_11 ?_
    refine nq_bipush hX (v := 6) (by decide) dX2_step_12 ?_
    refine nq_imul hX dX2_step_14 ?_
    refine nq_iload_n hX rfl 2 rfl dX2_step_15 ?_
    refine nq_iadd hX dX2_step_16 ?_
    obtain ⟨v2, e2, hi2, h⟩ := nq_agE h
    refine nq_iald hX (nq_Roads_nears hL) e2 hi2 dX2_step_17 ?_
    refine nq_istore_n hX (lv' := [(3, .int v2), (0, .ref (nq_ad E p)), (1, .int x1), (2, .int x2)]) rfl (by decide) rfl rfl dX2_step_18 ?_
    refine nq_iload_n hX rfl 0 rfl dX2_step_19 ?_
    refine nq_if_ne hX (tgt := 28) (by decide) dX2_step_20 (fun c3 => ?_) (fun c3 => ?_)
    · rw [if_pos c3] at h
      refine nq_ldc hX (v := 1000000) mmX2_step_c25 dX2_step_23 ?_
      refine nq_goto hX (tgt := 34) (by decide) dX2_step_25 ?_
      obtain rfl := nq_sE1 h; exact nq_iret hX hr dX2_step_34
    · rw [if_neg c3] at h
      refine nq_bipush hX (v := 10) (by decide) dX2_step_28 ?_
      refine nq_iload_n hX rfl 0 rfl dX2_step_30 ?_
      refine nq_imul hX dX2_step_31 ?_
      refine nq_iconst hX (v := 1) (by decide) dX2_step_32 ?_
      refine nq_iadd hX dX2_step_33 ?_
      obtain rfl := nq_sE1 h; exact nq_iret hX hr dX2_step_34
theorem dsX2_step : yX2_step.cls ≠ "java/lang/invoke/MethodHandle" ∧ yX2_step.cls ≠ "java/lang/invoke/VarHandle" ∧ (parseMethodDescriptor yX2_step.desc).map (fun d => d.parameters.length) = some 2 := by decide +kernel
theorem tX2_step {l : Launch} {E : Ev} {K : List Sh} {p : Nat} {x1 : Int32} {x2 : Int32} {M : Mem} {r : Int32} (hL : nq_atRoads E K p) (h : fX2_step p x1 x2 M = some r) : nq_MA l E yX2_step wsX2_step (nq_rm 1) [.ref (nq_ad E p), .int x1, .int x2] K M (some (.int r)) K M :=
  nq_met (own := RX2) (cc := cX2_step) (maxL := 4) (ret := (some .int)) (by decide) rfl rfl (Nat.le_of_ble_eq_true rfl) (fun X hX hr => mX2_step hL hX hr h)

theorem inX2_measure_2 : ∀ w ∈ u_ws RX2 TX2 3, w ∈ wsX2_measure := by
  intro w h; unfold wsX2_measure; simp only [List.mem_cons, List.mem_append]; simp only [h, true_or, or_true]
theorem lkX2_measure_19 : Cond.fieldLink RX2 19 (TX2 2).1 (TX2 2).2.1 (TX2 2).2.2.1 ∈ wsX2_measure := by decide +kernel
theorem mmX2_measure_k39 : Cond.methodLink RX2 39 Lib.Math.min.name ∈ wsX2_measure := by decide +kernel
theorem mmX2_measure_stmin : Cond.static Lib.Math.min.name ∈ wsX2_measure := by decide +kernel
theorem mmX2_measure_im : Cond.initialized "java/lang/Math" ∈ wsX2_measure := by decide +kernel
theorem mmX2_measure_cdmin : Cond.code Lib.Math.min.name Lib.Math.min.code 2 (some .int) ∈ wsX2_measure := by decide +kernel
def fX2_measure_B2 (p : Nat) (x1 : Int32) (M : Mem) : Option ((Int32 × Mem) ⊕ (Mem)) :=
  if (36 : Int32) ≤ x1 then
  (some (.inr M))
  else
  ((nq_dv x1 (6 : Int32)).bind fun v2 =>
  (nq_rem x1 (6 : Int32)).bind fun v3 =>
  (fX2_step p v2 v3 M).bind fun v5 =>
  (nq_as M (p + 2) 36 x1 v5).bind fun M6 =>
  nq_lt (x1 + (1 : Int32)) fun v7 =>
  some (.inl (v7, M6)))
set_option maxHeartbeats 4000000 in
theorem mX2_measure_B2 {X : Cx} {E : Ev} {l : Launch} {K : List Sh} {p : Nat} {x1 : Int32} {M : Mem} (hL : nq_atRoads E K p) (hX : nq_OK X E l (nq_rm 2) cX2_measure 4 RX2 wsX2_measure) {x : (Int32 × Mem) ⊕ (Mem)} (hc : ∀ s' : Int32 × Mem, x = .inl s' → nq_G X E 4 2 [(0, .ref (nq_ad E p)), (1, .int s'.1)] [] K s'.2) (he : ∀ s' : Mem, x = .inr s' → nq_G X E 4 32 [(0, .ref (nq_ad E p))] [] K s') (h : fX2_measure_B2 p x1 M = some x) : nq_G X E 4 2 [(0, .ref (nq_ad E p)), (1, .int x1)] [] K M := by
  unfold fX2_measure_B2 at h
  refine nq_iload_n hX rfl 1 rfl dX2_measure_2 ?_
  refine nq_bipush hX (v := 36) (by decide) dX2_measure_3 ?_
  refine nq_icmp_ge hX (tgt := 32) (by decide) dX2_measure_5 (fun c1 => ?_) (fun c1 => ?_)
  · rw [if_pos c1] at h
    refine nq_sub (lv' := [(0, .ref (nq_ad E p))]) [0] rfl ?_
    exact he M (nq_sE h).symm
  · rw [if_neg c1] at h
    refine nq_aload_n hX rfl 0 rfl dX2_measure_8 ?_
    refine nq_getr (v := .ref (nq_ad E (p + 2))) hX inX2_measure_2 (nq_Roads_0 hL) rfl 2 (by decide) lkX2_measure_19 _ rfl rfl dX2_measure_9 ?_
    refine nq_iload_n hX rfl 1 rfl dX2_measure_12 ?_
    refine nq_aload_n hX rfl 0 rfl dX2_measure_13 ?_
    refine nq_iload_n hX rfl 1 rfl dX2_measure_14 ?_
    refine nq_bipush hX (v := 6) (by decide) dX2_measure_15 ?_
    obtain ⟨v2, e2, hn2, h⟩ := nq_ifE h
    refine nq_idiv hX hn2 e2 dX2_measure_17 ?_
    refine nq_iload_n hX rfl 1 rfl dX2_measure_18 ?_
    refine nq_bipush hX (v := 6) (by decide) dX2_measure_19 ?_
    obtain ⟨v3, e3, hn3, h⟩ := nq_ifE h
    refine nq_irem hX hn3 e3 dX2_measure_21 ?_
    obtain ⟨v5, hc4, h⟩ := nq_bE h
    refine nq_callVi hX (tX2_step hL hc4) gX2_measure_X2_step rfl rfl dsX2_step (by decide) (nq_Roads_0 hL) rfl rfl (Nat.le_of_ble_eq_true rfl) dX2_measure_22 ?_
    obtain ⟨M6, e6, hi6, h⟩ := nq_asE h
    refine nq_iast hX (nq_Roads_lengths hL) e6 hi6 dX2_measure_25 ?_
    obtain ⟨v7, e7, h⟩ := nq_ltE h
    refine nq_iinc hX (lv' := [(1, .int v7), (0, .ref (nq_ad E p))]) (j := 1) rfl (e7.trans rfl) (by decide) rfl dX2_measure_26 ?_
    refine nq_goto hX (tgt := 2) (by decide) dX2_measure_29 ?_
    refine nq_sub (lv' := [(0, .ref (nq_ad E p)), (1, .int v7)]) [1, 0] rfl ?_
    exact hc (v7, M6) (nq_sE h).symm
def fX2_measure_B42_34 (p : Nat) (x1 : Int32) (x2 : Int32) (M : Mem) : Option ((Int32 × Mem) ⊕ (Mem)) :=
  if (36 : Int32) ≤ x2 then
  (some (.inr M))
  else
  ((nq_dv x2 (6 : Int32)).bind fun v10 =>
  (nq_ag (M (p + 2)) 36 ((v10 * (6 : Int32)) + x1)).bind fun v11 =>
  (nq_rem x2 (6 : Int32)).bind fun v12 =>
  (nq_ag (M (p + 2)) 36 ((x1 * (6 : Int32)) + v12)).bind fun v13 =>
  nq_lt ((v11 + v13)) fun v14 =>
  (nq_ag (M (p + 2)) 36 x2).bind fun v15 =>
  nq_lt (if v14 < v15 then v14 else v15) fun v16 =>
  (nq_as M (p + 2) 36 x2 v16).bind fun M17 =>
  nq_lt (x2 + (1 : Int32)) fun v18 =>
  some (.inl (v18, M17)))
set_option maxHeartbeats 4000000 in
theorem mX2_measure_B42_34 {X : Cx} {E : Ev} {l : Launch} {K : List Sh} {p : Nat} {x1 : Int32} {x2 : Int32} {M : Mem} (hL : nq_atRoads E K p) (hX : nq_OK X E l (nq_rm 2) cX2_measure 4 RX2 wsX2_measure) {x : (Int32 × Mem) ⊕ (Mem)} (hc : ∀ s' : Int32 × Mem, x = .inl s' → nq_G X E 4 42 [(0, .ref (nq_ad E p)), (1, .int x1), (2, .int s'.1)] [] K s'.2) (he : ∀ s' : Mem, x = .inr s' → nq_G X E 4 100 [(0, .ref (nq_ad E p)), (1, .int x1)] [] K s') (h : fX2_measure_B42_34 p x1 x2 M = some x) : nq_G X E 4 42 [(0, .ref (nq_ad E p)), (1, .int x1), (2, .int x2)] [] K M := by
  unfold fX2_measure_B42_34 at h
  refine nq_iload_n hX rfl 2 rfl dX2_measure_42 ?_
  refine nq_bipush hX (v := 36) (by decide) dX2_measure_43 ?_
  refine nq_icmp_ge hX (tgt := 100) (by decide) dX2_measure_45 (fun c9 => ?_) (fun c9 => ?_)
  · rw [if_pos c9] at h
    refine nq_sub (lv' := [(0, .ref (nq_ad E p)), (1, .int x1)]) [0, 1] rfl ?_
    exact he M (nq_sE h).symm
  · rw [if_neg c9] at h
    refine nq_aload_n hX rfl 0 rfl dX2_measure_48 ?_
    refine nq_getr (v := .ref (nq_ad E (p + 2))) hX inX2_measure_2 (nq_Roads_0 hL) rfl 2 (by decide) lkX2_measure_19 _ rfl rfl dX2_measure_49 ?_
    refine nq_iload_n hX rfl 2 rfl dX2_measure_52 ?_
    refine nq_bipush hX (v := 6) (by decide) dX2_measure_53 ?_
    obtain ⟨v10, e10, hn10, h⟩ := nq_ifE h
    refine nq_idiv hX hn10 e10 dX2_measure_55 ?_
    refine nq_bipush hX (v := 6) (by decide) dX2_measure_56 ?_
    refine nq_imul hX dX2_measure_58 ?_
    refine nq_iload_n hX rfl 1 rfl dX2_measure_59 ?_
    refine nq_iadd hX dX2_measure_60 ?_
    obtain ⟨v11, e11, hi11, h⟩ := nq_agE h
    refine nq_iald hX (nq_Roads_lengths hL) e11 hi11 dX2_measure_61 ?_
    refine nq_aload_n hX rfl 0 rfl dX2_measure_62 ?_
    refine nq_getr (v := .ref (nq_ad E (p + 2))) hX inX2_measure_2 (nq_Roads_0 hL) rfl 2 (by decide) lkX2_measure_19 _ rfl rfl dX2_measure_63 ?_
    refine nq_iload_n hX rfl 1 rfl dX2_measure_66 ?_
    refine nq_bipush hX (v := 6) (by decide) dX2_measure_67 ?_
    refine nq_imul hX dX2_measure_69 ?_
    refine nq_iload_n hX rfl 2 rfl dX2_measure_70 ?_
    refine nq_bipush hX (v := 6) (by decide) dX2_measure_71 ?_
    obtain ⟨v12, e12, hn12, h⟩ := nq_ifE h
    refine nq_irem hX hn12 e12 dX2_measure_73 ?_
    refine nq_iadd hX dX2_measure_74 ?_
    obtain ⟨v13, e13, hi13, h⟩ := nq_agE h
    refine nq_iald hX (nq_Roads_lengths hL) e13 hi13 dX2_measure_75 ?_
    refine nq_iadd hX dX2_measure_76 ?_
    obtain ⟨v14, e14, h⟩ := nq_ltE h
    refine nq_istore_n hX (lv' := [(3, .int v14), (0, .ref (nq_ad E p)), (1, .int x1), (2, .int x2)]) rfl (by decide) e14 rfl dX2_measure_77 ?_
    refine nq_aload_n hX rfl 1 rfl dX2_measure_78 ?_
    refine nq_getr (v := .ref (nq_ad E (p + 2))) hX inX2_measure_2 (nq_Roads_0 hL) rfl 2 (by decide) lkX2_measure_19 _ rfl rfl dX2_measure_79 ?_
    refine nq_iload_n hX rfl 3 rfl dX2_measure_82 ?_
    refine nq_aload_n hX rfl 1 rfl dX2_measure_83 ?_
    refine nq_getr (v := .ref (nq_ad E (p + 2))) hX inX2_measure_2 (nq_Roads_0 hL) rfl 2 (by decide) lkX2_measure_19 _ rfl rfl dX2_measure_84 ?_
    refine nq_iload_n hX rfl 3 rfl dX2_measure_87 ?_
    obtain ⟨v15, e15, hi15, h⟩ := nq_agE h
    refine nq_iald hX (nq_Roads_lengths hL) e15 hi15 dX2_measure_88 ?_
    refine nq_iload_n hX rfl 0 rfl dX2_measure_89 ?_
    refine nq_mmin hX mmX2_measure_k39 mmX2_measure_stmin mmX2_measure_im mmX2_measure_cdmin (by decide) (Nat.le_of_ble_eq_true rfl) dX2_measure_90 ?_
    obtain ⟨v16, e16, h⟩ := nq_ltE h
    rw [← e16]
    obtain ⟨M17, e17, hi17, h⟩ := nq_asE h
    refine nq_iast hX (nq_Roads_lengths hL) e17 hi17 dX2_measure_93 ?_
    obtain ⟨v18, e18, h⟩ := nq_ltE h
    refine nq_iinc hX (lv' := [(2, .int v18), (3, .int v14), (0, .ref (nq_ad E p)), (1, .int x1)]) (j := 3) rfl (e18.trans rfl) (by decide) rfl dX2_measure_94 ?_
    refine nq_goto hX (tgt := 42) (by decide) dX2_measure_97 ?_
    refine nq_sub (lv' := [(0, .ref (nq_ad E p)), (1, .int x1), (2, .int v18)]) [2, 3, 0] rfl ?_
    exact hc (v18, M17) (nq_sE h).symm
def fX2_measure_L100_34 (p : Nat) (x1 : Int32) (M : Mem) : Option ((Int32 × Mem) ⊕ (Mem)) :=
  nq_lt (x1 + (1 : Int32)) fun v19 =>
  some (.inl (v19, M))
set_option maxHeartbeats 4000000 in
theorem mX2_measure_L100_34 {X : Cx} {E : Ev} {l : Launch} {K : List Sh} {p : Nat} {x1 : Int32} {M : Mem} (hL : nq_atRoads E K p) (hX : nq_OK X E l (nq_rm 2) cX2_measure 4 RX2 wsX2_measure) {x : (Int32 × Mem) ⊕ (Mem)} (hc : ∀ s' : Int32 × Mem, x = .inl s' → nq_G X E 4 34 [(0, .ref (nq_ad E p)), (1, .int s'.1)] [] K s'.2) (he : ∀ s' : Mem, x = .inr s' → nq_G X E 4 106 [] [] K s') (h : fX2_measure_L100_34 p x1 M = some x) : nq_G X E 4 100 [(0, .ref (nq_ad E p)), (1, .int x1)] [] K M := by
  unfold fX2_measure_L100_34 at h
  obtain ⟨v19, e19, h⟩ := nq_ltE h
  refine nq_iinc hX (lv' := [(1, .int v19), (0, .ref (nq_ad E p))]) (j := 1) rfl (e19.trans rfl) (by decide) rfl dX2_measure_100 ?_
  refine nq_goto hX (tgt := 34) (by decide) dX2_measure_103 ?_
  refine nq_sub (lv' := [(0, .ref (nq_ad E p)), (1, .int v19)]) [1, 0] rfl ?_
  exact hc (v19, M) (nq_sE h).symm
def fX2_measure_L42_34 (p : Nat) (x1 : Int32) (x2 : Int32) (M : Mem) : Option ((Int32 × Mem) ⊕ (Mem)) :=
  (nq_lp (fun s : Int32 × Mem => fX2_measure_B42_34 p x1 s.1 s.2) nq_fuel (x2, M)).bind (fun e => fX2_measure_L100_34 p x1 e)
set_option maxHeartbeats 4000000 in
theorem mX2_measure_L42_34 {X : Cx} {E : Ev} {l : Launch} {K : List Sh} {p : Nat} {x1 : Int32} {x2 : Int32} {M : Mem} (hL : nq_atRoads E K p) (hX : nq_OK X E l (nq_rm 2) cX2_measure 4 RX2 wsX2_measure) {x : (Int32 × Mem) ⊕ (Mem)} (hc : ∀ s' : Int32 × Mem, x = .inl s' → nq_G X E 4 34 [(0, .ref (nq_ad E p)), (1, .int s'.1)] [] K s'.2) (he : ∀ s' : Mem, x = .inr s' → nq_G X E 4 106 [] [] K s') (h : fX2_measure_L42_34 p x1 x2 M = some x) : nq_G X E 4 42 [(0, .ref (nq_ad E p)), (1, .int x1), (2, .int x2)] [] K M := by
  unfold fX2_measure_L42_34 at h
  obtain ⟨e, h1, h⟩ := nq_bE h
  have key : ∀ (ex : Mem), nq_lp (fun s : Int32 × Mem => fX2_measure_B42_34 p x1 s.1 s.2) nq_fuel (x2, M) = some ex → (∀ e, ex = e → nq_G X E 4 100 [(0, .ref (nq_ad E p)), (1, .int x1)] [] K e) → nq_G X E 4 42 [(0, .ref (nq_ad E p)), (1, .int x1), (2, .int ((x2, M).1))] [] K (x2, M).2 := by
    intro ex h1 hE
    refine nq_lpE (P := fun s : Int32 × Mem => nq_G X E 4 42 [(0, .ref (nq_ad E p)), (1, .int x1), (2, .int s.1)] [] K s.2) (r := ex) ?_ nq_fuel (x2, M) h1
    intro s xx hx1 hc1 he1
    exact mX2_measure_B42_34 hL hX hc1 (fun e q => hE e (he1 _ q).symm) hx1
  refine key e h1 (fun e q => ?_)
  subst q
  exact mX2_measure_L100_34 hL hX hc he h
def fX2_measure_B34 (p : Nat) (x1 : Int32) (M : Mem) : Option ((Int32 × Mem) ⊕ (Mem)) :=
  if (6 : Int32) ≤ x1 then
  (some (.inr M))
  else
  (fX2_measure_L42_34 p x1 (0 : Int32) M)
set_option maxHeartbeats 4000000 in
theorem mX2_measure_B34 {X : Cx} {E : Ev} {l : Launch} {K : List Sh} {p : Nat} {x1 : Int32} {M : Mem} (hL : nq_atRoads E K p) (hX : nq_OK X E l (nq_rm 2) cX2_measure 4 RX2 wsX2_measure) {x : (Int32 × Mem) ⊕ (Mem)} (hc : ∀ s' : Int32 × Mem, x = .inl s' → nq_G X E 4 34 [(0, .ref (nq_ad E p)), (1, .int s'.1)] [] K s'.2) (he : ∀ s' : Mem, x = .inr s' → nq_G X E 4 106 [] [] K s') (h : fX2_measure_B34 p x1 M = some x) : nq_G X E 4 34 [(0, .ref (nq_ad E p)), (1, .int x1)] [] K M := by
  unfold fX2_measure_B34 at h
  refine nq_iload_n hX rfl 1 rfl dX2_measure_34 ?_
  refine nq_bipush hX (v := 6) (by decide) dX2_measure_35 ?_
  refine nq_icmp_ge hX (tgt := 106) (by decide) dX2_measure_37 (fun c8 => ?_) (fun c8 => ?_)
  · rw [if_pos c8] at h
    refine nq_sub (lv' := []) [] rfl ?_
    exact he M (nq_sE h).symm
  · rw [if_neg c8] at h
    refine nq_iconst hX (v := 0) (by decide) dX2_measure_40 ?_
    refine nq_istore_n hX (lv' := [(2, .int (0 : Int32)), (0, .ref (nq_ad E p)), (1, .int x1)]) rfl (by decide) rfl rfl dX2_measure_41 ?_
    refine nq_sub (lv' := [(0, .ref (nq_ad E p)), (1, .int x1), (2, .int (0 : Int32))]) [1, 2, 0] rfl ?_
    exact mX2_measure_L42_34 hL hX hc he h
def fX2_measure_L106 (p : Nat) (M : Mem) : Option (Mem) :=
  some M
set_option maxHeartbeats 4000000 in
theorem mX2_measure_L106 {X : Cx} {E : Ev} {l : Launch} {K : List Sh} {p : Nat} {M : Mem} {M' : Mem} (hL : nq_atRoads E K p) (hX : nq_OK X E l (nq_rm 2) cX2_measure 4 RX2 wsX2_measure) (hr : nq_RT X E none none K M') (h : fX2_measure_L106 p M = some M') : nq_G X E 4 106 [] [] K M := by
  unfold fX2_measure_L106 at h
  obtain rfl := nq_sE1 h; exact nq_vret hX hr dX2_measure_106
def fX2_measure_L34 (p : Nat) (x1 : Int32) (M : Mem) : Option (Mem) :=
  (nq_lp (fun s : Int32 × Mem => fX2_measure_B34 p s.1 s.2) nq_fuel (x1, M)).bind (fun e => fX2_measure_L106 p e)
set_option maxHeartbeats 4000000 in
theorem mX2_measure_L34 {X : Cx} {E : Ev} {l : Launch} {K : List Sh} {p : Nat} {x1 : Int32} {M : Mem} {M' : Mem} (hL : nq_atRoads E K p) (hX : nq_OK X E l (nq_rm 2) cX2_measure 4 RX2 wsX2_measure) (hr : nq_RT X E none none K M') (h : fX2_measure_L34 p x1 M = some M') : nq_G X E 4 34 [(0, .ref (nq_ad E p)), (1, .int x1)] [] K M := by
  unfold fX2_measure_L34 at h
  obtain ⟨e, h1, h⟩ := nq_bE h
  have key : ∀ (ex : Mem), nq_lp (fun s : Int32 × Mem => fX2_measure_B34 p s.1 s.2) nq_fuel (x1, M) = some ex → (∀ e, ex = e → nq_G X E 4 106 [] [] K e) → nq_G X E 4 34 [(0, .ref (nq_ad E p)), (1, .int ((x1, M).1))] [] K (x1, M).2 := by
    intro ex h1 hE
    refine nq_lpE (P := fun s : Int32 × Mem => nq_G X E 4 34 [(0, .ref (nq_ad E p)), (1, .int s.1)] [] K s.2) (r := ex) ?_ nq_fuel (x1, M) h1
    intro s xx hx1 hc1 he1
    exact mX2_measure_B34 hL hX hc1 (fun e q => hE e (he1 _ q).symm) hx1
  refine key e h1 (fun e q => ?_)
  subst q
  exact mX2_measure_L106 hL hX hr h
def fX2_measure_L32 (p : Nat) (M : Mem) : Option (Mem) :=
  fX2_measure_L34 p (0 : Int32) M
set_option maxHeartbeats 4000000 in
theorem mX2_measure_L32 {X : Cx} {E : Ev} {l : Launch} {K : List Sh} {p : Nat} {M : Mem} {M' : Mem} (hL : nq_atRoads E K p) (hX : nq_OK X E l (nq_rm 2) cX2_measure 4 RX2 wsX2_measure) (hr : nq_RT X E none none K M') (h : fX2_measure_L32 p M = some M') : nq_G X E 4 32 [(0, .ref (nq_ad E p))] [] K M := by
  unfold fX2_measure_L32 at h
  refine nq_iconst hX (v := 0) (by decide) dX2_measure_32 ?_
  refine nq_istore_n hX (lv' := [(1, .int (0 : Int32)), (0, .ref (nq_ad E p))]) rfl (by decide) rfl rfl dX2_measure_33 ?_
  refine nq_sub (lv' := [(0, .ref (nq_ad E p)), (1, .int (0 : Int32))]) [1, 0] rfl ?_
  exact mX2_measure_L34 hL hX hr h
def fX2_measure_L2 (p : Nat) (x1 : Int32) (M : Mem) : Option (Mem) :=
  (nq_lp (fun s : Int32 × Mem => fX2_measure_B2 p s.1 s.2) nq_fuel (x1, M)).bind (fun e => fX2_measure_L32 p e)
set_option maxHeartbeats 4000000 in
theorem mX2_measure_L2 {X : Cx} {E : Ev} {l : Launch} {K : List Sh} {p : Nat} {x1 : Int32} {M : Mem} {M' : Mem} (hL : nq_atRoads E K p) (hX : nq_OK X E l (nq_rm 2) cX2_measure 4 RX2 wsX2_measure) (hr : nq_RT X E none none K M') (h : fX2_measure_L2 p x1 M = some M') : nq_G X E 4 2 [(0, .ref (nq_ad E p)), (1, .int x1)] [] K M := by
  unfold fX2_measure_L2 at h
  obtain ⟨e, h1, h⟩ := nq_bE h
  have key : ∀ (ex : Mem), nq_lp (fun s : Int32 × Mem => fX2_measure_B2 p s.1 s.2) nq_fuel (x1, M) = some ex → (∀ e, ex = e → nq_G X E 4 32 [(0, .ref (nq_ad E p))] [] K e) → nq_G X E 4 2 [(0, .ref (nq_ad E p)), (1, .int ((x1, M).1))] [] K (x1, M).2 := by
    intro ex h1 hE
    refine nq_lpE (P := fun s : Int32 × Mem => nq_G X E 4 2 [(0, .ref (nq_ad E p)), (1, .int s.1)] [] K s.2) (r := ex) ?_ nq_fuel (x1, M) h1
    intro s xx hx1 hc1 he1
    exact mX2_measure_B2 hL hX hc1 (fun e q => hE e (he1 _ q).symm) hx1
  refine key e h1 (fun e q => ?_)
  subst q
  exact mX2_measure_L32 hL hX hr h
def fX2_measure (p : Nat) (M : Mem) : Option (Mem) :=
  fX2_measure_L2 p (0 : Int32) M
set_option maxHeartbeats 4000000 in
theorem mX2_measure {X : Cx} {E : Ev} {l : Launch} {K : List Sh} {p : Nat} {M : Mem} {M' : Mem} (hL : nq_atRoads E K p) (hX : nq_OK X E l (nq_rm 2) cX2_measure 4 RX2 wsX2_measure) (hr : nq_RT X E none none K M') (h : fX2_measure p M = some M') : nq_G X E 4 0 [(0, .ref (nq_ad E p))] [] K M := by
  unfold fX2_measure at h
  refine nq_iconst hX (v := 0) (by decide) dX2_measure_0 ?_
  refine nq_istore_n hX (lv' := [(1, .int (0 : Int32)), (0, .ref (nq_ad E p))]) rfl (by decide) rfl rfl dX2_measure_1 ?_
  refine nq_sub (lv' := [(0, .ref (nq_ad E p)), (1, .int (0 : Int32))]) [1, 0] rfl ?_
  exact mX2_measure_L2 hL hX hr h
theorem dsX2_measure : yX2_measure.cls ≠ "java/lang/invoke/MethodHandle" ∧ yX2_measure.cls ≠ "java/lang/invoke/VarHandle" ∧ (parseMethodDescriptor yX2_measure.desc).map (fun d => d.parameters.length) = some 0 := by decide +kernel
theorem tX2_measure {l : Launch} {E : Ev} {K : List Sh} {p : Nat} {M : Mem} {M' : Mem} (hL : nq_atRoads E K p) (h : fX2_measure p M = some M') : nq_MA l E yX2_measure wsX2_measure (nq_rm 2) [.ref (nq_ad E p)] K M none K M' :=
  nq_met (own := RX2) (cc := cX2_measure) (maxL := 4) (ret := none) (by decide) rfl rfl (Nat.le_of_ble_eq_true rfl) (fun X hX hr => mX2_measure hL hX hr h)

theorem inX2_join_2 : ∀ w ∈ u_ws RX2 TX2 3, w ∈ wsX2_join := by
  intro w h; unfold wsX2_join; simp only [List.mem_cons, List.mem_append]; simp only [h, true_or, or_true]
theorem lkX2_join_15 : Cond.fieldLink RX2 15 (TX2 1).1 (TX2 1).2.1 (TX2 1).2.2.1 ∈ wsX2_join := by decide +kernel
def fX2_join (p : Nat) (x1 : Int32) (x2 : Int32) (x3 : Int32) (M : Mem) : Option (Int32 × Mem) :=
  (nq_ag (M (p + 1)) 36 ((x1 * (6 : Int32)) + x2)).bind fun v1 =>
  (nq_as M (p + 1) 36 ((x1 * (6 : Int32)) + x2) x3).bind fun M2 =>
  (nq_as M2 (p + 1) 36 ((x2 * (6 : Int32)) + x1) x3).bind fun M3 =>
  (fX2_measure p M3).bind fun M5 =>
  some (v1, M5)
set_option maxHeartbeats 4000000 in
theorem mX2_join {X : Cx} {E : Ev} {l : Launch} {K : List Sh} {p : Nat} {x1 : Int32} {x2 : Int32} {x3 : Int32} {M : Mem} {r : Int32} {M' : Mem} (hL : nq_atRoads E K p) (hX : nq_OK X E l (nq_rm 3) cX2_join 5 RX2 wsX2_join) (hr : nq_RT X E (some .int) (some (.int r)) K M') (h : fX2_join p x1 x2 x3 M = some (r, M')) : nq_G X E 5 0 [(0, .ref (nq_ad E p)), (1, .int x1), (2, .int x2), (3, .int x3)] [] K M := by
  unfold fX2_join at h
  refine nq_aload_n hX rfl 0 rfl dX2_join_0 ?_
  refine nq_getr (v := .ref (nq_ad E (p + 1))) hX inX2_join_2 (nq_Roads_0 hL) rfl 1 (by decide) lkX2_join_15 _ rfl rfl dX2_join_1 ?_
  refine nq_iload_n hX rfl 1 rfl dX2_join_4 ?_
  refine nq_bipush hX (v := 6) (by decide) dX2_join_5 ?_
  refine nq_imul hX dX2_join_7 ?_
  refine nq_iload_n hX rfl 2 rfl dX2_join_8 ?_
  refine nq_iadd hX dX2_join_9 ?_
  obtain ⟨v1, e1, hi1, h⟩ := nq_agE h
  refine nq_iald hX (nq_Roads_nears hL) e1 hi1 dX2_join_10 ?_
  refine nq_istore hX (lv' := [(4, .int v1), (0, .ref (nq_ad E p)), (1, .int x1), (2, .int x2), (3, .int x3)]) (by decide) rfl rfl dX2_join_11 ?_
  refine nq_aload_n hX rfl 1 rfl dX2_join_13 ?_
  refine nq_getr (v := .ref (nq_ad E (p + 1))) hX inX2_join_2 (nq_Roads_0 hL) rfl 1 (by decide) lkX2_join_15 _ rfl rfl dX2_join_14 ?_
  refine nq_iload_n hX rfl 2 rfl dX2_join_17 ?_
  refine nq_bipush hX (v := 6) (by decide) dX2_join_18 ?_
  refine nq_imul hX dX2_join_20 ?_
  refine nq_iload_n hX rfl 3 rfl dX2_join_21 ?_
  refine nq_iadd hX dX2_join_22 ?_
  refine nq_iload_n hX rfl 4 rfl dX2_join_23 ?_
  obtain ⟨M2, e2, hi2, h⟩ := nq_asE h
  refine nq_iast hX (nq_Roads_nears hL) e2 hi2 dX2_join_24 ?_
  refine nq_aload_n hX rfl 1 rfl dX2_join_25 ?_
  refine nq_getr (v := .ref (nq_ad E (p + 1))) hX inX2_join_2 (nq_Roads_0 hL) rfl 1 (by decide) lkX2_join_15 _ rfl rfl dX2_join_26 ?_
  refine nq_iload_n hX rfl 3 rfl dX2_join_29 ?_
  refine nq_bipush hX (v := 6) (by decide) dX2_join_30 ?_
  refine nq_imul hX dX2_join_32 ?_
  refine nq_iload_n hX rfl 2 rfl dX2_join_33 ?_
  refine nq_iadd hX dX2_join_34 ?_
  refine nq_iload_n hX rfl 4 rfl dX2_join_35 ?_
  obtain ⟨M3, e3, hi3, h⟩ := nq_asE h
  refine nq_iast hX (nq_Roads_nears hL) e3 hi3 dX2_join_36 ?_
  refine nq_aload_n hX rfl 1 rfl dX2_join_37 ?_
  obtain ⟨M5, hc4, h⟩ := nq_bE h
  refine nq_callVv hX (tX2_measure hL hc4) gX2_join_X2_measure rfl rfl dsX2_measure (by decide) (nq_Roads_0 hL) rfl rfl (Nat.le_of_ble_eq_true rfl) dX2_join_38 ?_
  refine nq_iload hX 0 rfl dX2_join_41 ?_
  obtain ⟨rfl, rfl⟩ := nq_sE2 h; exact nq_iret hX hr dX2_join_43
theorem dsX2_join : yX2_join.cls ≠ "java/lang/invoke/MethodHandle" ∧ yX2_join.cls ≠ "java/lang/invoke/VarHandle" ∧ (parseMethodDescriptor yX2_join.desc).map (fun d => d.parameters.length) = some 3 := by decide +kernel
theorem tX2_join {l : Launch} {E : Ev} {K : List Sh} {p : Nat} {x1 : Int32} {x2 : Int32} {x3 : Int32} {M : Mem} {r : Int32} {M' : Mem} (hL : nq_atRoads E K p) (h : fX2_join p x1 x2 x3 M = some (r, M')) : nq_MA l E yX2_join wsX2_join (nq_rm 3) [.ref (nq_ad E p), .int x1, .int x2, .int x3] K M (some (.int r)) K M' :=
  nq_met (own := RX2) (cc := cX2_join) (maxL := 5) (ret := (some .int)) (by decide) rfl rfl (Nat.le_of_ble_eq_true rfl) (fun X hX hr => mX2_join hL hX hr h)

theorem inX2_years_2 : ∀ w ∈ u_ws RX2 TX2 3, w ∈ wsX2_years := by
  intro w h; unfold wsX2_years; simp only [List.mem_cons, List.mem_append]; simp only [h, true_or, or_true]
theorem lkX2_years_19 : Cond.fieldLink RX2 19 (TX2 2).1 (TX2 2).2.1 (TX2 2).2.2.1 ∈ wsX2_years := by decide +kernel
theorem mmX2_years_c25 : Cond.constant RX2 25 (1000000) ∈ wsX2_years := by decide +kernel
def fX2_years (p : Nat) (x1 : Int32) (x2 : Int32) (M : Mem) : Option (Int32) :=
  (nq_ag (M (p + 2)) 36 ((x1 * (6 : Int32)) + x2)).bind fun v1 =>
  if v1 < (1000000 : Int32) then
  ((nq_dv v1 (10 : Int32)).bind fun v3 =>
  some v3)
  else
  (some (-1 : Int32))
set_option maxHeartbeats 4000000 in
theorem mX2_years {X : Cx} {E : Ev} {l : Launch} {K : List Sh} {p : Nat} {x1 : Int32} {x2 : Int32} {M : Mem} {r : Int32} (hL : nq_atRoads E K p) (hX : nq_OK X E l (nq_rm 1) cX2_years 4 RX2 wsX2_years) (hr : nq_RT X E (some .int) (some (.int r)) K M) (h : fX2_years p x1 x2 M = some r) : nq_G X E 4 0 [(0, .ref (nq_ad E p)), (1, .int x1), (2, .int x2)] [] K M := by
  unfold fX2_years at h
  refine nq_aload_n hX rfl 0 rfl dX2_years_0 ?_
  refine nq_getr (v := .ref (nq_ad E (p + 2))) hX inX2_years_2 (nq_Roads_0 hL) rfl 2 (by decide) lkX2_years_19 _ rfl rfl dX2_years_1 ?_
  refine nq_iload_n hX rfl 1 rfl dX2_years_4 ?_
  refine nq_bipush hX (v := 6) (by decide) dX2_years_5 ?_
  refine nq_imul hX dX2_years_7 ?_
  refine nq_iload_n hX rfl 2 rfl dX2_years_8 ?_
  refine nq_iadd hX dX2_years_9 ?_
  obtain ⟨v1, e1, hi1, h⟩ := nq_agE h
  refine nq_iald hX (nq_Roads_lengths hL) e1 hi1 dX2_years_10 ?_
  refine nq_istore_n hX (lv' := [(3, .int v1), (0, .ref (nq_ad E p)), (1, .int x1), (2, .int x2)]) rfl (by decide) rfl rfl dX2_years_11 ?_
  refine nq_iload_n hX rfl 0 rfl dX2_years_12 ?_
  refine nq_ldc hX (v := 1000000) mmX2_years_c25 dX2_years_13 ?_
  refine nq_icmp_lt hX (tgt := 22) (by decide) dX2_years_15 (fun c2 => ?_) (fun c2 => ?_)
  · rw [if_pos c2] at h
    refine nq_iload_n hX rfl 0 rfl dX2_years_22 ?_
    refine nq_bipush hX (v := 10) (by decide) dX2_years_23 ?_
    obtain ⟨v3, e3, hn3, h⟩ := nq_ifE h
    refine nq_idiv hX hn3 e3 dX2_years_25 ?_
    obtain rfl := nq_sE1 h; exact nq_iret hX hr dX2_years_26
  · rw [if_neg c2] at h
    refine nq_iconst hX (v := -1) (by decide) dX2_years_18 ?_
    refine nq_goto hX (tgt := 26) (by decide) dX2_years_19 ?_
    obtain rfl := nq_sE1 h; exact nq_iret hX hr dX2_years_26
theorem dsX2_years : yX2_years.cls ≠ "java/lang/invoke/MethodHandle" ∧ yX2_years.cls ≠ "java/lang/invoke/VarHandle" ∧ (parseMethodDescriptor yX2_years.desc).map (fun d => d.parameters.length) = some 2 := by decide +kernel
theorem tX2_years {l : Launch} {E : Ev} {K : List Sh} {p : Nat} {x1 : Int32} {x2 : Int32} {M : Mem} {r : Int32} (hL : nq_atRoads E K p) (h : fX2_years p x1 x2 M = some r) : nq_MA l E yX2_years wsX2_years (nq_rm 1) [.ref (nq_ad E p), .int x1, .int x2] K M (some (.int r)) K M :=
  nq_met (own := RX2) (cc := cX2_years) (maxL := 4) (ret := (some .int)) (by decide) rfl rfl (Nat.le_of_ble_eq_true rfl) (fun X hX hr => mX2_years hL hX hr h)

theorem inX2_stops_2 : ∀ w ∈ u_ws RX2 TX2 3, w ∈ wsX2_stops := by
  intro w h; unfold wsX2_stops; simp only [List.mem_cons, List.mem_append]; simp only [h, true_or, or_true]
theorem lkX2_stops_19 : Cond.fieldLink RX2 19 (TX2 2).1 (TX2 2).2.1 (TX2 2).2.2.1 ∈ wsX2_stops := by decide +kernel
def fX2_stops (p : Nat) (x1 : Int32) (x2 : Int32) (M : Mem) : Option (Int32) :=
  (nq_ag (M (p + 2)) 36 ((x1 * (6 : Int32)) + x2)).bind fun v1 =>
  (nq_rem v1 (10 : Int32)).bind fun v2 =>
  some (v2 + (1 : Int32))
set_option maxHeartbeats 4000000 in
theorem mX2_stops {X : Cx} {E : Ev} {l : Launch} {K : List Sh} {p : Nat} {x1 : Int32} {x2 : Int32} {M : Mem} {r : Int32} (hL : nq_atRoads E K p) (hX : nq_OK X E l (nq_rm 1) cX2_stops 3 RX2 wsX2_stops) (hr : nq_RT X E (some .int) (some (.int r)) K M) (h : fX2_stops p x1 x2 M = some r) : nq_G X E 3 0 [(0, .ref (nq_ad E p)), (1, .int x1), (2, .int x2)] [] K M := by
  unfold fX2_stops at h
  refine nq_aload_n hX rfl 0 rfl dX2_stops_0 ?_
  refine nq_getr (v := .ref (nq_ad E (p + 2))) hX inX2_stops_2 (nq_Roads_0 hL) rfl 2 (by decide) lkX2_stops_19 _ rfl rfl dX2_stops_1 ?_
  refine nq_iload_n hX rfl 1 rfl dX2_stops_4 ?_
  refine nq_bipush hX (v := 6) (by decide) dX2_stops_5 ?_
  refine nq_imul hX dX2_stops_7 ?_
  refine nq_iload_n hX rfl 2 rfl dX2_stops_8 ?_
  refine nq_iadd hX dX2_stops_9 ?_
  obtain ⟨v1, e1, hi1, h⟩ := nq_agE h
  refine nq_iald hX (nq_Roads_lengths hL) e1 hi1 dX2_stops_10 ?_
  refine nq_bipush hX (v := 10) (by decide) dX2_stops_11 ?_
  obtain ⟨v2, e2, hn2, h⟩ := nq_ifE h
  refine nq_irem hX hn2 e2 dX2_stops_13 ?_
  refine nq_iconst hX (v := 1) (by decide) dX2_stops_14 ?_
  refine nq_iadd hX dX2_stops_15 ?_
  obtain rfl := nq_sE1 h; exact nq_iret hX hr dX2_stops_16
theorem dsX2_stops : yX2_stops.cls ≠ "java/lang/invoke/MethodHandle" ∧ yX2_stops.cls ≠ "java/lang/invoke/VarHandle" ∧ (parseMethodDescriptor yX2_stops.desc).map (fun d => d.parameters.length) = some 2 := by decide +kernel
theorem tX2_stops {l : Launch} {E : Ev} {K : List Sh} {p : Nat} {x1 : Int32} {x2 : Int32} {M : Mem} {r : Int32} (hL : nq_atRoads E K p) (h : fX2_stops p x1 x2 M = some r) : nq_MA l E yX2_stops wsX2_stops (nq_rm 1) [.ref (nq_ad E p), .int x1, .int x2] K M (some (.int r)) K M :=
  nq_met (own := RX2) (cc := cX2_stops) (maxL := 3) (ret := (some .int)) (by decide) rfl rfl (Nat.le_of_ble_eq_true rfl) (fun X hX hr => mX2_stops hL hX hr h)

theorem inX2_nextStop_2 : ∀ w ∈ u_ws RX2 TX2 3, w ∈ wsX2_nextStop := by
  intro w h; unfold wsX2_nextStop; simp only [List.mem_cons, List.mem_append]; simp only [h, true_or, or_true]
theorem lkX2_nextStop_19 : Cond.fieldLink RX2 19 (TX2 2).1 (TX2 2).2.1 (TX2 2).2.2.1 ∈ wsX2_nextStop := by decide +kernel
def fX2_nextStop_B2 (p : Nat) (x1 : Int32) (x2 : Int32) (x3 : Int32) (M : Mem) : Option ((Int32) ⊕ ((Unit) ⊕ (Int32))) :=
  if (6 : Int32) ≤ x3 then
  (some (.inr (.inl ())))
  else
  ((nq_ag (M (p + 2)) 36 ((x1 * (6 : Int32)) + x2)).bind fun v2 =>
  (nq_ag (M (p + 2)) 36 ((x3 * (6 : Int32)) + x2)).bind fun v3 =>
  nq_lt ((v2 - v3)) fun v4 =>
  if x3 = x1 then
  (nq_lt (x3 + (1 : Int32)) fun v6 =>
  some (.inl v6))
  else
  ((fX2_step p x1 x3 M).bind fun v8 =>
  if v4 = v8 then
  (some (.inr (.inr x3)))
  else
  (nq_lt (x3 + (1 : Int32)) fun v10 =>
  some (.inl v10))))
set_option maxHeartbeats 4000000 in
theorem mX2_nextStop_B2 {X : Cx} {E : Ev} {l : Launch} {K : List Sh} {p : Nat} {x1 : Int32} {x2 : Int32} {x3 : Int32} {M : Mem} (hL : nq_atRoads E K p) (hX : nq_OK X E l (nq_rm 2) cX2_nextStop 5 RX2 wsX2_nextStop) {x : (Int32) ⊕ ((Unit) ⊕ (Int32))} (hc : ∀ s' : Int32, x = .inl s' → nq_G X E 5 2 [(0, .ref (nq_ad E p)), (1, .int x1), (2, .int x2), (3, .int s')] [] K M) (he : ∀ s' : Unit, x = .inr (.inl s') → nq_G X E 5 57 [(2, .int x2)] [] K M) (hret : ∀ r : Int32, x = .inr (.inr r) → nq_RT X E (some .int) (some (.int r)) K M) (h : fX2_nextStop_B2 p x1 x2 x3 M = some x) : nq_G X E 5 2 [(0, .ref (nq_ad E p)), (1, .int x1), (2, .int x2), (3, .int x3)] [] K M := by
  unfold fX2_nextStop_B2 at h
  refine nq_iload_n hX rfl 3 rfl dX2_nextStop_2 ?_
  refine nq_bipush hX (v := 6) (by decide) dX2_nextStop_3 ?_
  refine nq_icmp_ge hX (tgt := 57) (by decide) dX2_nextStop_5 (fun c1 => ?_) (fun c1 => ?_)
  · rw [if_pos c1] at h
    refine nq_sub (lv' := [(2, .int x2)]) [2] rfl ?_
    exact he () (nq_sE h).symm
  · rw [if_neg c1] at h
    refine nq_aload_n hX rfl 0 rfl dX2_nextStop_8 ?_
    refine nq_getr (v := .ref (nq_ad E (p + 2))) hX inX2_nextStop_2 (nq_Roads_0 hL) rfl 2 (by decide) lkX2_nextStop_19 _ rfl rfl dX2_nextStop_9 ?_
    refine nq_iload_n hX rfl 1 rfl dX2_nextStop_12 ?_
    refine nq_bipush hX (v := 6) (by decide) dX2_nextStop_13 ?_
    refine nq_imul hX dX2_nextStop_15 ?_
    refine nq_iload_n hX rfl 2 rfl dX2_nextStop_16 ?_
    refine nq_iadd hX dX2_nextStop_17 ?_
    obtain ⟨v2, e2, hi2, h⟩ := nq_agE h
    refine nq_iald hX (nq_Roads_lengths hL) e2 hi2 dX2_nextStop_18 ?_
    refine nq_aload_n hX rfl 0 rfl dX2_nextStop_19 ?_
    refine nq_getr (v := .ref (nq_ad E (p + 2))) hX inX2_nextStop_2 (nq_Roads_0 hL) rfl 2 (by decide) lkX2_nextStop_19 _ rfl rfl dX2_nextStop_20 ?_
    refine nq_iload_n hX rfl 3 rfl dX2_nextStop_23 ?_
    refine nq_bipush hX (v := 6) (by decide) dX2_nextStop_24 ?_
    refine nq_imul hX dX2_nextStop_26 ?_
    refine nq_iload_n hX rfl 2 rfl dX2_nextStop_27 ?_
    refine nq_iadd hX dX2_nextStop_28 ?_
    obtain ⟨v3, e3, hi3, h⟩ := nq_agE h
    refine nq_iald hX (nq_Roads_lengths hL) e3 hi3 dX2_nextStop_29 ?_
    refine nq_isub hX dX2_nextStop_30 ?_
    obtain ⟨v4, e4, h⟩ := nq_ltE h
    refine nq_istore hX (lv' := [(4, .int v4), (0, .ref (nq_ad E p)), (1, .int x1), (2, .int x2), (3, .int x3)]) (by decide) e4 rfl dX2_nextStop_31 ?_
    refine nq_iload_n hX rfl 4 rfl dX2_nextStop_33 ?_
    refine nq_iload_n hX rfl 2 rfl dX2_nextStop_34 ?_
    refine nq_icmp_eq hX (tgt := 51) (by decide) dX2_nextStop_35 (fun c5 => ?_) (fun c5 => ?_)
    · rw [if_pos c5] at h
      obtain ⟨v6, e6, h⟩ := nq_ltE h
      refine nq_iinc hX (lv' := [(3, .int v6), (4, .int v4), (0, .ref (nq_ad E p)), (1, .int x1), (2, .int x2)]) (j := 4) rfl (e6.trans rfl) (by decide) rfl dX2_nextStop_51 ?_
      refine nq_goto hX (tgt := 2) (by decide) dX2_nextStop_54 ?_
      refine nq_sub (lv' := [(0, .ref (nq_ad E p)), (1, .int x1), (2, .int x2), (3, .int v6)]) [2, 3, 4, 0] rfl ?_
      exact hc v6 (nq_sE h).symm
    · rw [if_neg c5] at h
      refine nq_iload hX 0 rfl dX2_nextStop_38 ?_
      refine nq_aload_n hX rfl 1 rfl dX2_nextStop_40 ?_
      refine nq_iload_n hX rfl 2 rfl dX2_nextStop_41 ?_
      refine nq_iload_n hX rfl 4 rfl dX2_nextStop_42 ?_
      obtain ⟨v8, hc7, h⟩ := nq_bE h
      refine nq_callVi hX (tX2_step hL hc7) gX2_nextStop_X2_step rfl rfl dsX2_step (by decide) (nq_Roads_0 hL) rfl rfl (Nat.le_of_ble_eq_true rfl) dX2_nextStop_43 ?_
      refine nq_icmp_ne hX (tgt := 51) (by decide) dX2_nextStop_46 (fun c9 => ?_) (fun c9 => ?_)
      · rw [if_pos c9] at h
        refine nq_iload_n hX rfl 4 rfl dX2_nextStop_49 ?_
        exact nq_iret hX (hret x3 (nq_sE h).symm) dX2_nextStop_50
      · rw [if_neg c9] at h
        obtain ⟨v10, e10, h⟩ := nq_ltE h
        refine nq_iinc hX (lv' := [(3, .int v10), (4, .int v4), (0, .ref (nq_ad E p)), (1, .int x1), (2, .int x2)]) (j := 4) rfl (e10.trans rfl) (by decide) rfl dX2_nextStop_51 ?_
        refine nq_goto hX (tgt := 2) (by decide) dX2_nextStop_54 ?_
        refine nq_sub (lv' := [(0, .ref (nq_ad E p)), (1, .int x1), (2, .int x2), (3, .int v10)]) [2, 3, 4, 0] rfl ?_
        exact hc v10 (nq_sE h).symm
def fX2_nextStop_L57 (p : Nat) (x2 : Int32) (M : Mem) : Option (Int32) :=
  some x2
set_option maxHeartbeats 4000000 in
theorem mX2_nextStop_L57 {X : Cx} {E : Ev} {l : Launch} {K : List Sh} {p : Nat} {x2 : Int32} {M : Mem} {r : Int32} (hL : nq_atRoads E K p) (hX : nq_OK X E l (nq_rm 2) cX2_nextStop 5 RX2 wsX2_nextStop) (hr : nq_RT X E (some .int) (some (.int r)) K M) (h : fX2_nextStop_L57 p x2 M = some r) : nq_G X E 5 57 [(2, .int x2)] [] K M := by
  unfold fX2_nextStop_L57 at h
  refine nq_iload_n hX rfl 0 rfl dX2_nextStop_57 ?_
  obtain rfl := nq_sE1 h; exact nq_iret hX hr dX2_nextStop_58
def fX2_nextStop_L2 (p : Nat) (x1 : Int32) (x2 : Int32) (x3 : Int32) (M : Mem) : Option (Int32) :=
  (nq_lp (fun s : Int32 => fX2_nextStop_B2 p x1 x2 s M) nq_fuel x3).bind (Sum.elim (fun e => fX2_nextStop_L57 p x2 M) (fun r1 => some r1))
set_option maxHeartbeats 4000000 in
theorem mX2_nextStop_L2 {X : Cx} {E : Ev} {l : Launch} {K : List Sh} {p : Nat} {x1 : Int32} {x2 : Int32} {x3 : Int32} {M : Mem} {r : Int32} (hL : nq_atRoads E K p) (hX : nq_OK X E l (nq_rm 2) cX2_nextStop 5 RX2 wsX2_nextStop) (hr : nq_RT X E (some .int) (some (.int r)) K M) (h : fX2_nextStop_L2 p x1 x2 x3 M = some r) : nq_G X E 5 2 [(0, .ref (nq_ad E p)), (1, .int x1), (2, .int x2), (3, .int x3)] [] K M := by
  unfold fX2_nextStop_L2 at h
  obtain ⟨e, h1, h⟩ := nq_bE h
  have key : ∀ (ex : (Unit) ⊕ (Int32)), nq_lp (fun s : Int32 => fX2_nextStop_B2 p x1 x2 s M) nq_fuel x3 = some ex → (∀ e, ex = .inl e → nq_G X E 5 57 [(2, .int x2)] [] K M) → (∀ r, ex = .inr r → nq_RT X E (some .int) (some (.int r)) K M) → nq_G X E 5 2 [(0, .ref (nq_ad E p)), (1, .int x1), (2, .int x2), (3, .int x3)] [] K M := by
    intro ex h1 hE hR
    refine nq_lpE (P := fun s : Int32 => nq_G X E 5 2 [(0, .ref (nq_ad E p)), (1, .int x1), (2, .int x2), (3, .int s)] [] K M) (r := ex) ?_ nq_fuel x3 h1
    intro s xx hx1 hc1 he1
    exact mX2_nextStop_B2 hL hX hc1 (fun e q => hE e (he1 _ q).symm) (fun r q => hR r (he1 _ q).symm) hx1
  refine key e h1 (fun e q => ?_) (fun r1 q => ?_)
  · subst q
    have h : fX2_nextStop_L57 p x2 M = some r := h
    exact mX2_nextStop_L57 hL hX hr h
  · subst q
    have h : some r1 = some r := h
    obtain rfl := nq_sE1 h; exact hr
def fX2_nextStop (p : Nat) (x1 : Int32) (x2 : Int32) (M : Mem) : Option (Int32) :=
  fX2_nextStop_L2 p x1 x2 (0 : Int32) M
set_option maxHeartbeats 4000000 in
theorem mX2_nextStop {X : Cx} {E : Ev} {l : Launch} {K : List Sh} {p : Nat} {x1 : Int32} {x2 : Int32} {M : Mem} {r : Int32} (hL : nq_atRoads E K p) (hX : nq_OK X E l (nq_rm 2) cX2_nextStop 5 RX2 wsX2_nextStop) (hr : nq_RT X E (some .int) (some (.int r)) K M) (h : fX2_nextStop p x1 x2 M = some r) : nq_G X E 5 0 [(0, .ref (nq_ad E p)), (1, .int x1), (2, .int x2)] [] K M := by
  unfold fX2_nextStop at h
  refine nq_iconst hX (v := 0) (by decide) dX2_nextStop_0 ?_
  refine nq_istore_n hX (lv' := [(3, .int (0 : Int32)), (0, .ref (nq_ad E p)), (1, .int x1), (2, .int x2)]) rfl (by decide) rfl rfl dX2_nextStop_1 ?_
  refine nq_sub (lv' := [(0, .ref (nq_ad E p)), (1, .int x1), (2, .int x2), (3, .int (0 : Int32))]) [1, 2, 3, 0] rfl ?_
  exact mX2_nextStop_L2 hL hX hr h
theorem dsX2_nextStop : yX2_nextStop.cls ≠ "java/lang/invoke/MethodHandle" ∧ yX2_nextStop.cls ≠ "java/lang/invoke/VarHandle" ∧ (parseMethodDescriptor yX2_nextStop.desc).map (fun d => d.parameters.length) = some 2 := by decide +kernel
theorem tX2_nextStop {l : Launch} {E : Ev} {K : List Sh} {p : Nat} {x1 : Int32} {x2 : Int32} {M : Mem} {r : Int32} (hL : nq_atRoads E K p) (h : fX2_nextStop p x1 x2 M = some r) : nq_MA l E yX2_nextStop wsX2_nextStop (nq_rm 2) [.ref (nq_ad E p), .int x1, .int x2] K M (some (.int r)) K M :=
  nq_met (own := RX2) (cc := cX2_nextStop) (maxL := 5) (ret := (some .int)) (by decide) rfl rfl (Nat.le_of_ble_eq_true rfl) (fun X hX hr => mX2_nextStop hL hX hr h)

def fX2_stop_B6 (p : Nat) (x2 : Int32) (x3 : Int32) (x4 : Int32) (x5 : Int32) (M : Mem) : Option ((Int32 × Int32) ⊕ (Int32)) :=
  if x3 ≤ x5 then
  (some (.inr x4))
  else
  ((fX2_nextStop p x4 x2 M).bind fun v3 =>
  nq_lt (x5 + (1 : Int32)) fun v4 =>
  some (.inl (v3, v4)))
set_option maxHeartbeats 4000000 in
theorem mX2_stop_B6 {X : Cx} {E : Ev} {l : Launch} {K : List Sh} {p : Nat} {x2 : Int32} {x3 : Int32} {x4 : Int32} {x5 : Int32} {M : Mem} (hL : nq_atRoads E K p) (hX : nq_OK X E l (nq_rm 3) cX2_stop 6 RX2 wsX2_stop) {x : (Int32 × Int32) ⊕ (Int32)} (hc : ∀ s' : Int32 × Int32, x = .inl s' → nq_G X E 6 6 [(0, .ref (nq_ad E p)), (2, .int x2), (3, .int x3), (4, .int s'.1), (5, .int s'.2)] [] K M) (he : ∀ s' : Int32, x = .inr s' → nq_G X E 6 27 [(4, .int s')] [] K M) (h : fX2_stop_B6 p x2 x3 x4 x5 M = some x) : nq_G X E 6 6 [(0, .ref (nq_ad E p)), (2, .int x2), (3, .int x3), (4, .int x4), (5, .int x5)] [] K M := by
  unfold fX2_stop_B6 at h
  refine nq_iload hX 4 rfl dX2_stop_6 ?_
  refine nq_iload_n hX rfl 2 rfl dX2_stop_8 ?_
  refine nq_icmp_ge hX (tgt := 27) (by decide) dX2_stop_9 (fun c1 => ?_) (fun c1 => ?_)
  · rw [if_pos c1] at h
    refine nq_sub (lv' := [(4, .int x4)]) [3] rfl ?_
    exact he x4 (nq_sE h).symm
  · rw [if_neg c1] at h
    refine nq_aload_n hX rfl 0 rfl dX2_stop_12 ?_
    refine nq_iload hX 3 rfl dX2_stop_13 ?_
    refine nq_iload_n hX rfl 1 rfl dX2_stop_15 ?_
    obtain ⟨v3, hc2, h⟩ := nq_bE h
    refine nq_callVi hX (tX2_nextStop hL hc2) gX2_stop_X2_nextStop rfl rfl dsX2_nextStop (by decide) (nq_Roads_0 hL) rfl rfl (Nat.le_of_ble_eq_true rfl) dX2_stop_16 ?_
    refine nq_istore hX (lv' := [(4, .int v3), (0, .ref (nq_ad E p)), (2, .int x2), (3, .int x3), (5, .int x5)]) (by decide) rfl rfl dX2_stop_19 ?_
    obtain ⟨v4, e4, h⟩ := nq_ltE h
    refine nq_iinc hX (lv' := [(5, .int v4), (4, .int v3), (0, .ref (nq_ad E p)), (2, .int x2), (3, .int x3)]) (j := 4) rfl (e4.trans rfl) (by decide) rfl dX2_stop_21 ?_
    refine nq_goto hX (tgt := 6) (by decide) dX2_stop_24 ?_
    refine nq_sub (lv' := [(0, .ref (nq_ad E p)), (2, .int x2), (3, .int x3), (4, .int v3), (5, .int v4)]) [2, 3, 4, 1, 0] rfl ?_
    exact hc (v3, v4) (nq_sE h).symm
def fX2_stop_L27 (p : Nat) (x4 : Int32) (M : Mem) : Option (Int32) :=
  some x4
set_option maxHeartbeats 4000000 in
theorem mX2_stop_L27 {X : Cx} {E : Ev} {l : Launch} {K : List Sh} {p : Nat} {x4 : Int32} {M : Mem} {r : Int32} (hL : nq_atRoads E K p) (hX : nq_OK X E l (nq_rm 3) cX2_stop 6 RX2 wsX2_stop) (hr : nq_RT X E (some .int) (some (.int r)) K M) (h : fX2_stop_L27 p x4 M = some r) : nq_G X E 6 27 [(4, .int x4)] [] K M := by
  unfold fX2_stop_L27 at h
  refine nq_iload hX 0 rfl dX2_stop_27 ?_
  obtain rfl := nq_sE1 h; exact nq_iret hX hr dX2_stop_29
def fX2_stop_L6 (p : Nat) (x2 : Int32) (x3 : Int32) (x4 : Int32) (x5 : Int32) (M : Mem) : Option (Int32) :=
  (nq_lp (fun s : Int32 × Int32 => fX2_stop_B6 p x2 x3 s.1 s.2 M) nq_fuel (x4, x5)).bind (fun e => fX2_stop_L27 p e M)
set_option maxHeartbeats 4000000 in
theorem mX2_stop_L6 {X : Cx} {E : Ev} {l : Launch} {K : List Sh} {p : Nat} {x2 : Int32} {x3 : Int32} {x4 : Int32} {x5 : Int32} {M : Mem} {r : Int32} (hL : nq_atRoads E K p) (hX : nq_OK X E l (nq_rm 3) cX2_stop 6 RX2 wsX2_stop) (hr : nq_RT X E (some .int) (some (.int r)) K M) (h : fX2_stop_L6 p x2 x3 x4 x5 M = some r) : nq_G X E 6 6 [(0, .ref (nq_ad E p)), (2, .int x2), (3, .int x3), (4, .int x4), (5, .int x5)] [] K M := by
  unfold fX2_stop_L6 at h
  obtain ⟨e, h1, h⟩ := nq_bE h
  have key : ∀ (ex : Int32), nq_lp (fun s : Int32 × Int32 => fX2_stop_B6 p x2 x3 s.1 s.2 M) nq_fuel (x4, x5) = some ex → (∀ e, ex = e → nq_G X E 6 27 [(4, .int e)] [] K M) → nq_G X E 6 6 [(0, .ref (nq_ad E p)), (2, .int x2), (3, .int x3), (4, .int ((x4, x5).1)), (5, .int ((x4, x5).2))] [] K M := by
    intro ex h1 hE
    refine nq_lpE (P := fun s : Int32 × Int32 => nq_G X E 6 6 [(0, .ref (nq_ad E p)), (2, .int x2), (3, .int x3), (4, .int s.1), (5, .int s.2)] [] K M) (r := ex) ?_ nq_fuel (x4, x5) h1
    intro s xx hx1 hc1 he1
    exact mX2_stop_B6 hL hX hc1 (fun e q => hE e (he1 _ q).symm) hx1
  refine key e h1 (fun e q => ?_)
  subst q
  exact mX2_stop_L27 hL hX hr h
def fX2_stop (p : Nat) (x1 : Int32) (x2 : Int32) (x3 : Int32) (M : Mem) : Option (Int32) :=
  fX2_stop_L6 p x2 x3 x1 (0 : Int32) M
set_option maxHeartbeats 4000000 in
theorem mX2_stop {X : Cx} {E : Ev} {l : Launch} {K : List Sh} {p : Nat} {x1 : Int32} {x2 : Int32} {x3 : Int32} {M : Mem} {r : Int32} (hL : nq_atRoads E K p) (hX : nq_OK X E l (nq_rm 3) cX2_stop 6 RX2 wsX2_stop) (hr : nq_RT X E (some .int) (some (.int r)) K M) (h : fX2_stop p x1 x2 x3 M = some r) : nq_G X E 6 0 [(0, .ref (nq_ad E p)), (1, .int x1), (2, .int x2), (3, .int x3)] [] K M := by
  unfold fX2_stop at h
  refine nq_iload_n hX rfl 1 rfl dX2_stop_0 ?_
  refine nq_istore hX (lv' := [(4, .int x1), (0, .ref (nq_ad E p)), (1, .int x1), (2, .int x2), (3, .int x3)]) (by decide) rfl rfl dX2_stop_1 ?_
  refine nq_iconst hX (v := 0) (by decide) dX2_stop_3 ?_
  refine nq_istore hX (lv' := [(5, .int (0 : Int32)), (4, .int x1), (0, .ref (nq_ad E p)), (1, .int x1), (2, .int x2), (3, .int x3)]) (by decide) rfl rfl dX2_stop_4 ?_
  refine nq_sub (lv' := [(0, .ref (nq_ad E p)), (2, .int x2), (3, .int x3), (4, .int x1), (5, .int (0 : Int32))]) [2, 4, 5, 1, 0] rfl ?_
  exact mX2_stop_L6 hL hX hr h
theorem dsX2_stop : yX2_stop.cls ≠ "java/lang/invoke/MethodHandle" ∧ yX2_stop.cls ≠ "java/lang/invoke/VarHandle" ∧ (parseMethodDescriptor yX2_stop.desc).map (fun d => d.parameters.length) = some 3 := by decide +kernel
theorem tX2_stop {l : Launch} {E : Ev} {K : List Sh} {p : Nat} {x1 : Int32} {x2 : Int32} {x3 : Int32} {M : Mem} {r : Int32} (hL : nq_atRoads E K p) (h : fX2_stop p x1 x2 x3 M = some r) : nq_MA l E yX2_stop wsX2_stop (nq_rm 3) [.ref (nq_ad E p), .int x1, .int x2, .int x3] K M (some (.int r)) K M :=
  nq_met (own := RX2) (cc := cX2_stop) (maxL := 6) (ret := (some .int)) (by decide) rfl rfl (Nat.le_of_ble_eq_true rfl) (fun X hX hr => mX2_stop hL hX hr h)

theorem inX2_become_2 : ∀ w ∈ u_ws RX2 TX2 3, w ∈ wsX2_become := by
  intro w h; unfold wsX2_become; simp only [List.mem_cons, List.mem_append]; simp only [h, true_or, or_true]
theorem lkX2_become_9 : Cond.fieldLink RX2 9 (TX2 0).1 (TX2 0).2.1 (TX2 0).2.2.1 ∈ wsX2_become := by decide +kernel
theorem lkX2_become_15 : Cond.fieldLink RX2 15 (TX2 1).1 (TX2 1).2.1 (TX2 1).2.2.1 ∈ wsX2_become := by decide +kernel
theorem mmX2_become_k30 : Cond.methodLink RX2 30 arraycopyName ∈ wsX2_become := by decide +kernel
theorem mmX2_become_nacp : Cond.native arraycopyName ∈ wsX2_become := by decide +kernel
theorem mmX2_become_stcp : Cond.static arraycopyName ∈ wsX2_become := by decide +kernel
theorem mmX2_become_isy : Cond.initialized "java/lang/System" ∈ wsX2_become := by decide +kernel
theorem lkX2_become_19 : Cond.fieldLink RX2 19 (TX2 2).1 (TX2 2).2.1 (TX2 2).2.2.1 ∈ wsX2_become := by decide +kernel
def fX2_become (p : Nat) (a0 : Nat) (M : Mem) : Option (Mem) :=
  nq_lt (M a0 0) fun v1 =>
  nq_lt (nq_wr M p 0 v1) fun M2 =>
  (nq_cp M2 (a0 + 1) 36 (0 : Int32) (p + 1) 36 (0 : Int32) (36 : Int32)).bind fun M3 =>
  (nq_cp M3 (a0 + 2) 36 (0 : Int32) (p + 2) 36 (0 : Int32) (36 : Int32)).bind fun M4 =>
  some M4
set_option maxHeartbeats 4000000 in
theorem mX2_become {X : Cx} {E : Ev} {l : Launch} {K : List Sh} {p : Nat} {a0 : Nat} {M : Mem} {M' : Mem} (hL : nq_atRoads E K p) (ha0 : nq_atRoads E K a0) (hX : nq_OK X E l (nq_rm 2) cX2_become 2 RX2 wsX2_become) (hr : nq_RT X E none none K M') (h : fX2_become p a0 M = some M') : nq_G X E 2 0 [(0, .ref (nq_ad E p)), (1, .ref (nq_ad E a0))] [] K M := by
  unfold fX2_become at h
  refine nq_aload_n hX rfl 0 rfl dX2_become_0 ?_
  refine nq_aload_n hX rfl 1 rfl dX2_become_1 ?_
  obtain ⟨v1, e1, h⟩ := nq_ltE h
  refine nq_geti hX inX2_become_2 (nq_Roads_0 ha0) rfl 0 (by decide) lkX2_become_9 rfl e1 dX2_become_2 ?_
  obtain ⟨M2, eM2, h⟩ := nq_ltE h
  refine nq_puti hX inX2_become_2 tyX2 tyX2_ok nmX2 (nq_Roads_0 hL) rfl 0 (by decide) lkX2_become_9 rfl rfl rfl rfl rfl eM2 dX2_become_5 ?_
  refine nq_aload_n hX rfl 1 rfl dX2_become_8 ?_
  refine nq_getr (v := .ref (nq_ad E (a0 + 1))) hX inX2_become_2 (nq_Roads_0 ha0) rfl 1 (by decide) lkX2_become_15 _ rfl rfl dX2_become_9 ?_
  refine nq_iconst hX (v := 0) (by decide) dX2_become_12 ?_
  refine nq_aload_n hX rfl 0 rfl dX2_become_13 ?_
  refine nq_getr (v := .ref (nq_ad E (p + 1))) hX inX2_become_2 (nq_Roads_0 hL) rfl 1 (by decide) lkX2_become_15 _ rfl rfl dX2_become_14 ?_
  refine nq_iconst hX (v := 0) (by decide) dX2_become_17 ?_
  refine nq_bipush hX (v := 36) (by decide) dX2_become_18 ?_
  obtain ⟨M3, e3, hi3, h⟩ := nq_cpE h
  refine nq_acopy hX mmX2_become_k30 mmX2_become_nacp mmX2_become_stcp mmX2_become_isy (nq_Roads_nears ha0) (nq_Roads_nears hL) e3 hi3 (by decide) (Nat.le_of_ble_eq_true rfl) dX2_become_20 ?_
  refine nq_aload_n hX rfl 1 rfl dX2_become_23 ?_
  refine nq_getr (v := .ref (nq_ad E (a0 + 2))) hX inX2_become_2 (nq_Roads_0 ha0) rfl 2 (by decide) lkX2_become_19 _ rfl rfl dX2_become_24 ?_
  refine nq_iconst hX (v := 0) (by decide) dX2_become_27 ?_
  refine nq_aload_n hX rfl 0 rfl dX2_become_28 ?_
  refine nq_getr (v := .ref (nq_ad E (p + 2))) hX inX2_become_2 (nq_Roads_0 hL) rfl 2 (by decide) lkX2_become_19 _ rfl rfl dX2_become_29 ?_
  refine nq_iconst hX (v := 0) (by decide) dX2_become_32 ?_
  refine nq_bipush hX (v := 36) (by decide) dX2_become_33 ?_
  obtain ⟨M4, e4, hi4, h⟩ := nq_cpE h
  refine nq_acopy hX mmX2_become_k30 mmX2_become_nacp mmX2_become_stcp mmX2_become_isy (nq_Roads_lengths ha0) (nq_Roads_lengths hL) e4 hi4 (by decide) (Nat.le_of_ble_eq_true rfl) dX2_become_35 ?_
  obtain rfl := nq_sE1 h; exact nq_vret hX hr dX2_become_38
theorem dsX2_become : yX2_become.cls ≠ "java/lang/invoke/MethodHandle" ∧ yX2_become.cls ≠ "java/lang/invoke/VarHandle" ∧ (parseMethodDescriptor yX2_become.desc).map (fun d => d.parameters.length) = some 1 := by decide +kernel
theorem tX2_become {l : Launch} {E : Ev} {K : List Sh} {p : Nat} {a0 : Nat} {M : Mem} {M' : Mem} (hL : nq_atRoads E K p) (ha0 : nq_atRoads E K a0) (h : fX2_become p a0 M = some M') : nq_MA l E yX2_become wsX2_become (nq_rm 2) [.ref (nq_ad E p), .ref (nq_ad E a0)] K M none K M' :=
  nq_met (own := RX2) (cc := cX2_become) (maxL := 2) (ret := none) (by decide) rfl rfl (Nat.le_of_ble_eq_true rfl) (fun X hX hr => mX2_become hL ha0 hX hr h)

