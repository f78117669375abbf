/-! printed by dec.py: Letters 0 -/
theorem inX0_isFor_0 : ∀ w ∈ u_ws RX0 TX0 11, w ∈ wsX0_isFor := by
  intro w h; unfold wsX0_isFor; simp only [List.mem_cons, List.mem_append]; simp only [h, true_or, or_true]
theorem lkX0_isFor_22 : Cond.fieldLink RX0 22 (TX0 3).1 (TX0 3).2.1 (TX0 3).2.2.1 ∈ wsX0_isFor := by decide +kernel
theorem lkX0_isFor_25 : Cond.fieldLink RX0 25 (TX0 4).1 (TX0 4).2.1 (TX0 4).2.2.1 ∈ wsX0_isFor := by decide +kernel
def fX0_isFor (p : Nat) (x1 : Int32) (x2 : Int32) (x3 : Int32) (M : Mem) : Option (Int32) :=
  (nq_ag (M (p + 3)) 80 x1).bind fun v1 =>
  if v1 = x2 then
  ((nq_ag (M (p + 4)) 80 x1).bind fun v3 =>
  if v3 = x3 then
  (some (1 : Int32))
  else
  (some (0 : Int32)))
  else
  (some (0 : Int32))
set_option maxHeartbeats 4000000 in
theorem mX0_isFor {X : Cx} {E : Ev} {l : Launch} {K : List Sh} {p : Nat} {x1 : Int32} {x2 : Int32} {x3 : Int32} {M : Mem} {r : Int32} (hL : nq_atLetters E K p) (hX : nq_OK X E l (nq_rm 1) cX0_isFor 4 RX0 wsX0_isFor) (hr : nq_RT X E (some .boolean) (some (.int r)) K M) (h : fX0_isFor p x1 x2 x3 M = some r) : nq_G X E 4 0 [(0, .ref (nq_ad E p)), (1, .int x1), (2, .int x2), (3, .int x3)] [] K M := by
  unfold fX0_isFor at h
  refine nq_aload_n hX rfl 0 rfl dX0_isFor_0 ?_
  refine nq_getr (v := .ref (nq_ad E (p + 3))) hX inX0_isFor_0 (nq_Letters_0 hL) rfl 3 (by decide) lkX0_isFor_22 _ rfl rfl dX0_isFor_1 ?_
  refine nq_iload_n hX rfl 1 rfl dX0_isFor_4 ?_
  obtain ⟨v1, e1, hi1, h⟩ := nq_agE h
  refine nq_iald hX (nq_Letters_tos hL) e1 hi1 dX0_isFor_5 ?_
  refine nq_iload_n hX rfl 2 rfl dX0_isFor_6 ?_
  refine nq_icmp_ne hX (tgt := 24) (by decide) dX0_isFor_7 (fun c2 => ?_) (fun c2 => ?_)
  · rw [if_pos c2] at h
    refine nq_aload_n hX rfl 0 rfl dX0_isFor_10 ?_
    refine nq_getr (v := .ref (nq_ad E (p + 4))) hX inX0_isFor_0 (nq_Letters_0 hL) rfl 4 (by decide) lkX0_isFor_25 _ rfl rfl dX0_isFor_11 ?_
    refine nq_iload_n hX rfl 1 rfl dX0_isFor_14 ?_
    obtain ⟨v3, e3, hi3, h⟩ := nq_agE h
    refine nq_iald hX (nq_Letters_pacts hL) e3 hi3 dX0_isFor_15 ?_
    refine nq_iload_n hX rfl 3 rfl dX0_isFor_16 ?_
    refine nq_icmp_ne hX (tgt := 24) (by decide) dX0_isFor_17 (fun c4 => ?_) (fun c4 => ?_)
    · rw [if_pos c4] at h
      refine nq_iconst hX (v := 1) (by decide) dX0_isFor_20 ?_
      refine nq_goto hX (tgt := 25) (by decide) dX0_isFor_21 ?_
      obtain rfl := nq_sE1 h; exact nq_zret hX hr rfl dX0_isFor_25
    · rw [if_neg c4] at h
      refine nq_iconst hX (v := 0) (by decide) dX0_isFor_24 ?_
      obtain rfl := nq_sE1 h; exact nq_zret hX hr rfl dX0_isFor_25
  · rw [if_neg c2] at h
    refine nq_iconst hX (v := 0) (by decide) dX0_isFor_24 ?_
    obtain rfl := nq_sE1 h; exact nq_zret hX hr rfl dX0_isFor_25
theorem dsX0_isFor : yX0_isFor.cls ≠ "java/lang/invoke/MethodHandle" ∧ yX0_isFor.cls ≠ "java/lang/invoke/VarHandle" ∧ (parseMethodDescriptor yX0_isFor.desc).map (fun d => d.parameters.length) = some 3 := by decide +kernel
theorem tX0_isFor {l : Launch} {E : Ev} {K : List Sh} {p : Nat} {x1 : Int32} {x2 : Int32} {x3 : Int32} {M : Mem} {r : Int32} (hL : nq_atLetters E K p) (h : fX0_isFor p x1 x2 x3 M = some r) : nq_MA l E yX0_isFor wsX0_isFor (nq_rm 1) [.ref (nq_ad E p), .int x1, .int x2, .int x3] K M (some (.int r)) K M :=
  nq_met (own := RX0) (cc := cX0_isFor) (maxL := 4) (ret := (some .boolean)) (by decide) rfl rfl (Nat.le_of_ble_eq_true rfl) (fun X hX hr => mX0_isFor hL hX hr h)

theorem inX0_deepest_0 : ∀ w ∈ u_ws RX0 TX0 11, w ∈ wsX0_deepest := by
  intro w h; unfold wsX0_deepest; simp only [List.mem_cons, List.mem_append]; simp only [h, true_or, or_true]
theorem lkX0_deepest_40 : Cond.fieldLink RX0 40 (TX0 9).1 (TX0 9).2.1 (TX0 9).2.2.1 ∈ wsX0_deepest := by decide +kernel
theorem lkX0_deepest_31 : Cond.fieldLink RX0 31 (TX0 6).1 (TX0 6).2.1 (TX0 6).2.2.1 ∈ wsX0_deepest := by decide +kernel
theorem lkX0_deepest_43 : Cond.fieldLink RX0 43 (TX0 10).1 (TX0 10).2.1 (TX0 10).2.2.1 ∈ wsX0_deepest := by decide +kernel
theorem lkX0_deepest_37 : Cond.fieldLink RX0 37 (TX0 8).1 (TX0 8).2.1 (TX0 8).2.2.1 ∈ wsX0_deepest := by decide +kernel
theorem mmX0_deepest_k58 : Cond.methodLink RX0 58 Lib.Math.max.name ∈ wsX0_deepest := by decide +kernel
theorem mmX0_deepest_stmax : Cond.static Lib.Math.max.name ∈ wsX0_deepest := by decide +kernel
theorem mmX0_deepest_im : Cond.initialized "java/lang/Math" ∈ wsX0_deepest := by decide +kernel
theorem mmX0_deepest_cdmax : Cond.code Lib.Math.max.name Lib.Math.max.code 2 (some .int) ∈ wsX0_deepest := by decide +kernel
def fX0_deepest_B6 (p : Nat) (x1 : Int32) (x2 : Int32) (x3 : Int32) (x4 : Int32) (x5 : Int32) (M : Mem) : Option ((Int32 × Int32) ⊕ (Int32)) :=
  nq_lt (M p 9) fun v1 =>
  if v1 ≤ x5 then
  (some (.inr x4))
  else
  ((nq_ag (M (p + 9)) 80 x5).bind fun v3 =>
  (nq_ag (M (p + 6)) 80 v3).bind fun v4 =>
  if x3 < v4 then
  (some (.inr x4))
  else
  ((nq_ag (M (p + 9)) 80 x5).bind fun v6 =>
  (fX0_isFor p v6 x1 x2 M).bind fun v8 =>
  if v8 = 0 then
  (nq_lt (x5 + (1 : Int32)) fun v10 =>
  some (.inl (x4, v10)))
  else
  ((nq_ag (M (p + 9)) 80 x5).bind fun v11 =>
  (nq_ag (M (p + 8)) 80 v11).bind fun v12 =>
  nq_lt (if x4 < v12 then v12 else x4) fun v13 =>
  nq_lt (x5 + (1 : Int32)) fun v14 =>
  some (.inl (v13, v14)))))
set_option maxHeartbeats 4000000 in
theorem mX0_deepest_B6 {X : Cx} {E : Ev} {l : Launch} {K : List Sh} {p : Nat} {x1 : Int32} {x2 : Int32} {x3 : Int32} {x4 : Int32} {x5 : Int32} {M : Mem} (hL : nq_atLetters E K p) (hX : nq_OK X E l (nq_rm 2) cX0_deepest 6 RX0 wsX0_deepest) {x : (Int32 × Int32) ⊕ (Int32)} (hc : ∀ s' : Int32 × Int32, x = .inl s' → nq_G X E 6 6 [(0, .ref (nq_ad E p)), (1, .int x1), (2, .int x2), (3, .int x3), (4, .int s'.1), (5, .int s'.2)] [] K M) (he : ∀ s' : Int32, x = .inr s' → nq_G X E 6 72 [(4, .int s')] [] K M) (h : fX0_deepest_B6 p x1 x2 x3 x4 x5 M = some x) : nq_G X E 6 6 [(0, .ref (nq_ad E p)), (1, .int x1), (2, .int x2), (3, .int x3), (4, .int x4), (5, .int x5)] [] K M := by
  unfold fX0_deepest_B6 at h
  refine nq_iload hX 5 rfl dX0_deepest_6 ?_
  refine nq_aload_n hX rfl 0 rfl dX0_deepest_8 ?_
  obtain ⟨v1, e1, h⟩ := nq_ltE h
  refine nq_geti hX inX0_deepest_0 (nq_Letters_0 hL) rfl 9 (by decide) lkX0_deepest_40 rfl e1 dX0_deepest_9 ?_
  refine nq_icmp_ge hX (tgt := 72) (by decide) dX0_deepest_12 (fun c2 => ?_) (fun c2 => ?_)
  · rw [if_pos c2] at h
    refine nq_sub (lv' := [(4, .int x4)]) [4] rfl ?_
    exact he x4 (nq_sE h).symm
  · rw [if_neg c2] at h
    refine nq_aload_n hX rfl 0 rfl dX0_deepest_15 ?_
    refine nq_getr (v := .ref (nq_ad E (p + 6))) hX inX0_deepest_0 (nq_Letters_0 hL) rfl 6 (by decide) lkX0_deepest_31 _ rfl rfl dX0_deepest_16 ?_
    refine nq_aload_n hX rfl 0 rfl dX0_deepest_19 ?_
    refine nq_getr (v := .ref (nq_ad E (p + 9))) hX inX0_deepest_0 (nq_Letters_0 hL) rfl 10 (by decide) lkX0_deepest_43 _ rfl rfl dX0_deepest_20 ?_
    refine nq_iload hX 5 rfl dX0_deepest_23 ?_
    obtain ⟨v3, e3, hi3, h⟩ := nq_agE h
    refine nq_iald hX (nq_Letters_arriving hL) e3 hi3 dX0_deepest_25 ?_
    obtain ⟨v4, e4, hi4, h⟩ := nq_agE h
    refine nq_iald hX (nq_Letters_comes hL) e4 hi4 dX0_deepest_26 ?_
    refine nq_iload_n hX rfl 3 rfl dX0_deepest_27 ?_
    refine nq_icmp_gt hX (tgt := 72) (by decide) dX0_deepest_28 (fun c5 => ?_) (fun c5 => ?_)
    · rw [if_pos c5] at h
      refine nq_sub (lv' := [(4, .int x4)]) [4] rfl ?_
      exact he x4 (nq_sE h).symm
    · rw [if_neg c5] at h
      refine nq_aload_n hX rfl 0 rfl dX0_deepest_31 ?_
      refine nq_aload_n hX rfl 0 rfl dX0_deepest_32 ?_
      refine nq_getr (v := .ref (nq_ad E (p + 9))) hX inX0_deepest_0 (nq_Letters_0 hL) rfl 10 (by decide) lkX0_deepest_43 _ rfl rfl dX0_deepest_33 ?_
      refine nq_iload hX 5 rfl dX0_deepest_36 ?_
      obtain ⟨v6, e6, hi6, h⟩ := nq_agE h
      refine nq_iald hX (nq_Letters_arriving hL) e6 hi6 dX0_deepest_38 ?_
      refine nq_iload_n hX rfl 1 rfl dX0_deepest_39 ?_
      refine nq_iload_n hX rfl 2 rfl dX0_deepest_40 ?_
      obtain ⟨v8, hc7, h⟩ := nq_bE h
      refine nq_callVi hX (tX0_isFor hL hc7) gX0_deepest_X0_isFor rfl rfl dsX0_isFor (by decide) (nq_Letters_0 hL) rfl rfl (Nat.le_of_ble_eq_true rfl) dX0_deepest_41 ?_
      refine nq_if_eq hX (tgt := 66) (by decide) dX0_deepest_44 (fun c9 => ?_) (fun c9 => ?_)
      · rw [if_pos c9] at h
        obtain ⟨v10, e10, h⟩ := nq_ltE h
        refine nq_iinc hX (lv' := [(5, .int v10), (0, .ref (nq_ad E p)), (1, .int x1), (2, .int x2), (3, .int x3), (4, .int x4)]) (j := 5) rfl (e10.trans rfl) (by decide) rfl dX0_deepest_66 ?_
        refine nq_goto hX (tgt := 6) (by decide) dX0_deepest_69 ?_
        refine nq_sub (lv' := [(0, .ref (nq_ad E p)), (1, .int x1), (2, .int x2), (3, .int x3), (4, .int x4), (5, .int v10)]) [1, 2, 3, 4, 5, 0] rfl ?_
        exact hc (x4, v10) (nq_sE h).symm
      · rw [if_neg c9] at h
        refine nq_iload hX 4 rfl dX0_deepest_47 ?_
        refine nq_aload_n hX rfl 0 rfl dX0_deepest_49 ?_
        refine nq_getr (v := .ref (nq_ad E (p + 8))) hX inX0_deepest_0 (nq_Letters_0 hL) rfl 8 (by decide) lkX0_deepest_37 _ rfl rfl dX0_deepest_50 ?_
        refine nq_aload_n hX rfl 0 rfl dX0_deepest_53 ?_
        refine nq_getr (v := .ref (nq_ad E (p + 9))) hX inX0_deepest_0 (nq_Letters_0 hL) rfl 10 (by decide) lkX0_deepest_43 _ rfl rfl dX0_deepest_54 ?_
        refine nq_iload hX 5 rfl dX0_deepest_57 ?_
        obtain ⟨v11, e11, hi11, h⟩ := nq_agE h
        refine nq_iald hX (nq_Letters_arriving hL) e11 hi11 dX0_deepest_59 ?_
        obtain ⟨v12, e12, hi12, h⟩ := nq_agE h
        refine nq_iald hX (nq_Letters_depths hL) e12 hi12 dX0_deepest_60 ?_
        refine nq_mmax hX mmX0_deepest_k58 mmX0_deepest_stmax mmX0_deepest_im mmX0_deepest_cdmax (by decide) (Nat.le_of_ble_eq_true rfl) dX0_deepest_61 ?_
        obtain ⟨v13, e13, h⟩ := nq_ltE h
        rw [← e13]
        refine nq_istore hX (lv' := [(4, .int v13), (0, .ref (nq_ad E p)), (1, .int x1), (2, .int x2), (3, .int x3), (5, .int x5)]) (by decide) rfl rfl dX0_deepest_64 ?_
        obtain ⟨v14, e14, h⟩ := nq_ltE h
        refine nq_iinc hX (lv' := [(5, .int v14), (4, .int v13), (0, .ref (nq_ad E p)), (1, .int x1), (2, .int x2), (3, .int x3)]) (j := 5) rfl (e14.trans rfl) (by decide) rfl dX0_deepest_66 ?_
        refine nq_goto hX (tgt := 6) (by decide) dX0_deepest_69 ?_
        refine nq_sub (lv' := [(0, .ref (nq_ad E p)), (1, .int x1), (2, .int x2), (3, .int x3), (4, .int v13), (5, .int v14)]) [2, 3, 4, 5, 1, 0] rfl ?_
        exact hc (v13, v14) (nq_sE h).symm
def fX0_deepest_L72 (p : Nat) (x4 : Int32) (M : Mem) : Option (Int32) :=
  some x4
set_option maxHeartbeats 4000000 in
theorem mX0_deepest_L72 {X : Cx} {E : Ev} {l : Launch} {K : List Sh} {p : Nat} {x4 : Int32} {M : Mem} {r : Int32} (hL : nq_atLetters E K p) (hX : nq_OK X E l (nq_rm 2) cX0_deepest 6 RX0 wsX0_deepest) (hr : nq_RT X E (some .int) (some (.int r)) K M) (h : fX0_deepest_L72 p x4 M = some r) : nq_G X E 6 72 [(4, .int x4)] [] K M := by
  unfold fX0_deepest_L72 at h
  refine nq_iload hX 0 rfl dX0_deepest_72 ?_
  obtain rfl := nq_sE1 h; exact nq_iret hX hr dX0_deepest_74
def fX0_deepest_L6 (p : Nat) (x1 : Int32) (x2 : Int32) (x3 : Int32) (x4 : Int32) (x5 : Int32) (M : Mem) : Option (Int32) :=
  (nq_lp (fun s : Int32 × Int32 => fX0_deepest_B6 p x1 x2 x3 s.1 s.2 M) nq_fuel (x4, x5)).bind (fun e => fX0_deepest_L72 p e M)
set_option maxHeartbeats 4000000 in
theorem mX0_deepest_L6 {X : Cx} {E : Ev} {l : Launch} {K : List Sh} {p : Nat} {x1 : Int32} {x2 : Int32} {x3 : Int32} {x4 : Int32} {x5 : Int32} {M : Mem} {r : Int32} (hL : nq_atLetters E K p) (hX : nq_OK X E l (nq_rm 2) cX0_deepest 6 RX0 wsX0_deepest) (hr : nq_RT X E (some .int) (some (.int r)) K M) (h : fX0_deepest_L6 p x1 x2 x3 x4 x5 M = some r) : nq_G X E 6 6 [(0, .ref (nq_ad E p)), (1, .int x1), (2, .int x2), (3, .int x3), (4, .int x4), (5, .int x5)] [] K M := by
  unfold fX0_deepest_L6 at h
  obtain ⟨e, h1, h⟩ := nq_bE h
  have key : ∀ (ex : Int32), nq_lp (fun s : Int32 × Int32 => fX0_deepest_B6 p x1 x2 x3 s.1 s.2 M) nq_fuel (x4, x5) = some ex → (∀ e, ex = e → nq_G X E 6 72 [(4, .int e)] [] K M) → nq_G X E 6 6 [(0, .ref (nq_ad E p)), (1, .int x1), (2, .int x2), (3, .int x3), (4, .int ((x4, x5).1)), (5, .int ((x4, x5).2))] [] K M := by
    intro ex h1 hE
    refine nq_lpE (P := fun s : Int32 × Int32 => nq_G X E 6 6 [(0, .ref (nq_ad E p)), (1, .int x1), (2, .int x2), (3, .int x3), (4, .int s.1), (5, .int s.2)] [] K M) (r := ex) ?_ nq_fuel (x4, x5) h1
    intro s xx hx1 hc1 he1
    exact mX0_deepest_B6 hL hX hc1 (fun e q => hE e (he1 _ q).symm) hx1
  refine key e h1 (fun e q => ?_)
  subst q
  exact mX0_deepest_L72 hL hX hr h
def fX0_deepest (p : Nat) (x1 : Int32) (x2 : Int32) (x3 : Int32) (M : Mem) : Option (Int32) :=
  fX0_deepest_L6 p x1 x2 x3 (0 : Int32) (0 : Int32) M
set_option maxHeartbeats 4000000 in
theorem mX0_deepest {X : Cx} {E : Ev} {l : Launch} {K : List Sh} {p : Nat} {x1 : Int32} {x2 : Int32} {x3 : Int32} {M : Mem} {r : Int32} (hL : nq_atLetters E K p) (hX : nq_OK X E l (nq_rm 2) cX0_deepest 6 RX0 wsX0_deepest) (hr : nq_RT X E (some .int) (some (.int r)) K M) (h : fX0_deepest p x1 x2 x3 M = some r) : nq_G X E 6 0 [(0, .ref (nq_ad E p)), (1, .int x1), (2, .int x2), (3, .int x3)] [] K M := by
  unfold fX0_deepest at h
  refine nq_iconst hX (v := 0) (by decide) dX0_deepest_0 ?_
  refine nq_istore hX (lv' := [(4, .int (0 : Int32)), (0, .ref (nq_ad E p)), (1, .int x1), (2, .int x2), (3, .int x3)]) (by decide) rfl rfl dX0_deepest_1 ?_
  refine nq_iconst hX (v := 0) (by decide) dX0_deepest_3 ?_
  refine nq_istore hX (lv' := [(5, .int (0 : Int32)), (4, .int (0 : Int32)), (0, .ref (nq_ad E p)), (1, .int x1), (2, .int x2), (3, .int x3)]) (by decide) rfl rfl dX0_deepest_4 ?_
  refine nq_sub (lv' := [(0, .ref (nq_ad E p)), (1, .int x1), (2, .int x2), (3, .int x3), (4, .int (0 : Int32)), (5, .int (0 : Int32))]) [2, 3, 4, 5, 1, 0] rfl ?_
  exact mX0_deepest_L6 hL hX hr h
theorem dsX0_deepest : yX0_deepest.cls ≠ "java/lang/invoke/MethodHandle" ∧ yX0_deepest.cls ≠ "java/lang/invoke/VarHandle" ∧ (parseMethodDescriptor yX0_deepest.desc).map (fun d => d.parameters.length) = some 3 := by decide +kernel
theorem tX0_deepest {l : Launch} {E : Ev} {K : List Sh} {p : Nat} {x1 : Int32} {x2 : Int32} {x3 : Int32} {M : Mem} {r : Int32} (hL : nq_atLetters E K p) (h : fX0_deepest p x1 x2 x3 M = some r) : nq_MA l E yX0_deepest wsX0_deepest (nq_rm 2) [.ref (nq_ad E p), .int x1, .int x2, .int x3] K M (some (.int r)) K M :=
  nq_met (own := RX0) (cc := cX0_deepest) (maxL := 6) (ret := (some .int)) (by decide) rfl rfl (Nat.le_of_ble_eq_true rfl) (fun X hX hr => mX0_deepest hL hX hr h)

theorem inX0_queue_0 : ∀ w ∈ u_ws RX0 TX0 11, w ∈ wsX0_queue := by
  intro w h; unfold wsX0_queue; simp only [List.mem_cons, List.mem_append]; simp only [h, true_or, or_true]
theorem lkX0_queue_40 : Cond.fieldLink RX0 40 (TX0 9).1 (TX0 9).2.1 (TX0 9).2.2.1 ∈ wsX0_queue := by decide +kernel
theorem lkX0_queue_31 : Cond.fieldLink RX0 31 (TX0 6).1 (TX0 6).2.1 (TX0 6).2.2.1 ∈ wsX0_queue := by decide +kernel
theorem lkX0_queue_43 : Cond.fieldLink RX0 43 (TX0 10).1 (TX0 10).2.1 (TX0 10).2.2.1 ∈ wsX0_queue := by decide +kernel
def fX0_queue_B10 (p : Nat) (x1 : Int32) (x2 : Int32) (x3 : Int32) (M : Mem) : Option ((Int32 × Int32 × Mem) ⊕ (Int32 × Mem)) :=
  if x3 ≤ 0 then
  (some (.inr (x2, M)))
  else
  ((nq_ag (M (p + 9)) 80 (x3 - (1 : Int32))).bind fun v4 =>
  (nq_ag (M (p + 6)) 80 v4).bind fun v5 =>
  (nq_ag (M (p + 6)) 80 x1).bind fun v6 =>
  if v5 ≤ v6 then
  (some (.inr (x2, M)))
  else
  ((nq_ag (M (p + 9)) 80 (x3 - (1 : Int32))).bind fun v8 =>
  (nq_as M (p + 9) 80 x3 v8).bind fun M9 =>
  nq_lt ((x3 - (1 : Int32))) fun v10 =>
  nq_lt (x3 + (-1 : Int32)) fun v11 =>
  some (.inl (v10, v11, M9))))
set_option maxHeartbeats 4000000 in
theorem mX0_queue_B10 {X : Cx} {E : Ev} {l : Launch} {K : List Sh} {p : Nat} {x1 : Int32} {x2 : Int32} {x3 : Int32} {M : Mem} (hL : nq_atLetters E K p) (hX : nq_OK X E l (nq_rm 1) cX0_queue 4 RX0 wsX0_queue) {x : (Int32 × Int32 × Mem) ⊕ (Int32 × Mem)} (hc : ∀ s' : Int32 × Int32 × Mem, x = .inl s' → nq_G X E 4 10 [(0, .ref (nq_ad E p)), (1, .int x1), (2, .int s'.1), (3, .int s'.2.1)] [] K s'.2.2) (he : ∀ s' : Int32 × Mem, x = .inr s' → nq_G X E 4 60 [(0, .ref (nq_ad E p)), (1, .int x1), (2, .int s'.1)] [] K s'.2) (h : fX0_queue_B10 p x1 x2 x3 M = some x) : nq_G X E 4 10 [(0, .ref (nq_ad E p)), (1, .int x1), (2, .int x2), (3, .int x3)] [] K M := by
  unfold fX0_queue_B10 at h
  refine nq_iload_n hX rfl 3 rfl dX0_queue_10 ?_
  refine nq_if_le hX (tgt := 60) (by decide) dX0_queue_11 (fun c3 => ?_) (fun c3 => ?_)
  · rw [if_pos c3] at h
    refine nq_sub (lv' := [(0, .ref (nq_ad E p)), (1, .int x1), (2, .int x2)]) [0, 1, 2] rfl ?_
    exact he (x2, M) (nq_sE h).symm
  · rw [if_neg c3] at h
    refine nq_aload_n hX rfl 0 rfl dX0_queue_14 ?_
    refine nq_getr (v := .ref (nq_ad E (p + 6))) hX inX0_queue_0 (nq_Letters_0 hL) rfl 6 (by decide) lkX0_queue_31 _ rfl rfl dX0_queue_15 ?_
    refine nq_aload_n hX rfl 0 rfl dX0_queue_18 ?_
    refine nq_getr (v := .ref (nq_ad E (p + 9))) hX inX0_queue_0 (nq_Letters_0 hL) rfl 10 (by decide) lkX0_queue_43 _ rfl rfl dX0_queue_19 ?_
    refine nq_iload_n hX rfl 3 rfl dX0_queue_22 ?_
    refine nq_iconst hX (v := 1) (by decide) dX0_queue_23 ?_
    refine nq_isub hX dX0_queue_24 ?_
    obtain ⟨v4, e4, hi4, h⟩ := nq_agE h
    refine nq_iald hX (nq_Letters_arriving hL) e4 hi4 dX0_queue_25 ?_
    obtain ⟨v5, e5, hi5, h⟩ := nq_agE h
    refine nq_iald hX (nq_Letters_comes hL) e5 hi5 dX0_queue_26 ?_
    refine nq_aload_n hX rfl 0 rfl dX0_queue_27 ?_
    refine nq_getr (v := .ref (nq_ad E (p + 6))) hX inX0_queue_0 (nq_Letters_0 hL) rfl 6 (by decide) lkX0_queue_31 _ rfl rfl dX0_queue_28 ?_
    refine nq_iload_n hX rfl 1 rfl dX0_queue_31 ?_
    obtain ⟨v6, e6, hi6, h⟩ := nq_agE h
    refine nq_iald hX (nq_Letters_comes hL) e6 hi6 dX0_queue_32 ?_
    refine nq_icmp_le hX (tgt := 60) (by decide) dX0_queue_33 (fun c7 => ?_) (fun c7 => ?_)
    · rw [if_pos c7] at h
      refine nq_sub (lv' := [(0, .ref (nq_ad E p)), (1, .int x1), (2, .int x2)]) [0, 1, 2] rfl ?_
      exact he (x2, M) (nq_sE h).symm
    · rw [if_neg c7] at h
      refine nq_aload_n hX rfl 0 rfl dX0_queue_36 ?_
      refine nq_getr (v := .ref (nq_ad E (p + 9))) hX inX0_queue_0 (nq_Letters_0 hL) rfl 10 (by decide) lkX0_queue_43 _ rfl rfl dX0_queue_37 ?_
      refine nq_iload_n hX rfl 3 rfl dX0_queue_40 ?_
      refine nq_aload_n hX rfl 0 rfl dX0_queue_41 ?_
      refine nq_getr (v := .ref (nq_ad E (p + 9))) hX inX0_queue_0 (nq_Letters_0 hL) rfl 10 (by decide) lkX0_queue_43 _ rfl rfl dX0_queue_42 ?_
      refine nq_iload_n hX rfl 3 rfl dX0_queue_45 ?_
      refine nq_iconst hX (v := 1) (by decide) dX0_queue_46 ?_
      refine nq_isub hX dX0_queue_47 ?_
      obtain ⟨v8, e8, hi8, h⟩ := nq_agE h
      refine nq_iald hX (nq_Letters_arriving hL) e8 hi8 dX0_queue_48 ?_
      obtain ⟨M9, e9, hi9, h⟩ := nq_asE h
      refine nq_iast hX (nq_Letters_arriving hL) e9 hi9 dX0_queue_49 ?_
      refine nq_iload_n hX rfl 3 rfl dX0_queue_50 ?_
      refine nq_iconst hX (v := 1) (by decide) dX0_queue_51 ?_
      refine nq_isub hX dX0_queue_52 ?_
      obtain ⟨v10, e10, h⟩ := nq_ltE h
      refine nq_istore_n hX (lv' := [(2, .int v10), (0, .ref (nq_ad E p)), (1, .int x1), (3, .int x3)]) rfl (by decide) e10 rfl dX0_queue_53 ?_
      obtain ⟨v11, e11, h⟩ := nq_ltE h
      refine nq_iinc hX (lv' := [(3, .int v11), (2, .int v10), (0, .ref (nq_ad E p)), (1, .int x1)]) (j := 3) rfl (e11.trans (by rw [nq_om1])) (by decide) rfl dX0_queue_54 ?_
      refine nq_goto hX (tgt := 10) (by decide) dX0_queue_57 ?_
      refine nq_sub (lv' := [(0, .ref (nq_ad E p)), (1, .int x1), (2, .int v10), (3, .int v11)]) [2, 3, 1, 0] rfl ?_
      exact hc (v10, v11, M9) (nq_sE h).symm
def fX0_queue_L60 (p : Nat) (x1 : Int32) (x2 : Int32) (M : Mem) : Option (Mem) :=
  (nq_as M (p + 9) 80 x2 x1).bind fun M12 =>
  nq_lt (M12 p 9) fun v13 =>
  nq_lt (nq_wr M12 p 9 (v13 + (1 : Int32))) fun M14 =>
  some M14
set_option maxHeartbeats 4000000 in
theorem mX0_queue_L60 {X : Cx} {E : Ev} {l : Launch} {K : List Sh} {p : Nat} {x1 : Int32} {x2 : Int32} {M : Mem} {M' : Mem} (hL : nq_atLetters E K p) (hX : nq_OK X E l (nq_rm 1) cX0_queue 4 RX0 wsX0_queue) (hr : nq_RT X E none none K M') (h : fX0_queue_L60 p x1 x2 M = some M') : nq_G X E 4 60 [(0, .ref (nq_ad E p)), (1, .int x1), (2, .int x2)] [] K M := by
  unfold fX0_queue_L60 at h
  refine nq_aload_n hX rfl 0 rfl dX0_queue_60 ?_
  refine nq_getr (v := .ref (nq_ad E (p + 9))) hX inX0_queue_0 (nq_Letters_0 hL) rfl 10 (by decide) lkX0_queue_43 _ rfl rfl dX0_queue_61 ?_
  refine nq_iload_n hX rfl 2 rfl dX0_queue_64 ?_
  refine nq_iload_n hX rfl 1 rfl dX0_queue_65 ?_
  obtain ⟨M12, e12, hi12, h⟩ := nq_asE h
  refine nq_iast hX (nq_Letters_arriving hL) e12 hi12 dX0_queue_66 ?_
  refine nq_aload_n hX rfl 0 rfl dX0_queue_67 ?_
  refine nq_dup hX rfl dX0_queue_68 ?_
  obtain ⟨v13, e13, h⟩ := nq_ltE h
  refine nq_geti hX inX0_queue_0 (nq_Letters_0 hL) rfl 9 (by decide) lkX0_queue_40 rfl e13 dX0_queue_69 ?_
  refine nq_iconst hX (v := 1) (by decide) dX0_queue_72 ?_
  refine nq_iadd hX dX0_queue_73 ?_
  obtain ⟨M14, eM14, h⟩ := nq_ltE h
  refine nq_puti hX inX0_queue_0 tyX0 tyX0_ok nmX0 (nq_Letters_0 hL) rfl 9 (by decide) lkX0_queue_40 rfl rfl rfl rfl rfl eM14 dX0_queue_74 ?_
  obtain rfl := nq_sE1 h; exact nq_vret hX hr dX0_queue_77
def fX0_queue_L10 (p : Nat) (x1 : Int32) (x2 : Int32) (x3 : Int32) (M : Mem) : Option (Mem) :=
  (nq_lp (fun s : Int32 × Int32 × Mem => fX0_queue_B10 p x1 s.1 s.2.1 s.2.2) nq_fuel (x2, x3, M)).bind (fun e => fX0_queue_L60 p x1 e.1 e.2)
set_option maxHeartbeats 4000000 in
theorem mX0_queue_L10 {X : Cx} {E : Ev} {l : Launch} {K : List Sh} {p : Nat} {x1 : Int32} {x2 : Int32} {x3 : Int32} {M : Mem} {M' : Mem} (hL : nq_atLetters E K p) (hX : nq_OK X E l (nq_rm 1) cX0_queue 4 RX0 wsX0_queue) (hr : nq_RT X E none none K M') (h : fX0_queue_L10 p x1 x2 x3 M = some M') : nq_G X E 4 10 [(0, .ref (nq_ad E p)), (1, .int x1), (2, .int x2), (3, .int x3)] [] K M := by
  unfold fX0_queue_L10 at h
  obtain ⟨e, h1, h⟩ := nq_bE h
  have key : ∀ (ex : Int32 × Mem), nq_lp (fun s : Int32 × Int32 × Mem => fX0_queue_B10 p x1 s.1 s.2.1 s.2.2) nq_fuel (x2, x3, M) = some ex → (∀ e, ex = e → nq_G X E 4 60 [(0, .ref (nq_ad E p)), (1, .int x1), (2, .int e.1)] [] K e.2) → nq_G X E 4 10 [(0, .ref (nq_ad E p)), (1, .int x1), (2, .int ((x2, x3, M).1)), (3, .int ((x2, x3, M).2.1))] [] K (x2, x3, M).2.2 := by
    intro ex h1 hE
    refine nq_lpE (P := fun s : Int32 × Int32 × Mem => nq_G X E 4 10 [(0, .ref (nq_ad E p)), (1, .int x1), (2, .int s.1), (3, .int s.2.1)] [] K s.2.2) (r := ex) ?_ nq_fuel (x2, x3, M) h1
    intro s xx hx1 hc1 he1
    exact mX0_queue_B10 hL hX hc1 (fun e q => hE e (he1 _ q).symm) hx1
  refine key e h1 (fun e q => ?_)
  subst q
  exact mX0_queue_L60 hL hX hr h
def fX0_queue (p : Nat) (x1 : Int32) (M : Mem) : Option (Mem) :=
  nq_lt (M p 9) fun v1 =>
  nq_lt (M p 9) fun v2 =>
  fX0_queue_L10 p x1 v1 v2 M
set_option maxHeartbeats 4000000 in
theorem mX0_queue {X : Cx} {E : Ev} {l : Launch} {K : List Sh} {p : Nat} {x1 : Int32} {M : Mem} {M' : Mem} (hL : nq_atLetters E K p) (hX : nq_OK X E l (nq_rm 1) cX0_queue 4 RX0 wsX0_queue) (hr : nq_RT X E none none K M') (h : fX0_queue p x1 M = some M') : nq_G X E 4 0 [(0, .ref (nq_ad E p)), (1, .int x1)] [] K M := by
  unfold fX0_queue at h
  refine nq_aload_n hX rfl 0 rfl dX0_queue_0 ?_
  obtain ⟨v1, e1, h⟩ := nq_ltE h
  refine nq_geti hX inX0_queue_0 (nq_Letters_0 hL) rfl 9 (by decide) lkX0_queue_40 rfl e1 dX0_queue_1 ?_
  refine nq_istore_n hX (lv' := [(2, .int v1), (0, .ref (nq_ad E p)), (1, .int x1)]) rfl (by decide) rfl rfl dX0_queue_4 ?_
  refine nq_aload_n hX rfl 1 rfl dX0_queue_5 ?_
  obtain ⟨v2, e2, h⟩ := nq_ltE h
  refine nq_geti hX inX0_queue_0 (nq_Letters_0 hL) rfl 9 (by decide) lkX0_queue_40 rfl e2 dX0_queue_6 ?_
  refine nq_istore_n hX (lv' := [(3, .int v2), (2, .int v1), (0, .ref (nq_ad E p)), (1, .int x1)]) rfl (by decide) rfl rfl dX0_queue_9 ?_
  refine nq_sub (lv' := [(0, .ref (nq_ad E p)), (1, .int x1), (2, .int v1), (3, .int v2)]) [2, 3, 1, 0] rfl ?_
  exact mX0_queue_L10 hL hX hr h
theorem dsX0_queue : yX0_queue.cls ≠ "java/lang/invoke/MethodHandle" ∧ yX0_queue.cls ≠ "java/lang/invoke/VarHandle" ∧ (parseMethodDescriptor yX0_queue.desc).map (fun d => d.parameters.length) = some 1 := by decide +kernel
theorem tX0_queue {l : Launch} {E : Ev} {K : List Sh} {p : Nat} {x1 : Int32} {M : Mem} {M' : Mem} (hL : nq_atLetters E K p) (h : fX0_queue p x1 M = some M') : nq_MA l E yX0_queue wsX0_queue (nq_rm 1) [.ref (nq_ad E p), .int x1] K M none K M' :=
  nq_met (own := RX0) (cc := cX0_queue) (maxL := 4) (ret := none) (by decide) rfl rfl (Nat.le_of_ble_eq_true rfl) (fun X hX hr => mX0_queue hL hX hr h)

theorem inX0_add_0 : ∀ w ∈ u_ws RX0 TX0 11, w ∈ wsX0_add := by
  intro w h; unfold wsX0_add; simp only [List.mem_cons, List.mem_append]; simp only [h, true_or, or_true]
theorem lkX0_add_9 : Cond.fieldLink RX0 9 (TX0 0).1 (TX0 0).2.1 (TX0 0).2.2.1 ∈ wsX0_add := by decide +kernel
theorem lkX0_add_15 : Cond.fieldLink RX0 15 (TX0 1).1 (TX0 1).2.1 (TX0 1).2.2.1 ∈ wsX0_add := by decide +kernel
theorem lkX0_add_19 : Cond.fieldLink RX0 19 (TX0 2).1 (TX0 2).2.1 (TX0 2).2.2.1 ∈ wsX0_add := by decide +kernel
theorem lkX0_add_22 : Cond.fieldLink RX0 22 (TX0 3).1 (TX0 3).2.1 (TX0 3).2.2.1 ∈ wsX0_add := by decide +kernel
theorem lkX0_add_25 : Cond.fieldLink RX0 25 (TX0 4).1 (TX0 4).2.1 (TX0 4).2.2.1 ∈ wsX0_add := by decide +kernel
theorem lkX0_add_28 : Cond.fieldLink RX0 28 (TX0 5).1 (TX0 5).2.1 (TX0 5).2.2.1 ∈ wsX0_add := by decide +kernel
theorem lkX0_add_31 : Cond.fieldLink RX0 31 (TX0 6).1 (TX0 6).2.1 (TX0 6).2.2.1 ∈ wsX0_add := by decide +kernel
theorem lkX0_add_34 : Cond.fieldLink RX0 34 (TX0 7).1 (TX0 7).2.1 (TX0 7).2.2.1 ∈ wsX0_add := by decide +kernel
theorem lkX0_add_37 : Cond.fieldLink RX0 37 (TX0 8).1 (TX0 8).2.1 (TX0 8).2.2.1 ∈ wsX0_add := by decide +kernel
def fX0_add (p : Nat) (x1 : Int32) (x2 : Int32) (x3 : Int32) (x4 : Int32) (x5 : Int32) (x6 : Int32) (M : Mem) : Option (Int32 × Mem) :=
  nq_lt (M p 0) fun v1 =>
  if v1 < (80 : Int32) then
  ((nq_as M (p + 1) 80 v1 x1).bind fun M3 =>
  (nq_dv x2 (10 : Int32)).bind fun v4 =>
  (nq_as M3 (p + 2) 80 v1 v4).bind fun M5 =>
  (nq_rem x2 (10 : Int32)).bind fun v6 =>
  (nq_as M5 (p + 3) 80 v1 v6).bind fun M7 =>
  (nq_as M7 (p + 4) 80 v1 x3).bind fun M8 =>
  (nq_as M8 (p + 5) 80 v1 x4).bind fun M9 =>
  (nq_as M9 (p + 6) 80 v1 x5).bind fun M10 =>
  (nq_as M10 (p + 7) 80 v1 x6).bind fun M11 =>
  (nq_ag (M11 (p + 2)) 80 v1).bind fun v12 =>
  (fX0_deepest p v12 x3 x4 M11).bind fun v14 =>
  (nq_as M11 (p + 8) 80 v1 ((1 : Int32) + v14)).bind fun M15 =>
  nq_lt (M15 p 0) fun v16 =>
  nq_lt (nq_wr M15 p 0 (v16 + (1 : Int32))) fun M17 =>
  if x5 < 0 then
  (some (v1, M17))
  else
  ((fX0_queue p v1 M17).bind fun M20 =>
  some (v1, M20)))
  else
  (some ((-1 : Int32), M))
set_option maxHeartbeats 4000000 in
theorem mX0_add {X : Cx} {E : Ev} {l : Launch} {K : List Sh} {p : Nat} {x1 : Int32} {x2 : Int32} {x3 : Int32} {x4 : Int32} {x5 : Int32} {x6 : Int32} {M : Mem} {r : Int32} {M' : Mem} (hL : nq_atLetters E K p) (hX : nq_OK X E l (nq_rm 3) cX0_add 8 RX0 wsX0_add) (hr : nq_RT X E (some .int) (some (.int r)) K M') (h : fX0_add p x1 x2 x3 x4 x5 x6 M = some (r, M')) : nq_G X E 8 0 [(0, .ref (nq_ad E p)), (1, .int x1), (2, .int x2), (3, .int x3), (4, .int x4), (5, .int x5), (6, .int x6)] [] K M := by
  unfold fX0_add at h
  refine nq_aload_n hX rfl 0 rfl dX0_add_0 ?_
  obtain ⟨v1, e1, h⟩ := nq_ltE h
  refine nq_geti hX inX0_add_0 (nq_Letters_0 hL) rfl 0 (by decide) lkX0_add_9 rfl e1 dX0_add_1 ?_
  refine nq_istore hX (lv' := [(7, .int v1), (0, .ref (nq_ad E p)), (1, .int x1), (2, .int x2), (3, .int x3), (4, .int x4), (5, .int x5), (6, .int x6)]) (by decide) rfl rfl dX0_add_4 ?_
  refine nq_iload hX 0 rfl dX0_add_6 ?_
  refine nq_bipush hX (v := 80) (by decide) dX0_add_8 ?_
  refine nq_icmp_lt hX (tgt := 15) (by decide) dX0_add_10 (fun c2 => ?_) (fun c2 => ?_)
  · rw [if_pos c2] at h
    refine nq_aload_n hX rfl 1 rfl dX0_add_15 ?_
    refine nq_getr (v := .ref (nq_ad E (p + 1))) hX inX0_add_0 (nq_Letters_0 hL) rfl 1 (by decide) lkX0_add_15 _ rfl rfl dX0_add_16 ?_
    refine nq_iload hX 0 rfl dX0_add_19 ?_
    refine nq_iload_n hX rfl 2 rfl dX0_add_21 ?_
    obtain ⟨M3, e3, hi3, h⟩ := nq_asE h
    refine nq_iast hX (nq_Letters_kinds hL) e3 hi3 dX0_add_22 ?_
    refine nq_aload_n hX rfl 1 rfl dX0_add_23 ?_
    refine nq_getr (v := .ref (nq_ad E (p + 2))) hX inX0_add_0 (nq_Letters_0 hL) rfl 2 (by decide) lkX0_add_19 _ rfl rfl dX0_add_24 ?_
    refine nq_iload hX 0 rfl dX0_add_27 ?_
    refine nq_iload_n hX rfl 3 rfl dX0_add_29 ?_
    refine nq_bipush hX (v := 10) (by decide) dX0_add_30 ?_
    obtain ⟨v4, e4, hn4, h⟩ := nq_ifE h
    refine nq_idiv hX hn4 e4 dX0_add_32 ?_
    obtain ⟨M5, e5, hi5, h⟩ := nq_asE h
    refine nq_iast hX (nq_Letters_froms hL) e5 hi5 dX0_add_33 ?_
    refine nq_aload_n hX rfl 1 rfl dX0_add_34 ?_
    refine nq_getr (v := .ref (nq_ad E (p + 3))) hX inX0_add_0 (nq_Letters_0 hL) rfl 3 (by decide) lkX0_add_22 _ rfl rfl dX0_add_35 ?_
    refine nq_iload hX 0 rfl dX0_add_38 ?_
    refine nq_iload_n hX rfl 3 rfl dX0_add_40 ?_
    refine nq_bipush hX (v := 10) (by decide) dX0_add_41 ?_
    obtain ⟨v6, e6, hn6, h⟩ := nq_ifE h
    refine nq_irem hX hn6 e6 dX0_add_43 ?_
    obtain ⟨M7, e7, hi7, h⟩ := nq_asE h
    refine nq_iast hX (nq_Letters_tos hL) e7 hi7 dX0_add_44 ?_
    refine nq_aload_n hX rfl 1 rfl dX0_add_45 ?_
    refine nq_getr (v := .ref (nq_ad E (p + 4))) hX inX0_add_0 (nq_Letters_0 hL) rfl 4 (by decide) lkX0_add_25 _ rfl rfl dX0_add_46 ?_
    refine nq_iload hX 0 rfl dX0_add_49 ?_
    refine nq_iload_n hX rfl 4 rfl dX0_add_51 ?_
    obtain ⟨M8, e8, hi8, h⟩ := nq_asE h
    refine nq_iast hX (nq_Letters_pacts hL) e8 hi8 dX0_add_52 ?_
    refine nq_aload_n hX rfl 1 rfl dX0_add_53 ?_
    refine nq_getr (v := .ref (nq_ad E (p + 5))) hX inX0_add_0 (nq_Letters_0 hL) rfl 5 (by decide) lkX0_add_28 _ rfl rfl dX0_add_54 ?_
    refine nq_iload hX 0 rfl dX0_add_57 ?_
    refine nq_iload hX 5 rfl dX0_add_59 ?_
    obtain ⟨M9, e9, hi9, h⟩ := nq_asE h
    refine nq_iast hX (nq_Letters_years hL) e9 hi9 dX0_add_61 ?_
    refine nq_aload_n hX rfl 1 rfl dX0_add_62 ?_
    refine nq_getr (v := .ref (nq_ad E (p + 6))) hX inX0_add_0 (nq_Letters_0 hL) rfl 6 (by decide) lkX0_add_31 _ rfl rfl dX0_add_63 ?_
    refine nq_iload hX 0 rfl dX0_add_66 ?_
    refine nq_iload hX 6 rfl dX0_add_68 ?_
    obtain ⟨M10, e10, hi10, h⟩ := nq_asE h
    refine nq_iast hX (nq_Letters_comes hL) e10 hi10 dX0_add_70 ?_
    refine nq_aload_n hX rfl 1 rfl dX0_add_71 ?_
    refine nq_getr (v := .ref (nq_ad E (p + 7))) hX inX0_add_0 (nq_Letters_0 hL) rfl 7 (by decide) lkX0_add_34 _ rfl rfl dX0_add_72 ?_
    refine nq_iload hX 0 rfl dX0_add_75 ?_
    refine nq_iload hX 7 rfl dX0_add_77 ?_
    obtain ⟨M11, e11, hi11, h⟩ := nq_asE h
    refine nq_iast hX (nq_Letters_terms hL) e11 hi11 dX0_add_79 ?_
    refine nq_aload_n hX rfl 1 rfl dX0_add_80 ?_
    refine nq_getr (v := .ref (nq_ad E (p + 8))) hX inX0_add_0 (nq_Letters_0 hL) rfl 8 (by decide) lkX0_add_37 _ rfl rfl dX0_add_81 ?_
    refine nq_iload hX 0 rfl dX0_add_84 ?_
    refine nq_iconst hX (v := 1) (by decide) dX0_add_86 ?_
    refine nq_aload_n hX rfl 1 rfl dX0_add_87 ?_
    refine nq_aload_n hX rfl 1 rfl dX0_add_88 ?_
    refine nq_getr (v := .ref (nq_ad E (p + 2))) hX inX0_add_0 (nq_Letters_0 hL) rfl 2 (by decide) lkX0_add_19 _ rfl rfl dX0_add_89 ?_
    refine nq_iload hX 0 rfl dX0_add_92 ?_
    obtain ⟨v12, e12, hi12, h⟩ := nq_agE h
    refine nq_iald hX (nq_Letters_froms hL) e12 hi12 dX0_add_94 ?_
    refine nq_iload_n hX rfl 4 rfl dX0_add_95 ?_
    refine nq_iload hX 5 rfl dX0_add_96 ?_
    obtain ⟨v14, hc13, h⟩ := nq_bE h
    refine nq_callVi hX (tX0_deepest hL hc13) gX0_add_X0_deepest rfl rfl dsX0_deepest (by decide) (nq_Letters_0 hL) rfl rfl (Nat.le_of_ble_eq_true rfl) dX0_add_98 ?_
    refine nq_iadd hX dX0_add_101 ?_
    obtain ⟨M15, e15, hi15, h⟩ := nq_asE h
    refine nq_iast hX (nq_Letters_depths hL) e15 hi15 dX0_add_102 ?_
    refine nq_aload_n hX rfl 1 rfl dX0_add_103 ?_
    refine nq_dup hX rfl dX0_add_104 ?_
    obtain ⟨v16, e16, h⟩ := nq_ltE h
    refine nq_geti hX inX0_add_0 (nq_Letters_0 hL) rfl 0 (by decide) lkX0_add_9 rfl e16 dX0_add_105 ?_
    refine nq_iconst hX (v := 1) (by decide) dX0_add_108 ?_
    refine nq_iadd hX dX0_add_109 ?_
    obtain ⟨M17, eM17, h⟩ := nq_ltE h
    refine nq_puti hX inX0_add_0 tyX0 tyX0_ok nmX0 (nq_Letters_0 hL) rfl 0 (by decide) lkX0_add_9 rfl rfl rfl rfl rfl eM17 dX0_add_110 ?_
    refine nq_iload hX 6 rfl dX0_add_113 ?_
    refine nq_if_lt hX (tgt := 124) (by decide) dX0_add_115 (fun c18 => ?_) (fun c18 => ?_)
    · rw [if_pos c18] at h
      refine nq_iload hX 0 rfl dX0_add_124 ?_
      obtain ⟨rfl, rfl⟩ := nq_sE2 h; exact nq_iret hX hr dX0_add_126
    · rw [if_neg c18] at h
      refine nq_aload_n hX rfl 1 rfl dX0_add_118 ?_
      refine nq_iload hX 0 rfl dX0_add_119 ?_
      obtain ⟨M20, hc19, h⟩ := nq_bE h
      refine nq_callVv hX (tX0_queue hL hc19) gX0_add_X0_queue rfl rfl dsX0_queue (by decide) (nq_Letters_0 hL) rfl rfl (Nat.le_of_ble_eq_true rfl) dX0_add_121 ?_
      refine nq_iload hX 0 rfl dX0_add_124 ?_
      obtain ⟨rfl, rfl⟩ := nq_sE2 h; exact nq_iret hX hr dX0_add_126
  · rw [if_neg c2] at h
    refine nq_iconst hX (v := -1) (by decide) dX0_add_13 ?_
    obtain ⟨rfl, rfl⟩ := nq_sE2 h; exact nq_iret hX hr dX0_add_14
theorem dsX0_add : yX0_add.cls ≠ "java/lang/invoke/MethodHandle" ∧ yX0_add.cls ≠ "java/lang/invoke/VarHandle" ∧ (parseMethodDescriptor yX0_add.desc).map (fun d => d.parameters.length) = some 6 := by decide +kernel
theorem tX0_add {l : Launch} {E : Ev} {K : List Sh} {p : Nat} {x1 : Int32} {x2 : Int32} {x3 : Int32} {x4 : Int32} {x5 : Int32} {x6 : Int32} {M : Mem} {r : Int32} {M' : Mem} (hL : nq_atLetters E K p) (h : fX0_add p x1 x2 x3 x4 x5 x6 M = some (r, M')) : nq_MA l E yX0_add wsX0_add (nq_rm 3) [.ref (nq_ad E p), .int x1, .int x2, .int x3, .int x4, .int x5, .int x6] K M (some (.int r)) K M' :=
  nq_met (own := RX0) (cc := cX0_add) (maxL := 8) (ret := (some .int)) (by decide) rfl rfl (Nat.le_of_ble_eq_true rfl) (fun X hX hr => mX0_add hL hX hr h)

theorem inX0_drop_0 : ∀ w ∈ u_ws RX0 TX0 11, w ∈ wsX0_drop := by
  intro w h; unfold wsX0_drop; simp only [List.mem_cons, List.mem_append]; simp only [h, true_or, or_true]
theorem lkX0_drop_31 : Cond.fieldLink RX0 31 (TX0 6).1 (TX0 6).2.1 (TX0 6).2.2.1 ∈ wsX0_drop := by decide +kernel
theorem lkX0_drop_40 : Cond.fieldLink RX0 40 (TX0 9).1 (TX0 9).2.1 (TX0 9).2.2.1 ∈ wsX0_drop := by decide +kernel
theorem lkX0_drop_43 : Cond.fieldLink RX0 43 (TX0 10).1 (TX0 10).2.1 (TX0 10).2.2.1 ∈ wsX0_drop := by decide +kernel
def fX0_drop_B11 (p : Nat) (x1 : Int32) (x2 : Int32) (x3 : Int32) (M : Mem) : Option ((Int32 × Int32 × Mem) ⊕ (Int32 × Mem)) :=
  nq_lt (M p 9) fun v2 =>
  if v2 ≤ x3 then
  (some (.inr (x2, M)))
  else
  ((nq_ag (M (p + 9)) 80 x3).bind fun v4 =>
  if v4 = x1 then
  (nq_lt (x3 + (1 : Int32)) fun v6 =>
  some (.inl (x2, v6, M)))
  else
  ((nq_ag (M (p + 9)) 80 x3).bind fun v7 =>
  (nq_as M (p + 9) 80 x2 v7).bind fun M8 =>
  nq_lt (x2 + (1 : Int32)) fun v9 =>
  nq_lt (x3 + (1 : Int32)) fun v10 =>
  some (.inl (v9, v10, M8))))
set_option maxHeartbeats 4000000 in
theorem mX0_drop_B11 {X : Cx} {E : Ev} {l : Launch} {K : List Sh} {p : Nat} {x1 : Int32} {x2 : Int32} {x3 : Int32} {M : Mem} (hL : nq_atLetters E K p) (hX : nq_OK X E l (nq_rm 1) cX0_drop 4 RX0 wsX0_drop) {x : (Int32 × Int32 × Mem) ⊕ (Int32 × Mem)} (hc : ∀ s' : Int32 × Int32 × Mem, x = .inl s' → nq_G X E 4 11 [(0, .ref (nq_ad E p)), (1, .int x1), (2, .int s'.1), (3, .int s'.2.1)] [] K s'.2.2) (he : ∀ s' : Int32 × Mem, x = .inr s' → nq_G X E 4 50 [(0, .ref (nq_ad E p)), (2, .int s'.1)] [] K s'.2) (h : fX0_drop_B11 p x1 x2 x3 M = some x) : nq_G X E 4 11 [(0, .ref (nq_ad E p)), (1, .int x1), (2, .int x2), (3, .int x3)] [] K M := by
  unfold fX0_drop_B11 at h
  refine nq_iload_n hX rfl 3 rfl dX0_drop_11 ?_
  refine nq_aload_n hX rfl 0 rfl dX0_drop_12 ?_
  obtain ⟨v2, e2, h⟩ := nq_ltE h
  refine nq_geti hX inX0_drop_0 (nq_Letters_0 hL) rfl 9 (by decide) lkX0_drop_40 rfl e2 dX0_drop_13 ?_
  refine nq_icmp_ge hX (tgt := 50) (by decide) dX0_drop_16 (fun c3 => ?_) (fun c3 => ?_)
  · rw [if_pos c3] at h
    refine nq_sub (lv' := [(0, .ref (nq_ad E p)), (2, .int x2)]) [0, 2] rfl ?_
    exact he (x2, M) (nq_sE h).symm
  · rw [if_neg c3] at h
    refine nq_aload_n hX rfl 0 rfl dX0_drop_19 ?_
    refine nq_getr (v := .ref (nq_ad E (p + 9))) hX inX0_drop_0 (nq_Letters_0 hL) rfl 10 (by decide) lkX0_drop_43 _ rfl rfl dX0_drop_20 ?_
    refine nq_iload_n hX rfl 3 rfl dX0_drop_23 ?_
    obtain ⟨v4, e4, hi4, h⟩ := nq_agE h
    refine nq_iald hX (nq_Letters_arriving hL) e4 hi4 dX0_drop_24 ?_
    refine nq_iload_n hX rfl 1 rfl dX0_drop_25 ?_
    refine nq_icmp_eq hX (tgt := 44) (by decide) dX0_drop_26 (fun c5 => ?_) (fun c5 => ?_)
    · rw [if_pos c5] at h
      obtain ⟨v6, e6, h⟩ := nq_ltE h
      refine nq_iinc hX (lv' := [(3, .int v6), (0, .ref (nq_ad E p)), (1, .int x1), (2, .int x2)]) (j := 3) rfl (e6.trans rfl) (by decide) rfl dX0_drop_44 ?_
      refine nq_goto hX (tgt := 11) (by decide) dX0_drop_47 ?_
      refine nq_sub (lv' := [(0, .ref (nq_ad E p)), (1, .int x1), (2, .int x2), (3, .int v6)]) [1, 2, 3, 0] rfl ?_
      exact hc (x2, v6, M) (nq_sE h).symm
    · rw [if_neg c5] at h
      refine nq_aload_n hX rfl 0 rfl dX0_drop_29 ?_
      refine nq_getr (v := .ref (nq_ad E (p + 9))) hX inX0_drop_0 (nq_Letters_0 hL) rfl 10 (by decide) lkX0_drop_43 _ rfl rfl dX0_drop_30 ?_
      refine nq_iload_n hX rfl 2 rfl dX0_drop_33 ?_
      refine nq_aload_n hX rfl 0 rfl dX0_drop_34 ?_
      refine nq_getr (v := .ref (nq_ad E (p + 9))) hX inX0_drop_0 (nq_Letters_0 hL) rfl 10 (by decide) lkX0_drop_43 _ rfl rfl dX0_drop_35 ?_
      refine nq_iload_n hX rfl 3 rfl dX0_drop_38 ?_
      obtain ⟨v7, e7, hi7, h⟩ := nq_agE h
      refine nq_iald hX (nq_Letters_arriving hL) e7 hi7 dX0_drop_39 ?_
      obtain ⟨M8, e8, hi8, h⟩ := nq_asE h
      refine nq_iast hX (nq_Letters_arriving hL) e8 hi8 dX0_drop_40 ?_
      obtain ⟨v9, e9, h⟩ := nq_ltE h
      refine nq_iinc hX (lv' := [(2, .int v9), (0, .ref (nq_ad E p)), (1, .int x1), (3, .int x3)]) (j := 2) rfl (e9.trans rfl) (by decide) rfl dX0_drop_41 ?_
      obtain ⟨v10, e10, h⟩ := nq_ltE h
      refine nq_iinc hX (lv' := [(3, .int v10), (2, .int v9), (0, .ref (nq_ad E p)), (1, .int x1)]) (j := 3) rfl (e10.trans rfl) (by decide) rfl dX0_drop_44 ?_
      refine nq_goto hX (tgt := 11) (by decide) dX0_drop_47 ?_
      refine nq_sub (lv' := [(0, .ref (nq_ad E p)), (1, .int x1), (2, .int v9), (3, .int v10)]) [2, 3, 1, 0] rfl ?_
      exact hc (v9, v10, M8) (nq_sE h).symm
def fX0_drop_L50 (p : Nat) (x2 : Int32) (M : Mem) : Option (Mem) :=
  nq_lt (nq_wr M p 9 x2) fun M11 =>
  some M11
set_option maxHeartbeats 4000000 in
theorem mX0_drop_L50 {X : Cx} {E : Ev} {l : Launch} {K : List Sh} {p : Nat} {x2 : Int32} {M : Mem} {M' : Mem} (hL : nq_atLetters E K p) (hX : nq_OK X E l (nq_rm 1) cX0_drop 4 RX0 wsX0_drop) (hr : nq_RT X E none none K M') (h : fX0_drop_L50 p x2 M = some M') : nq_G X E 4 50 [(0, .ref (nq_ad E p)), (2, .int x2)] [] K M := by
  unfold fX0_drop_L50 at h
  refine nq_aload_n hX rfl 0 rfl dX0_drop_50 ?_
  refine nq_iload_n hX rfl 1 rfl dX0_drop_51 ?_
  obtain ⟨M11, eM11, h⟩ := nq_ltE h
  refine nq_puti hX inX0_drop_0 tyX0 tyX0_ok nmX0 (nq_Letters_0 hL) rfl 9 (by decide) lkX0_drop_40 rfl rfl rfl rfl rfl eM11 dX0_drop_52 ?_
  obtain rfl := nq_sE1 h; exact nq_vret hX hr dX0_drop_55
def fX0_drop_L11 (p : Nat) (x1 : Int32) (x2 : Int32) (x3 : Int32) (M : Mem) : Option (Mem) :=
  (nq_lp (fun s : Int32 × Int32 × Mem => fX0_drop_B11 p x1 s.1 s.2.1 s.2.2) nq_fuel (x2, x3, M)).bind (fun e => fX0_drop_L50 p e.1 e.2)
set_option maxHeartbeats 4000000 in
theorem mX0_drop_L11 {X : Cx} {E : Ev} {l : Launch} {K : List Sh} {p : Nat} {x1 : Int32} {x2 : Int32} {x3 : Int32} {M : Mem} {M' : Mem} (hL : nq_atLetters E K p) (hX : nq_OK X E l (nq_rm 1) cX0_drop 4 RX0 wsX0_drop) (hr : nq_RT X E none none K M') (h : fX0_drop_L11 p x1 x2 x3 M = some M') : nq_G X E 4 11 [(0, .ref (nq_ad E p)), (1, .int x1), (2, .int x2), (3, .int x3)] [] K M := by
  unfold fX0_drop_L11 at h
  obtain ⟨e, h1, h⟩ := nq_bE h
  have key : ∀ (ex : Int32 × Mem), nq_lp (fun s : Int32 × Int32 × Mem => fX0_drop_B11 p x1 s.1 s.2.1 s.2.2) nq_fuel (x2, x3, M) = some ex → (∀ e, ex = e → nq_G X E 4 50 [(0, .ref (nq_ad E p)), (2, .int e.1)] [] K e.2) → nq_G X E 4 11 [(0, .ref (nq_ad E p)), (1, .int x1), (2, .int ((x2, x3, M).1)), (3, .int ((x2, x3, M).2.1))] [] K (x2, x3, M).2.2 := by
    intro ex h1 hE
    refine nq_lpE (P := fun s : Int32 × Int32 × Mem => nq_G X E 4 11 [(0, .ref (nq_ad E p)), (1, .int x1), (2, .int s.1), (3, .int s.2.1)] [] K s.2.2) (r := ex) ?_ nq_fuel (x2, x3, M) h1
    intro s xx hx1 hc1 he1
    exact mX0_drop_B11 hL hX hc1 (fun e q => hE e (he1 _ q).symm) hx1
  refine key e h1 (fun e q => ?_)
  subst q
  exact mX0_drop_L50 hL hX hr h
def fX0_drop (p : Nat) (x1 : Int32) (M : Mem) : Option (Mem) :=
  (nq_as M (p + 6) 80 x1 (-1 : Int32)).bind fun M1 =>
  fX0_drop_L11 p x1 (0 : Int32) (0 : Int32) M1
set_option maxHeartbeats 4000000 in
theorem mX0_drop {X : Cx} {E : Ev} {l : Launch} {K : List Sh} {p : Nat} {x1 : Int32} {M : Mem} {M' : Mem} (hL : nq_atLetters E K p) (hX : nq_OK X E l (nq_rm 1) cX0_drop 4 RX0 wsX0_drop) (hr : nq_RT X E none none K M') (h : fX0_drop p x1 M = some M') : nq_G X E 4 0 [(0, .ref (nq_ad E p)), (1, .int x1)] [] K M := by
  unfold fX0_drop at h
  refine nq_aload_n hX rfl 0 rfl dX0_drop_0 ?_
  refine nq_getr (v := .ref (nq_ad E (p + 6))) hX inX0_drop_0 (nq_Letters_0 hL) rfl 6 (by decide) lkX0_drop_31 _ rfl rfl dX0_drop_1 ?_
  refine nq_iload_n hX rfl 1 rfl dX0_drop_4 ?_
  refine nq_iconst hX (v := -1) (by decide) dX0_drop_5 ?_
  obtain ⟨M1, e1, hi1, h⟩ := nq_asE h
  refine nq_iast hX (nq_Letters_comes hL) e1 hi1 dX0_drop_6 ?_
  refine nq_iconst hX (v := 0) (by decide) dX0_drop_7 ?_
  refine nq_istore_n hX (lv' := [(2, .int (0 : Int32)), (0, .ref (nq_ad E p)), (1, .int x1)]) rfl (by decide) rfl rfl dX0_drop_8 ?_
  refine nq_iconst hX (v := 0) (by decide) dX0_drop_9 ?_
  refine nq_istore_n hX (lv' := [(3, .int (0 : Int32)), (2, .int (0 : Int32)), (0, .ref (nq_ad E p)), (1, .int x1)]) rfl (by decide) rfl rfl dX0_drop_10 ?_
  refine nq_sub (lv' := [(0, .ref (nq_ad E p)), (1, .int x1), (2, .int (0 : Int32)), (3, .int (0 : Int32))]) [2, 3, 1, 0] rfl ?_
  exact mX0_drop_L11 hL hX hr h
theorem dsX0_drop : yX0_drop.cls ≠ "java/lang/invoke/MethodHandle" ∧ yX0_drop.cls ≠ "java/lang/invoke/VarHandle" ∧ (parseMethodDescriptor yX0_drop.desc).map (fun d => d.parameters.length) = some 1 := by decide +kernel
theorem tX0_drop {l : Launch} {E : Ev} {K : List Sh} {p : Nat} {x1 : Int32} {M : Mem} {M' : Mem} (hL : nq_atLetters E K p) (h : fX0_drop p x1 M = some M') : nq_MA l E yX0_drop wsX0_drop (nq_rm 1) [.ref (nq_ad E p), .int x1] K M none K M' :=
  nq_met (own := RX0) (cc := cX0_drop) (maxL := 4) (ret := none) (by decide) rfl rfl (Nat.le_of_ble_eq_true rfl) (fun X hX hr => mX0_drop hL hX hr h)

theorem inX0_arrived_0 : ∀ w ∈ u_ws RX0 TX0 11, w ∈ wsX0_arrived := by
  intro w h; unfold wsX0_arrived; simp only [List.mem_cons, List.mem_append]; simp only [h, true_or, or_true]
theorem lkX0_arrived_40 : Cond.fieldLink RX0 40 (TX0 9).1 (TX0 9).2.1 (TX0 9).2.2.1 ∈ wsX0_arrived := by decide +kernel
theorem lkX0_arrived_31 : Cond.fieldLink RX0 31 (TX0 6).1 (TX0 6).2.1 (TX0 6).2.2.1 ∈ wsX0_arrived := by decide +kernel
theorem lkX0_arrived_43 : Cond.fieldLink RX0 43 (TX0 10).1 (TX0 10).2.1 (TX0 10).2.2.1 ∈ wsX0_arrived := by decide +kernel
def fX0_arrived_B6 (p : Nat) (x1 : Int32) (x2 : Int32) (x3 : Int32) (x4 : Int32) (x5 : Int32) (M : Mem) : Option ((Int32 × Int32) ⊕ (Int32)) :=
  nq_lt (M p 9) fun v1 =>
  if v1 ≤ x5 then
  (some (.inr x4))
  else
  ((nq_ag (M (p + 9)) 80 x5).bind fun v3 =>
  (nq_ag (M (p + 6)) 80 v3).bind fun v4 =>
  if x3 < v4 then
  (some (.inr x4))
  else
  ((nq_ag (M (p + 9)) 80 x5).bind fun v6 =>
  (fX0_isFor p v6 x1 x2 M).bind fun v8 =>
  if v8 = 0 then
  (nq_lt (x5 + (1 : Int32)) fun v10 =>
  some (.inl (x4, v10)))
  else
  (nq_lt (x4 + (1 : Int32)) fun v11 =>
  nq_lt (x5 + (1 : Int32)) fun v12 =>
  some (.inl (v11, v12)))))
set_option maxHeartbeats 4000000 in
theorem mX0_arrived_B6 {X : Cx} {E : Ev} {l : Launch} {K : List Sh} {p : Nat} {x1 : Int32} {x2 : Int32} {x3 : Int32} {x4 : Int32} {x5 : Int32} {M : Mem} (hL : nq_atLetters E K p) (hX : nq_OK X E l (nq_rm 2) cX0_arrived 6 RX0 wsX0_arrived) {x : (Int32 × Int32) ⊕ (Int32)} (hc : ∀ s' : Int32 × Int32, x = .inl s' → nq_G X E 6 6 [(0, .ref (nq_ad E p)), (1, .int x1), (2, .int x2), (3, .int x3), (4, .int s'.1), (5, .int s'.2)] [] K M) (he : ∀ s' : Int32, x = .inr s' → nq_G X E 6 56 [(4, .int s')] [] K M) (h : fX0_arrived_B6 p x1 x2 x3 x4 x5 M = some x) : nq_G X E 6 6 [(0, .ref (nq_ad E p)), (1, .int x1), (2, .int x2), (3, .int x3), (4, .int x4), (5, .int x5)] [] K M := by
  unfold fX0_arrived_B6 at h
  refine nq_iload hX 5 rfl dX0_arrived_6 ?_
  refine nq_aload_n hX rfl 0 rfl dX0_arrived_8 ?_
  obtain ⟨v1, e1, h⟩ := nq_ltE h
  refine nq_geti hX inX0_arrived_0 (nq_Letters_0 hL) rfl 9 (by decide) lkX0_arrived_40 rfl e1 dX0_arrived_9 ?_
  refine nq_icmp_ge hX (tgt := 56) (by decide) dX0_arrived_12 (fun c2 => ?_) (fun c2 => ?_)
  · rw [if_pos c2] at h
    refine nq_sub (lv' := [(4, .int x4)]) [4] rfl ?_
    exact he x4 (nq_sE h).symm
  · rw [if_neg c2] at h
    refine nq_aload_n hX rfl 0 rfl dX0_arrived_15 ?_
    refine nq_getr (v := .ref (nq_ad E (p + 6))) hX inX0_arrived_0 (nq_Letters_0 hL) rfl 6 (by decide) lkX0_arrived_31 _ rfl rfl dX0_arrived_16 ?_
    refine nq_aload_n hX rfl 0 rfl dX0_arrived_19 ?_
    refine nq_getr (v := .ref (nq_ad E (p + 9))) hX inX0_arrived_0 (nq_Letters_0 hL) rfl 10 (by decide) lkX0_arrived_43 _ rfl rfl dX0_arrived_20 ?_
    refine nq_iload hX 5 rfl dX0_arrived_23 ?_
    obtain ⟨v3, e3, hi3, h⟩ := nq_agE h
    refine nq_iald hX (nq_Letters_arriving hL) e3 hi3 dX0_arrived_25 ?_
    obtain ⟨v4, e4, hi4, h⟩ := nq_agE h
    refine nq_iald hX (nq_Letters_comes hL) e4 hi4 dX0_arrived_26 ?_
    refine nq_iload_n hX rfl 3 rfl dX0_arrived_27 ?_
    refine nq_icmp_gt hX (tgt := 56) (by decide) dX0_arrived_28 (fun c5 => ?_) (fun c5 => ?_)
    · rw [if_pos c5] at h
      refine nq_sub (lv' := [(4, .int x4)]) [4] rfl ?_
      exact he x4 (nq_sE h).symm
    · rw [if_neg c5] at h
      refine nq_aload_n hX rfl 0 rfl dX0_arrived_31 ?_
      refine nq_aload_n hX rfl 0 rfl dX0_arrived_32 ?_
      refine nq_getr (v := .ref (nq_ad E (p + 9))) hX inX0_arrived_0 (nq_Letters_0 hL) rfl 10 (by decide) lkX0_arrived_43 _ rfl rfl dX0_arrived_33 ?_
      refine nq_iload hX 5 rfl dX0_arrived_36 ?_
      obtain ⟨v6, e6, hi6, h⟩ := nq_agE h
      refine nq_iald hX (nq_Letters_arriving hL) e6 hi6 dX0_arrived_38 ?_
      refine nq_iload_n hX rfl 1 rfl dX0_arrived_39 ?_
      refine nq_iload_n hX rfl 2 rfl dX0_arrived_40 ?_
      obtain ⟨v8, hc7, h⟩ := nq_bE h
      refine nq_callVi hX (tX0_isFor hL hc7) gX0_arrived_X0_isFor rfl rfl dsX0_isFor (by decide) (nq_Letters_0 hL) rfl rfl (Nat.le_of_ble_eq_true rfl) dX0_arrived_41 ?_
      refine nq_if_eq hX (tgt := 50) (by decide) dX0_arrived_44 (fun c9 => ?_) (fun c9 => ?_)
      · rw [if_pos c9] at h
        obtain ⟨v10, e10, h⟩ := nq_ltE h
        refine nq_iinc hX (lv' := [(5, .int v10), (0, .ref (nq_ad E p)), (1, .int x1), (2, .int x2), (3, .int x3), (4, .int x4)]) (j := 5) rfl (e10.trans rfl) (by decide) rfl dX0_arrived_50 ?_
        refine nq_goto hX (tgt := 6) (by decide) dX0_arrived_53 ?_
        refine nq_sub (lv' := [(0, .ref (nq_ad E p)), (1, .int x1), (2, .int x2), (3, .int x3), (4, .int x4), (5, .int v10)]) [1, 2, 3, 4, 5, 0] rfl ?_
        exact hc (x4, v10) (nq_sE h).symm
      · rw [if_neg c9] at h
        obtain ⟨v11, e11, h⟩ := nq_ltE h
        refine nq_iinc hX (lv' := [(4, .int v11), (0, .ref (nq_ad E p)), (1, .int x1), (2, .int x2), (3, .int x3), (5, .int x5)]) (j := 4) rfl (e11.trans rfl) (by decide) rfl dX0_arrived_47 ?_
        obtain ⟨v12, e12, h⟩ := nq_ltE h
        refine nq_iinc hX (lv' := [(5, .int v12), (4, .int v11), (0, .ref (nq_ad E p)), (1, .int x1), (2, .int x2), (3, .int x3)]) (j := 5) rfl (e12.trans rfl) (by decide) rfl dX0_arrived_50 ?_
        refine nq_goto hX (tgt := 6) (by decide) dX0_arrived_53 ?_
        refine nq_sub (lv' := [(0, .ref (nq_ad E p)), (1, .int x1), (2, .int x2), (3, .int x3), (4, .int v11), (5, .int v12)]) [2, 3, 4, 5, 1, 0] rfl ?_
        exact hc (v11, v12) (nq_sE h).symm
def fX0_arrived_L56 (p : Nat) (x4 : Int32) (M : Mem) : Option (Int32) :=
  some x4
set_option maxHeartbeats 4000000 in
theorem mX0_arrived_L56 {X : Cx} {E : Ev} {l : Launch} {K : List Sh} {p : Nat} {x4 : Int32} {M : Mem} {r : Int32} (hL : nq_atLetters E K p) (hX : nq_OK X E l (nq_rm 2) cX0_arrived 6 RX0 wsX0_arrived) (hr : nq_RT X E (some .int) (some (.int r)) K M) (h : fX0_arrived_L56 p x4 M = some r) : nq_G X E 6 56 [(4, .int x4)] [] K M := by
  unfold fX0_arrived_L56 at h
  refine nq_iload hX 0 rfl dX0_arrived_56 ?_
  obtain rfl := nq_sE1 h; exact nq_iret hX hr dX0_arrived_58
def fX0_arrived_L6 (p : Nat) (x1 : Int32) (x2 : Int32) (x3 : Int32) (x4 : Int32) (x5 : Int32) (M : Mem) : Option (Int32) :=
  (nq_lp (fun s : Int32 × Int32 => fX0_arrived_B6 p x1 x2 x3 s.1 s.2 M) nq_fuel (x4, x5)).bind (fun e => fX0_arrived_L56 p e M)
set_option maxHeartbeats 4000000 in
theorem mX0_arrived_L6 {X : Cx} {E : Ev} {l : Launch} {K : List Sh} {p : Nat} {x1 : Int32} {x2 : Int32} {x3 : Int32} {x4 : Int32} {x5 : Int32} {M : Mem} {r : Int32} (hL : nq_atLetters E K p) (hX : nq_OK X E l (nq_rm 2) cX0_arrived 6 RX0 wsX0_arrived) (hr : nq_RT X E (some .int) (some (.int r)) K M) (h : fX0_arrived_L6 p x1 x2 x3 x4 x5 M = some r) : nq_G X E 6 6 [(0, .ref (nq_ad E p)), (1, .int x1), (2, .int x2), (3, .int x3), (4, .int x4), (5, .int x5)] [] K M := by
  unfold fX0_arrived_L6 at h
  obtain ⟨e, h1, h⟩ := nq_bE h
  have key : ∀ (ex : Int32), nq_lp (fun s : Int32 × Int32 => fX0_arrived_B6 p x1 x2 x3 s.1 s.2 M) nq_fuel (x4, x5) = some ex → (∀ e, ex = e → nq_G X E 6 56 [(4, .int e)] [] K M) → nq_G X E 6 6 [(0, .ref (nq_ad E p)), (1, .int x1), (2, .int x2), (3, .int x3), (4, .int ((x4, x5).1)), (5, .int ((x4, x5).2))] [] K M := by
    intro ex h1 hE
    refine nq_lpE (P := fun s : Int32 × Int32 => nq_G X E 6 6 [(0, .ref (nq_ad E p)), (1, .int x1), (2, .int x2), (3, .int x3), (4, .int s.1), (5, .int s.2)] [] K M) (r := ex) ?_ nq_fuel (x4, x5) h1
    intro s xx hx1 hc1 he1
    exact mX0_arrived_B6 hL hX hc1 (fun e q => hE e (he1 _ q).symm) hx1
  refine key e h1 (fun e q => ?_)
  subst q
  exact mX0_arrived_L56 hL hX hr h
def fX0_arrived (p : Nat) (x1 : Int32) (x2 : Int32) (x3 : Int32) (M : Mem) : Option (Int32) :=
  fX0_arrived_L6 p x1 x2 x3 (0 : Int32) (0 : Int32) M
set_option maxHeartbeats 4000000 in
theorem mX0_arrived {X : Cx} {E : Ev} {l : Launch} {K : List Sh} {p : Nat} {x1 : Int32} {x2 : Int32} {x3 : Int32} {M : Mem} {r : Int32} (hL : nq_atLetters E K p) (hX : nq_OK X E l (nq_rm 2) cX0_arrived 6 RX0 wsX0_arrived) (hr : nq_RT X E (some .int) (some (.int r)) K M) (h : fX0_arrived p x1 x2 x3 M = some r) : nq_G X E 6 0 [(0, .ref (nq_ad E p)), (1, .int x1), (2, .int x2), (3, .int x3)] [] K M := by
  unfold fX0_arrived at h
  refine nq_iconst hX (v := 0) (by decide) dX0_arrived_0 ?_
  refine nq_istore hX (lv' := [(4, .int (0 : Int32)), (0, .ref (nq_ad E p)), (1, .int x1), (2, .int x2), (3, .int x3)]) (by decide) rfl rfl dX0_arrived_1 ?_
  refine nq_iconst hX (v := 0) (by decide) dX0_arrived_3 ?_
  refine nq_istore hX (lv' := [(5, .int (0 : Int32)), (4, .int (0 : Int32)), (0, .ref (nq_ad E p)), (1, .int x1), (2, .int x2), (3, .int x3)]) (by decide) rfl rfl dX0_arrived_4 ?_
  refine nq_sub (lv' := [(0, .ref (nq_ad E p)), (1, .int x1), (2, .int x2), (3, .int x3), (4, .int (0 : Int32)), (5, .int (0 : Int32))]) [2, 3, 4, 5, 1, 0] rfl ?_
  exact mX0_arrived_L6 hL hX hr h
theorem dsX0_arrived : yX0_arrived.cls ≠ "java/lang/invoke/MethodHandle" ∧ yX0_arrived.cls ≠ "java/lang/invoke/VarHandle" ∧ (parseMethodDescriptor yX0_arrived.desc).map (fun d => d.parameters.length) = some 3 := by decide +kernel
theorem tX0_arrived {l : Launch} {E : Ev} {K : List Sh} {p : Nat} {x1 : Int32} {x2 : Int32} {x3 : Int32} {M : Mem} {r : Int32} (hL : nq_atLetters E K p) (h : fX0_arrived p x1 x2 x3 M = some r) : nq_MA l E yX0_arrived wsX0_arrived (nq_rm 2) [.ref (nq_ad E p), .int x1, .int x2, .int x3] K M (some (.int r)) K M :=
  nq_met (own := RX0) (cc := cX0_arrived) (maxL := 6) (ret := (some .int)) (by decide) rfl rfl (Nat.le_of_ble_eq_true rfl) (fun X hX hr => mX0_arrived hL hX hr h)

theorem inX0_isBy_0 : ∀ w ∈ u_ws RX0 TX0 11, w ∈ wsX0_isBy := by
  intro w h; unfold wsX0_isBy; simp only [List.mem_cons, List.mem_append]; simp only [h, true_or, or_true]
theorem lkX0_isBy_19 : Cond.fieldLink RX0 19 (TX0 2).1 (TX0 2).2.1 (TX0 2).2.2.1 ∈ wsX0_isBy := by decide +kernel
theorem lkX0_isBy_25 : Cond.fieldLink RX0 25 (TX0 4).1 (TX0 4).2.1 (TX0 4).2.2.1 ∈ wsX0_isBy := by decide +kernel
def fX0_isBy (p : Nat) (x1 : Int32) (x2 : Int32) (x3 : Int32) (M : Mem) : Option (Int32) :=
  (nq_ag (M (p + 2)) 80 x1).bind fun v1 =>
  if v1 = x2 then
  ((nq_ag (M (p + 4)) 80 x1).bind fun v3 =>
  if v3 = x3 then
  (some (1 : Int32))
  else
  (some (0 : Int32)))
  else
  (some (0 : Int32))
set_option maxHeartbeats 4000000 in
theorem mX0_isBy {X : Cx} {E : Ev} {l : Launch} {K : List Sh} {p : Nat} {x1 : Int32} {x2 : Int32} {x3 : Int32} {M : Mem} {r : Int32} (hL : nq_atLetters E K p) (hX : nq_OK X E l (nq_rm 1) cX0_isBy 4 RX0 wsX0_isBy) (hr : nq_RT X E (some .boolean) (some (.int r)) K M) (h : fX0_isBy p x1 x2 x3 M = some r) : nq_G X E 4 0 [(0, .ref (nq_ad E p)), (1, .int x1), (2, .int x2), (3, .int x3)] [] K M := by
  unfold fX0_isBy at h
  refine nq_aload_n hX rfl 0 rfl dX0_isBy_0 ?_
  refine nq_getr (v := .ref (nq_ad E (p + 2))) hX inX0_isBy_0 (nq_Letters_0 hL) rfl 2 (by decide) lkX0_isBy_19 _ rfl rfl dX0_isBy_1 ?_
  refine nq_iload_n hX rfl 1 rfl dX0_isBy_4 ?_
  obtain ⟨v1, e1, hi1, h⟩ := nq_agE h
  refine nq_iald hX (nq_Letters_froms hL) e1 hi1 dX0_isBy_5 ?_
  refine nq_iload_n hX rfl 2 rfl dX0_isBy_6 ?_
  refine nq_icmp_ne hX (tgt := 24) (by decide) dX0_isBy_7 (fun c2 => ?_) (fun c2 => ?_)
  · rw [if_pos c2] at h
    refine nq_aload_n hX rfl 0 rfl dX0_isBy_10 ?_
    refine nq_getr (v := .ref (nq_ad E (p + 4))) hX inX0_isBy_0 (nq_Letters_0 hL) rfl 4 (by decide) lkX0_isBy_25 _ rfl rfl dX0_isBy_11 ?_
    refine nq_iload_n hX rfl 1 rfl dX0_isBy_14 ?_
    obtain ⟨v3, e3, hi3, h⟩ := nq_agE h
    refine nq_iald hX (nq_Letters_pacts hL) e3 hi3 dX0_isBy_15 ?_
    refine nq_iload_n hX rfl 3 rfl dX0_isBy_16 ?_
    refine nq_icmp_ne hX (tgt := 24) (by decide) dX0_isBy_17 (fun c4 => ?_) (fun c4 => ?_)
    · rw [if_pos c4] at h
      refine nq_iconst hX (v := 1) (by decide) dX0_isBy_20 ?_
      refine nq_goto hX (tgt := 25) (by decide) dX0_isBy_21 ?_
      obtain rfl := nq_sE1 h; exact nq_zret hX hr rfl dX0_isBy_25
    · rw [if_neg c4] at h
      refine nq_iconst hX (v := 0) (by decide) dX0_isBy_24 ?_
      obtain rfl := nq_sE1 h; exact nq_zret hX hr rfl dX0_isBy_25
  · rw [if_neg c2] at h
    refine nq_iconst hX (v := 0) (by decide) dX0_isBy_24 ?_
    obtain rfl := nq_sE1 h; exact nq_zret hX hr rfl dX0_isBy_25
theorem dsX0_isBy : yX0_isBy.cls ≠ "java/lang/invoke/MethodHandle" ∧ yX0_isBy.cls ≠ "java/lang/invoke/VarHandle" ∧ (parseMethodDescriptor yX0_isBy.desc).map (fun d => d.parameters.length) = some 3 := by decide +kernel
theorem tX0_isBy {l : Launch} {E : Ev} {K : List Sh} {p : Nat} {x1 : Int32} {x2 : Int32} {x3 : Int32} {M : Mem} {r : Int32} (hL : nq_atLetters E K p) (h : fX0_isBy p x1 x2 x3 M = some r) : nq_MA l E yX0_isBy wsX0_isBy (nq_rm 1) [.ref (nq_ad E p), .int x1, .int x2, .int x3] K M (some (.int r)) K M :=
  nq_met (own := RX0) (cc := cX0_isBy) (maxL := 4) (ret := (some .boolean)) (by decide) rfl rfl (Nat.le_of_ble_eq_true rfl) (fun X hX hr => mX0_isBy hL hX hr h)

theorem inX0_lastYear_0 : ∀ w ∈ u_ws RX0 TX0 11, w ∈ wsX0_lastYear := by
  intro w h; unfold wsX0_lastYear; simp only [List.mem_cons, List.mem_append]; simp only [h, true_or, or_true]
theorem lkX0_lastYear_28 : Cond.fieldLink RX0 28 (TX0 5).1 (TX0 5).2.1 (TX0 5).2.2.1 ∈ wsX0_lastYear := by decide +kernel
theorem lkX0_lastYear_34 : Cond.fieldLink RX0 34 (TX0 7).1 (TX0 7).2.1 (TX0 7).2.2.1 ∈ wsX0_lastYear := by decide +kernel
def fX0_lastYear (p : Nat) (x1 : Int32) (M : Mem) : Option (Int32) :=
  (nq_ag (M (p + 5)) 80 x1).bind fun v1 =>
  (nq_ag (M (p + 7)) 80 x1).bind fun v2 =>
  some (v1 + v2)
set_option maxHeartbeats 4000000 in
theorem mX0_lastYear {X : Cx} {E : Ev} {l : Launch} {K : List Sh} {p : Nat} {x1 : Int32} {M : Mem} {r : Int32} (hL : nq_atLetters E K p) (hX : nq_OK X E l (nq_rm 1) cX0_lastYear 2 RX0 wsX0_lastYear) (hr : nq_RT X E (some .int) (some (.int r)) K M) (h : fX0_lastYear p x1 M = some r) : nq_G X E 2 0 [(0, .ref (nq_ad E p)), (1, .int x1)] [] K M := by
  unfold fX0_lastYear at h
  refine nq_aload_n hX rfl 0 rfl dX0_lastYear_0 ?_
  refine nq_getr (v := .ref (nq_ad E (p + 5))) hX inX0_lastYear_0 (nq_Letters_0 hL) rfl 5 (by decide) lkX0_lastYear_28 _ rfl rfl dX0_lastYear_1 ?_
  refine nq_iload_n hX rfl 1 rfl dX0_lastYear_4 ?_
  obtain ⟨v1, e1, hi1, h⟩ := nq_agE h
  refine nq_iald hX (nq_Letters_years hL) e1 hi1 dX0_lastYear_5 ?_
  refine nq_aload_n hX rfl 0 rfl dX0_lastYear_6 ?_
  refine nq_getr (v := .ref (nq_ad E (p + 7))) hX inX0_lastYear_0 (nq_Letters_0 hL) rfl 7 (by decide) lkX0_lastYear_34 _ rfl rfl dX0_lastYear_7 ?_
  refine nq_iload_n hX rfl 1 rfl dX0_lastYear_10 ?_
  obtain ⟨v2, e2, hi2, h⟩ := nq_agE h
  refine nq_iald hX (nq_Letters_terms hL) e2 hi2 dX0_lastYear_11 ?_
  refine nq_iadd hX dX0_lastYear_12 ?_
  obtain rfl := nq_sE1 h; exact nq_iret hX hr dX0_lastYear_13
theorem dsX0_lastYear : yX0_lastYear.cls ≠ "java/lang/invoke/MethodHandle" ∧ yX0_lastYear.cls ≠ "java/lang/invoke/VarHandle" ∧ (parseMethodDescriptor yX0_lastYear.desc).map (fun d => d.parameters.length) = some 1 := by decide +kernel
theorem tX0_lastYear {l : Launch} {E : Ev} {K : List Sh} {p : Nat} {x1 : Int32} {M : Mem} {r : Int32} (hL : nq_atLetters E K p) (h : fX0_lastYear p x1 M = some r) : nq_MA l E yX0_lastYear wsX0_lastYear (nq_rm 1) [.ref (nq_ad E p), .int x1] K M (some (.int r)) K M :=
  nq_met (own := RX0) (cc := cX0_lastYear) (maxL := 2) (ret := (some .int)) (by decide) rfl rfl (Nat.le_of_ble_eq_true rfl) (fun X hX hr => mX0_lastYear hL hX hr h)

theorem inX0_latestKind_0 : ∀ w ∈ u_ws RX0 TX0 11, w ∈ wsX0_latestKind := by
  intro w h; unfold wsX0_latestKind; simp only [List.mem_cons, List.mem_append]; simp only [h, true_or, or_true]
theorem lkX0_latestKind_40 : Cond.fieldLink RX0 40 (TX0 9).1 (TX0 9).2.1 (TX0 9).2.2.1 ∈ wsX0_latestKind := by decide +kernel
theorem lkX0_latestKind_31 : Cond.fieldLink RX0 31 (TX0 6).1 (TX0 6).2.1 (TX0 6).2.2.1 ∈ wsX0_latestKind := by decide +kernel
theorem lkX0_latestKind_43 : Cond.fieldLink RX0 43 (TX0 10).1 (TX0 10).2.1 (TX0 10).2.2.1 ∈ wsX0_latestKind := by decide +kernel
theorem lkX0_latestKind_15 : Cond.fieldLink RX0 15 (TX0 1).1 (TX0 1).2.1 (TX0 1).2.2.1 ∈ wsX0_latestKind := by decide +kernel
def fX0_latestKind_B7 (p : Nat) (x1 : Int32) (x2 : Int32) (x3 : Int32) (x4 : Int32) (x5 : Int32) (M : Mem) : Option ((Int32 × Int32) ⊕ (Int32)) :=
  nq_lt (M p 9) fun v1 =>
  if v1 ≤ x5 then
  (some (.inr x4))
  else
  ((nq_ag (M (p + 9)) 80 x5).bind fun v3 =>
  (nq_ag (M (p + 6)) 80 v3).bind fun v4 =>
  if x3 < v4 then
  (some (.inr x4))
  else
  ((nq_ag (M (p + 9)) 80 x5).bind fun v6 =>
  (fX0_isFor p v6 x1 x2 M).bind fun v8 =>
  if v8 = 0 then
  (nq_lt (x5 + (1 : Int32)) fun v10 =>
  some (.inl (x4, v10)))
  else
  ((nq_ag (M (p + 9)) 80 x5).bind fun v11 =>
  (nq_ag (M (p + 1)) 80 v11).bind fun v12 =>
  nq_lt (x5 + (1 : Int32)) fun v13 =>
  some (.inl (v12, v13)))))
set_option maxHeartbeats 4000000 in
theorem mX0_latestKind_B7 {X : Cx} {E : Ev} {l : Launch} {K : List Sh} {p : Nat} {x1 : Int32} {x2 : Int32} {x3 : Int32} {x4 : Int32} {x5 : Int32} {M : Mem} (hL : nq_atLetters E K p) (hX : nq_OK X E l (nq_rm 2) cX0_latestKind 6 RX0 wsX0_latestKind) {x : (Int32 × Int32) ⊕ (Int32)} (hc : ∀ s' : Int32 × Int32, x = .inl s' → nq_G X E 6 7 [(0, .ref (nq_ad E p)), (1, .int x1), (2, .int x2), (3, .int x3), (4, .int s'.1), (5, .int s'.2)] [] K M) (he : ∀ s' : Int32, x = .inr s' → nq_G X E 6 68 [(4, .int s')] [] K M) (h : fX0_latestKind_B7 p x1 x2 x3 x4 x5 M = some x) : nq_G X E 6 7 [(0, .ref (nq_ad E p)), (1, .int x1), (2, .int x2), (3, .int x3), (4, .int x4), (5, .int x5)] [] K M := by
  unfold fX0_latestKind_B7 at h
  refine nq_iload hX 5 rfl dX0_latestKind_7 ?_
  refine nq_aload_n hX rfl 0 rfl dX0_latestKind_9 ?_
  obtain ⟨v1, e1, h⟩ := nq_ltE h
  refine nq_geti hX inX0_latestKind_0 (nq_Letters_0 hL) rfl 9 (by decide) lkX0_latestKind_40 rfl e1 dX0_latestKind_10 ?_
  refine nq_icmp_ge hX (tgt := 68) (by decide) dX0_latestKind_13 (fun c2 => ?_) (fun c2 => ?_)
  · rw [if_pos c2] at h
    refine nq_sub (lv' := [(4, .int x4)]) [4] rfl ?_
    exact he x4 (nq_sE h).symm
  · rw [if_neg c2] at h
    refine nq_aload_n hX rfl 0 rfl dX0_latestKind_16 ?_
    refine nq_getr (v := .ref (nq_ad E (p + 6))) hX inX0_latestKind_0 (nq_Letters_0 hL) rfl 6 (by decide) lkX0_latestKind_31 _ rfl rfl dX0_latestKind_17 ?_
    refine nq_aload_n hX rfl 0 rfl dX0_latestKind_20 ?_
    refine nq_getr (v := .ref (nq_ad E (p + 9))) hX inX0_latestKind_0 (nq_Letters_0 hL) rfl 10 (by decide) lkX0_latestKind_43 _ rfl rfl dX0_latestKind_21 ?_
    refine nq_iload hX 5 rfl dX0_latestKind_24 ?_
    obtain ⟨v3, e3, hi3, h⟩ := nq_agE h
    refine nq_iald hX (nq_Letters_arriving hL) e3 hi3 dX0_latestKind_26 ?_
    obtain ⟨v4, e4, hi4, h⟩ := nq_agE h
    refine nq_iald hX (nq_Letters_comes hL) e4 hi4 dX0_latestKind_27 ?_
    refine nq_iload_n hX rfl 3 rfl dX0_latestKind_28 ?_
    refine nq_icmp_gt hX (tgt := 68) (by decide) dX0_latestKind_29 (fun c5 => ?_) (fun c5 => ?_)
    · rw [if_pos c5] at h
      refine nq_sub (lv' := [(4, .int x4)]) [4] rfl ?_
      exact he x4 (nq_sE h).symm
    · rw [if_neg c5] at h
      refine nq_aload_n hX rfl 0 rfl dX0_latestKind_32 ?_
      refine nq_aload_n hX rfl 0 rfl dX0_latestKind_33 ?_
      refine nq_getr (v := .ref (nq_ad E (p + 9))) hX inX0_latestKind_0 (nq_Letters_0 hL) rfl 10 (by decide) lkX0_latestKind_43 _ rfl rfl dX0_latestKind_34 ?_
      refine nq_iload hX 5 rfl dX0_latestKind_37 ?_
      obtain ⟨v6, e6, hi6, h⟩ := nq_agE h
      refine nq_iald hX (nq_Letters_arriving hL) e6 hi6 dX0_latestKind_39 ?_
      refine nq_iload_n hX rfl 1 rfl dX0_latestKind_40 ?_
      refine nq_iload_n hX rfl 2 rfl dX0_latestKind_41 ?_
      obtain ⟨v8, hc7, h⟩ := nq_bE h
      refine nq_callVi hX (tX0_isFor hL hc7) gX0_latestKind_X0_isFor rfl rfl dsX0_isFor (by decide) (nq_Letters_0 hL) rfl rfl (Nat.le_of_ble_eq_true rfl) dX0_latestKind_42 ?_
      refine nq_if_eq hX (tgt := 62) (by decide) dX0_latestKind_45 (fun c9 => ?_) (fun c9 => ?_)
      · rw [if_pos c9] at h
        obtain ⟨v10, e10, h⟩ := nq_ltE h
        refine nq_iinc hX (lv' := [(5, .int v10), (0, .ref (nq_ad E p)), (1, .int x1), (2, .int x2), (3, .int x3), (4, .int x4)]) (j := 5) rfl (e10.trans rfl) (by decide) rfl dX0_latestKind_62 ?_
        refine nq_goto hX (tgt := 7) (by decide) dX0_latestKind_65 ?_
        refine nq_sub (lv' := [(0, .ref (nq_ad E p)), (1, .int x1), (2, .int x2), (3, .int x3), (4, .int x4), (5, .int v10)]) [1, 2, 3, 4, 5, 0] rfl ?_
        exact hc (x4, v10) (nq_sE h).symm
      · rw [if_neg c9] at h
        refine nq_aload_n hX rfl 0 rfl dX0_latestKind_48 ?_
        refine nq_getr (v := .ref (nq_ad E (p + 1))) hX inX0_latestKind_0 (nq_Letters_0 hL) rfl 1 (by decide) lkX0_latestKind_15 _ rfl rfl dX0_latestKind_49 ?_
        refine nq_aload_n hX rfl 0 rfl dX0_latestKind_52 ?_
        refine nq_getr (v := .ref (nq_ad E (p + 9))) hX inX0_latestKind_0 (nq_Letters_0 hL) rfl 10 (by decide) lkX0_latestKind_43 _ rfl rfl dX0_latestKind_53 ?_
        refine nq_iload hX 5 rfl dX0_latestKind_56 ?_
        obtain ⟨v11, e11, hi11, h⟩ := nq_agE h
        refine nq_iald hX (nq_Letters_arriving hL) e11 hi11 dX0_latestKind_58 ?_
        obtain ⟨v12, e12, hi12, h⟩ := nq_agE h
        refine nq_iald hX (nq_Letters_kinds hL) e12 hi12 dX0_latestKind_59 ?_
        refine nq_istore hX (lv' := [(4, .int v12), (0, .ref (nq_ad E p)), (1, .int x1), (2, .int x2), (3, .int x3), (5, .int x5)]) (by decide) rfl rfl dX0_latestKind_60 ?_
        obtain ⟨v13, e13, h⟩ := nq_ltE h
        refine nq_iinc hX (lv' := [(5, .int v13), (4, .int v12), (0, .ref (nq_ad E p)), (1, .int x1), (2, .int x2), (3, .int x3)]) (j := 5) rfl (e13.trans rfl) (by decide) rfl dX0_latestKind_62 ?_
        refine nq_goto hX (tgt := 7) (by decide) dX0_latestKind_65 ?_
        refine nq_sub (lv' := [(0, .ref (nq_ad E p)), (1, .int x1), (2, .int x2), (3, .int x3), (4, .int v12), (5, .int v13)]) [2, 3, 4, 5, 1, 0] rfl ?_
        exact hc (v12, v13) (nq_sE h).symm
def fX0_latestKind_L68 (p : Nat) (x4 : Int32) (M : Mem) : Option (Int32) :=
  some x4
set_option maxHeartbeats 4000000 in
theorem mX0_latestKind_L68 {X : Cx} {E : Ev} {l : Launch} {K : List Sh} {p : Nat} {x4 : Int32} {M : Mem} {r : Int32} (hL : nq_atLetters E K p) (hX : nq_OK X E l (nq_rm 2) cX0_latestKind 6 RX0 wsX0_latestKind) (hr : nq_RT X E (some .int) (some (.int r)) K M) (h : fX0_latestKind_L68 p x4 M = some r) : nq_G X E 6 68 [(4, .int x4)] [] K M := by
  unfold fX0_latestKind_L68 at h
  refine nq_iload hX 0 rfl dX0_latestKind_68 ?_
  obtain rfl := nq_sE1 h; exact nq_iret hX hr dX0_latestKind_70
def fX0_latestKind_L7 (p : Nat) (x1 : Int32) (x2 : Int32) (x3 : Int32) (x4 : Int32) (x5 : Int32) (M : Mem) : Option (Int32) :=
  (nq_lp (fun s : Int32 × Int32 => fX0_latestKind_B7 p x1 x2 x3 s.1 s.2 M) nq_fuel (x4, x5)).bind (fun e => fX0_latestKind_L68 p e M)
set_option maxHeartbeats 4000000 in
theorem mX0_latestKind_L7 {X : Cx} {E : Ev} {l : Launch} {K : List Sh} {p : Nat} {x1 : Int32} {x2 : Int32} {x3 : Int32} {x4 : Int32} {x5 : Int32} {M : Mem} {r : Int32} (hL : nq_atLetters E K p) (hX : nq_OK X E l (nq_rm 2) cX0_latestKind 6 RX0 wsX0_latestKind) (hr : nq_RT X E (some .int) (some (.int r)) K M) (h : fX0_latestKind_L7 p x1 x2 x3 x4 x5 M = some r) : nq_G X E 6 7 [(0, .ref (nq_ad E p)), (1, .int x1), (2, .int x2), (3, .int x3), (4, .int x4), (5, .int x5)] [] K M := by
  unfold fX0_latestKind_L7 at h
  obtain ⟨e, h1, h⟩ := nq_bE h
  have key : ∀ (ex : Int32), nq_lp (fun s : Int32 × Int32 => fX0_latestKind_B7 p x1 x2 x3 s.1 s.2 M) nq_fuel (x4, x5) = some ex → (∀ e, ex = e → nq_G X E 6 68 [(4, .int e)] [] K M) → nq_G X E 6 7 [(0, .ref (nq_ad E p)), (1, .int x1), (2, .int x2), (3, .int x3), (4, .int ((x4, x5).1)), (5, .int ((x4, x5).2))] [] K M := by
    intro ex h1 hE
    refine nq_lpE (P := fun s : Int32 × Int32 => nq_G X E 6 7 [(0, .ref (nq_ad E p)), (1, .int x1), (2, .int x2), (3, .int x3), (4, .int s.1), (5, .int s.2)] [] K M) (r := ex) ?_ nq_fuel (x4, x5) h1
    intro s xx hx1 hc1 he1
    exact mX0_latestKind_B7 hL hX hc1 (fun e q => hE e (he1 _ q).symm) hx1
  refine key e h1 (fun e q => ?_)
  subst q
  exact mX0_latestKind_L68 hL hX hr h
def fX0_latestKind (p : Nat) (x1 : Int32) (x2 : Int32) (x3 : Int32) (M : Mem) : Option (Int32) :=
  fX0_latestKind_L7 p x1 x2 x3 (9 : Int32) (0 : Int32) M
set_option maxHeartbeats 4000000 in
theorem mX0_latestKind {X : Cx} {E : Ev} {l : Launch} {K : List Sh} {p : Nat} {x1 : Int32} {x2 : Int32} {x3 : Int32} {M : Mem} {r : Int32} (hL : nq_atLetters E K p) (hX : nq_OK X E l (nq_rm 2) cX0_latestKind 6 RX0 wsX0_latestKind) (hr : nq_RT X E (some .int) (some (.int r)) K M) (h : fX0_latestKind p x1 x2 x3 M = some r) : nq_G X E 6 0 [(0, .ref (nq_ad E p)), (1, .int x1), (2, .int x2), (3, .int x3)] [] K M := by
  unfold fX0_latestKind at h
  refine nq_bipush hX (v := 9) (by decide) dX0_latestKind_0 ?_
  refine nq_istore hX (lv' := [(4, .int (9 : Int32)), (0, .ref (nq_ad E p)), (1, .int x1), (2, .int x2), (3, .int x3)]) (by decide) rfl rfl dX0_latestKind_2 ?_
  refine nq_iconst hX (v := 0) (by decide) dX0_latestKind_4 ?_
  refine nq_istore hX (lv' := [(5, .int (0 : Int32)), (4, .int (9 : Int32)), (0, .ref (nq_ad E p)), (1, .int x1), (2, .int x2), (3, .int x3)]) (by decide) rfl rfl dX0_latestKind_5 ?_
  refine nq_sub (lv' := [(0, .ref (nq_ad E p)), (1, .int x1), (2, .int x2), (3, .int x3), (4, .int (9 : Int32)), (5, .int (0 : Int32))]) [2, 3, 4, 5, 1, 0] rfl ?_
  exact mX0_latestKind_L7 hL hX hr h
theorem dsX0_latestKind : yX0_latestKind.cls ≠ "java/lang/invoke/MethodHandle" ∧ yX0_latestKind.cls ≠ "java/lang/invoke/VarHandle" ∧ (parseMethodDescriptor yX0_latestKind.desc).map (fun d => d.parameters.length) = some 3 := by decide +kernel
theorem tX0_latestKind {l : Launch} {E : Ev} {K : List Sh} {p : Nat} {x1 : Int32} {x2 : Int32} {x3 : Int32} {M : Mem} {r : Int32} (hL : nq_atLetters E K p) (h : fX0_latestKind p x1 x2 x3 M = some r) : nq_MA l E yX0_latestKind wsX0_latestKind (nq_rm 2) [.ref (nq_ad E p), .int x1, .int x2, .int x3] K M (some (.int r)) K M :=
  nq_met (own := RX0) (cc := cX0_latestKind) (maxL := 6) (ret := (some .int)) (by decide) rfl rfl (Nat.le_of_ble_eq_true rfl) (fun X hX hr => mX0_latestKind hL hX hr h)

theorem inX0_become_0 : ∀ w ∈ u_ws RX0 TX0 11, w ∈ wsX0_become := by
  intro w h; unfold wsX0_become; simp only [List.mem_cons, List.mem_append]; simp only [h, true_or, or_true]
theorem lkX0_become_9 : Cond.fieldLink RX0 9 (TX0 0).1 (TX0 0).2.1 (TX0 0).2.2.1 ∈ wsX0_become := by decide +kernel
theorem lkX0_become_40 : Cond.fieldLink RX0 40 (TX0 9).1 (TX0 9).2.1 (TX0 9).2.2.1 ∈ wsX0_become := by decide +kernel
theorem lkX0_become_15 : Cond.fieldLink RX0 15 (TX0 1).1 (TX0 1).2.1 (TX0 1).2.2.1 ∈ wsX0_become := by decide +kernel
theorem mmX0_become_k64 : Cond.methodLink RX0 64 arraycopyName ∈ wsX0_become := by decide +kernel
theorem mmX0_become_nacp : Cond.native arraycopyName ∈ wsX0_become := by decide +kernel
theorem mmX0_become_stcp : Cond.static arraycopyName ∈ wsX0_become := by decide +kernel
theorem mmX0_become_isy : Cond.initialized "java/lang/System" ∈ wsX0_become := by decide +kernel
theorem lkX0_become_19 : Cond.fieldLink RX0 19 (TX0 2).1 (TX0 2).2.1 (TX0 2).2.2.1 ∈ wsX0_become := by decide +kernel
theorem lkX0_become_22 : Cond.fieldLink RX0 22 (TX0 3).1 (TX0 3).2.1 (TX0 3).2.2.1 ∈ wsX0_become := by decide +kernel
theorem lkX0_become_25 : Cond.fieldLink RX0 25 (TX0 4).1 (TX0 4).2.1 (TX0 4).2.2.1 ∈ wsX0_become := by decide +kernel
theorem lkX0_become_28 : Cond.fieldLink RX0 28 (TX0 5).1 (TX0 5).2.1 (TX0 5).2.2.1 ∈ wsX0_become := by decide +kernel
theorem lkX0_become_31 : Cond.fieldLink RX0 31 (TX0 6).1 (TX0 6).2.1 (TX0 6).2.2.1 ∈ wsX0_become := by decide +kernel
theorem lkX0_become_34 : Cond.fieldLink RX0 34 (TX0 7).1 (TX0 7).2.1 (TX0 7).2.2.1 ∈ wsX0_become := by decide +kernel
theorem lkX0_become_37 : Cond.fieldLink RX0 37 (TX0 8).1 (TX0 8).2.1 (TX0 8).2.2.1 ∈ wsX0_become := by decide +kernel
theorem lkX0_become_43 : Cond.fieldLink RX0 43 (TX0 10).1 (TX0 10).2.1 (TX0 10).2.2.1 ∈ wsX0_become := by decide +kernel
def fX0_become (p : Nat) (a0 : Nat) (M : Mem) : Option (Mem) :=
  nq_lt (M a0 0) fun v1 =>
  nq_lt (nq_wr M p 0 v1) fun M2 =>
  nq_lt (M2 a0 9) fun v3 =>
  nq_lt (nq_wr M2 p 9 v3) fun M4 =>
  (nq_cp M4 (a0 + 1) 80 (0 : Int32) (p + 1) 80 (0 : Int32) (80 : Int32)).bind fun M5 =>
  (nq_cp M5 (a0 + 2) 80 (0 : Int32) (p + 2) 80 (0 : Int32) (80 : Int32)).bind fun M6 =>
  (nq_cp M6 (a0 + 3) 80 (0 : Int32) (p + 3) 80 (0 : Int32) (80 : Int32)).bind fun M7 =>
  (nq_cp M7 (a0 + 4) 80 (0 : Int32) (p + 4) 80 (0 : Int32) (80 : Int32)).bind fun M8 =>
  (nq_cp M8 (a0 + 5) 80 (0 : Int32) (p + 5) 80 (0 : Int32) (80 : Int32)).bind fun M9 =>
  (nq_cp M9 (a0 + 6) 80 (0 : Int32) (p + 6) 80 (0 : Int32) (80 : Int32)).bind fun M10 =>
  (nq_cp M10 (a0 + 7) 80 (0 : Int32) (p + 7) 80 (0 : Int32) (80 : Int32)).bind fun M11 =>
  (nq_cp M11 (a0 + 8) 80 (0 : Int32) (p + 8) 80 (0 : Int32) (80 : Int32)).bind fun M12 =>
  (nq_cp M12 (a0 + 9) 80 (0 : Int32) (p + 9) 80 (0 : Int32) (80 : Int32)).bind fun M13 =>
  some M13
set_option maxHeartbeats 4000000 in
theorem mX0_become {X : Cx} {E : Ev} {l : Launch} {K : List Sh} {p : Nat} {a0 : Nat} {M : Mem} {M' : Mem} (hL : nq_atLetters E K p) (ha0 : nq_atLetters E K a0) (hX : nq_OK X E l (nq_rm 2) cX0_become 2 RX0 wsX0_become) (hr : nq_RT X E none none K M') (h : fX0_become p a0 M = some M') : nq_G X E 2 0 [(0, .ref (nq_ad E p)), (1, .ref (nq_ad E a0))] [] K M := by
  unfold fX0_become at h
  refine nq_aload_n hX rfl 0 rfl dX0_become_0 ?_
  refine nq_aload_n hX rfl 1 rfl dX0_become_1 ?_
  obtain ⟨v1, e1, h⟩ := nq_ltE h
  refine nq_geti hX inX0_become_0 (nq_Letters_0 ha0) rfl 0 (by decide) lkX0_become_9 rfl e1 dX0_become_2 ?_
  obtain ⟨M2, eM2, h⟩ := nq_ltE h
  refine nq_puti hX inX0_become_0 tyX0 tyX0_ok nmX0 (nq_Letters_0 hL) rfl 0 (by decide) lkX0_become_9 rfl rfl rfl rfl rfl eM2 dX0_become_5 ?_
  refine nq_aload_n hX rfl 0 rfl dX0_become_8 ?_
  refine nq_aload_n hX rfl 1 rfl dX0_become_9 ?_
  obtain ⟨v3, e3, h⟩ := nq_ltE h
  refine nq_geti hX inX0_become_0 (nq_Letters_0 ha0) rfl 9 (by decide) lkX0_become_40 rfl e3 dX0_become_10 ?_
  obtain ⟨M4, eM4, h⟩ := nq_ltE h
  refine nq_puti hX inX0_become_0 tyX0 tyX0_ok nmX0 (nq_Letters_0 hL) rfl 9 (by decide) lkX0_become_40 rfl rfl rfl rfl rfl eM4 dX0_become_13 ?_
  refine nq_aload_n hX rfl 1 rfl dX0_become_16 ?_
  refine nq_getr (v := .ref (nq_ad E (a0 + 1))) hX inX0_become_0 (nq_Letters_0 ha0) rfl 1 (by decide) lkX0_become_15 _ rfl rfl dX0_become_17 ?_
  refine nq_iconst hX (v := 0) (by decide) dX0_become_20 ?_
  refine nq_aload_n hX rfl 0 rfl dX0_become_21 ?_
  refine nq_getr (v := .ref (nq_ad E (p + 1))) hX inX0_become_0 (nq_Letters_0 hL) rfl 1 (by decide) lkX0_become_15 _ rfl rfl dX0_become_22 ?_
  refine nq_iconst hX (v := 0) (by decide) dX0_become_25 ?_
  refine nq_bipush hX (v := 80) (by decide) dX0_become_26 ?_
  obtain ⟨M5, e5, hi5, h⟩ := nq_cpE h
  refine nq_acopy hX mmX0_become_k64 mmX0_become_nacp mmX0_become_stcp mmX0_become_isy (nq_Letters_kinds ha0) (nq_Letters_kinds hL) e5 hi5 (by decide) (Nat.le_of_ble_eq_true rfl) dX0_become_28 ?_
  refine nq_aload_n hX rfl 1 rfl dX0_become_31 ?_
  refine nq_getr (v := .ref (nq_ad E (a0 + 2))) hX inX0_become_0 (nq_Letters_0 ha0) rfl 2 (by decide) lkX0_become_19 _ rfl rfl dX0_become_32 ?_
  refine nq_iconst hX (v := 0) (by decide) dX0_become_35 ?_
  refine nq_aload_n hX rfl 0 rfl dX0_become_36 ?_
  refine nq_getr (v := .ref (nq_ad E (p + 2))) hX inX0_become_0 (nq_Letters_0 hL) rfl 2 (by decide) lkX0_become_19 _ rfl rfl dX0_become_37 ?_
  refine nq_iconst hX (v := 0) (by decide) dX0_become_40 ?_
  refine nq_bipush hX (v := 80) (by decide) dX0_become_41 ?_
  obtain ⟨M6, e6, hi6, h⟩ := nq_cpE h
  refine nq_acopy hX mmX0_become_k64 mmX0_become_nacp mmX0_become_stcp mmX0_become_isy (nq_Letters_froms ha0) (nq_Letters_froms hL) e6 hi6 (by decide) (Nat.le_of_ble_eq_true rfl) dX0_become_43 ?_
  refine nq_aload_n hX rfl 1 rfl dX0_become_46 ?_
  refine nq_getr (v := .ref (nq_ad E (a0 + 3))) hX inX0_become_0 (nq_Letters_0 ha0) rfl 3 (by decide) lkX0_become_22 _ rfl rfl dX0_become_47 ?_
  refine nq_iconst hX (v := 0) (by decide) dX0_become_50 ?_
  refine nq_aload_n hX rfl 0 rfl dX0_become_51 ?_
  refine nq_getr (v := .ref (nq_ad E (p + 3))) hX inX0_become_0 (nq_Letters_0 hL) rfl 3 (by decide) lkX0_become_22 _ rfl rfl dX0_become_52 ?_
  refine nq_iconst hX (v := 0) (by decide) dX0_become_55 ?_
  refine nq_bipush hX (v := 80) (by decide) dX0_become_56 ?_
  obtain ⟨M7, e7, hi7, h⟩ := nq_cpE h
  refine nq_acopy hX mmX0_become_k64 mmX0_become_nacp mmX0_become_stcp mmX0_become_isy (nq_Letters_tos ha0) (nq_Letters_tos hL) e7 hi7 (by decide) (Nat.le_of_ble_eq_true rfl) dX0_become_58 ?_
  refine nq_aload_n hX rfl 1 rfl dX0_become_61 ?_
  refine nq_getr (v := .ref (nq_ad E (a0 + 4))) hX inX0_become_0 (nq_Letters_0 ha0) rfl 4 (by decide) lkX0_become_25 _ rfl rfl dX0_become_62 ?_
  refine nq_iconst hX (v := 0) (by decide) dX0_become_65 ?_
  refine nq_aload_n hX rfl 0 rfl dX0_become_66 ?_
  refine nq_getr (v := .ref (nq_ad E (p + 4))) hX inX0_become_0 (nq_Letters_0 hL) rfl 4 (by decide) lkX0_become_25 _ rfl rfl dX0_become_67 ?_
  refine nq_iconst hX (v := 0) (by decide) dX0_become_70 ?_
  refine nq_bipush hX (v := 80) (by decide) dX0_become_71 ?_
  obtain ⟨M8, e8, hi8, h⟩ := nq_cpE h
  refine nq_acopy hX mmX0_become_k64 mmX0_become_nacp mmX0_become_stcp mmX0_become_isy (nq_Letters_pacts ha0) (nq_Letters_pacts hL) e8 hi8 (by decide) (Nat.le_of_ble_eq_true rfl) dX0_become_73 ?_
  refine nq_aload_n hX rfl 1 rfl dX0_become_76 ?_
  refine nq_getr (v := .ref (nq_ad E (a0 + 5))) hX inX0_become_0 (nq_Letters_0 ha0) rfl 5 (by decide) lkX0_become_28 _ rfl rfl dX0_become_77 ?_
  refine nq_iconst hX (v := 0) (by decide) dX0_become_80 ?_
  refine nq_aload_n hX rfl 0 rfl dX0_become_81 ?_
  refine nq_getr (v := .ref (nq_ad E (p + 5))) hX inX0_become_0 (nq_Letters_0 hL) rfl 5 (by decide) lkX0_become_28 _ rfl rfl dX0_become_82 ?_
  refine nq_iconst hX (v := 0) (by decide) dX0_become_85 ?_
  refine nq_bipush hX (v := 80) (by decide) dX0_become_86 ?_
  obtain ⟨M9, e9, hi9, h⟩ := nq_cpE h
  refine nq_acopy hX mmX0_become_k64 mmX0_become_nacp mmX0_become_stcp mmX0_become_isy (nq_Letters_years ha0) (nq_Letters_years hL) e9 hi9 (by decide) (Nat.le_of_ble_eq_true rfl) dX0_become_88 ?_
  refine nq_aload_n hX rfl 1 rfl dX0_become_91 ?_
  refine nq_getr (v := .ref (nq_ad E (a0 + 6))) hX inX0_become_0 (nq_Letters_0 ha0) rfl 6 (by decide) lkX0_become_31 _ rfl rfl dX0_become_92 ?_
  refine nq_iconst hX (v := 0) (by decide) dX0_become_95 ?_
  refine nq_aload_n hX rfl 0 rfl dX0_become_96 ?_
  refine nq_getr (v := .ref (nq_ad E (p + 6))) hX inX0_become_0 (nq_Letters_0 hL) rfl 6 (by decide) lkX0_become_31 _ rfl rfl dX0_become_97 ?_
  refine nq_iconst hX (v := 0) (by decide) dX0_become_100 ?_
  refine nq_bipush hX (v := 80) (by decide) dX0_become_101 ?_
  obtain ⟨M10, e10, hi10, h⟩ := nq_cpE h
  refine nq_acopy hX mmX0_become_k64 mmX0_become_nacp mmX0_become_stcp mmX0_become_isy (nq_Letters_comes ha0) (nq_Letters_comes hL) e10 hi10 (by decide) (Nat.le_of_ble_eq_true rfl) dX0_become_103 ?_
  refine nq_aload_n hX rfl 1 rfl dX0_become_106 ?_
  refine nq_getr (v := .ref (nq_ad E (a0 + 7))) hX inX0_become_0 (nq_Letters_0 ha0) rfl 7 (by decide) lkX0_become_34 _ rfl rfl dX0_become_107 ?_
  refine nq_iconst hX (v := 0) (by decide) dX0_become_110 ?_
  refine nq_aload_n hX rfl 0 rfl dX0_become_111 ?_
  refine nq_getr (v := .ref (nq_ad E (p + 7))) hX inX0_become_0 (nq_Letters_0 hL) rfl 7 (by decide) lkX0_become_34 _ rfl rfl dX0_become_112 ?_
  refine nq_iconst hX (v := 0) (by decide) dX0_become_115 ?_
  refine nq_bipush hX (v := 80) (by decide) dX0_become_116 ?_
  obtain ⟨M11, e11, hi11, h⟩ := nq_cpE h
  refine nq_acopy hX mmX0_become_k64 mmX0_become_nacp mmX0_become_stcp mmX0_become_isy (nq_Letters_terms ha0) (nq_Letters_terms hL) e11 hi11 (by decide) (Nat.le_of_ble_eq_true rfl) dX0_become_118 ?_
  refine nq_aload_n hX rfl 1 rfl dX0_become_121 ?_
  refine nq_getr (v := .ref (nq_ad E (a0 + 8))) hX inX0_become_0 (nq_Letters_0 ha0) rfl 8 (by decide) lkX0_become_37 _ rfl rfl dX0_become_122 ?_
  refine nq_iconst hX (v := 0) (by decide) dX0_become_125 ?_
  refine nq_aload_n hX rfl 0 rfl dX0_become_126 ?_
  refine nq_getr (v := .ref (nq_ad E (p + 8))) hX inX0_become_0 (nq_Letters_0 hL) rfl 8 (by decide) lkX0_become_37 _ rfl rfl dX0_become_127 ?_
  refine nq_iconst hX (v := 0) (by decide) dX0_become_130 ?_
  refine nq_bipush hX (v := 80) (by decide) dX0_become_131 ?_
  obtain ⟨M12, e12, hi12, h⟩ := nq_cpE h
  refine nq_acopy hX mmX0_become_k64 mmX0_become_nacp mmX0_become_stcp mmX0_become_isy (nq_Letters_depths ha0) (nq_Letters_depths hL) e12 hi12 (by decide) (Nat.le_of_ble_eq_true rfl) dX0_become_133 ?_
  refine nq_aload_n hX rfl 1 rfl dX0_become_136 ?_
  refine nq_getr (v := .ref (nq_ad E (a0 + 9))) hX inX0_become_0 (nq_Letters_0 ha0) rfl 10 (by decide) lkX0_become_43 _ rfl rfl dX0_become_137 ?_
  refine nq_iconst hX (v := 0) (by decide) dX0_become_140 ?_
  refine nq_aload_n hX rfl 0 rfl dX0_become_141 ?_
  refine nq_getr (v := .ref (nq_ad E (p + 9))) hX inX0_become_0 (nq_Letters_0 hL) rfl 10 (by decide) lkX0_become_43 _ rfl rfl dX0_become_142 ?_
  refine nq_iconst hX (v := 0) (by decide) dX0_become_145 ?_
  refine nq_bipush hX (v := 80) (by decide) dX0_become_146 ?_
  obtain ⟨M13, e13, hi13, h⟩ := nq_cpE h
  refine nq_acopy hX mmX0_become_k64 mmX0_become_nacp mmX0_become_stcp mmX0_become_isy (nq_Letters_arriving ha0) (nq_Letters_arriving hL) e13 hi13 (by decide) (Nat.le_of_ble_eq_true rfl) dX0_become_148 ?_
  obtain rfl := nq_sE1 h; exact nq_vret hX hr dX0_become_151
theorem dsX0_become : yX0_become.cls ≠ "java/lang/invoke/MethodHandle" ∧ yX0_become.cls ≠ "java/lang/invoke/VarHandle" ∧ (parseMethodDescriptor yX0_become.desc).map (fun d => d.parameters.length) = some 1 := by decide +kernel
theorem tX0_become {l : Launch} {E : Ev} {K : List Sh} {p : Nat} {a0 : Nat} {M : Mem} {M' : Mem} (hL : nq_atLetters E K p) (ha0 : nq_atLetters E K a0) (h : fX0_become p a0 M = some M') : nq_MA l E yX0_become wsX0_become (nq_rm 2) [.ref (nq_ad E p), .ref (nq_ad E a0)] K M none K M' :=
  nq_met (own := RX0) (cc := cX0_become) (maxL := 2) (ret := none) (by decide) rfl rfl (Nat.le_of_ble_eq_true rfl) (fun X hX hr => mX0_become hL ha0 hX hr h)

