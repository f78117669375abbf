/-! printed by dec.py: Standing 0 -/
theorem inX4_seek_4 : ∀ w ∈ u_ws RX4 TX4 8, w ∈ wsX4_seek := by
  intro w h; unfold wsX4_seek; simp only [List.mem_cons, List.mem_append]; simp only [h, true_or, or_true]
theorem lkX4_seek_32 : Cond.fieldLink RX4 32 (TX4 6).1 (TX4 6).2.1 (TX4 6).2.2.1 ∈ wsX4_seek := by decide +kernel
theorem lkX4_seek_9 : Cond.fieldLink RX4 9 (TX4 0).1 (TX4 0).2.1 (TX4 0).2.2.1 ∈ wsX4_seek := by decide +kernel
theorem inX4_seek_0 : ∀ w ∈ u_ws RX0 TX0 11, w ∈ wsX4_seek := by
  intro w h; unfold wsX4_seek; simp only [List.mem_cons, List.mem_append]; simp only [h, true_or, or_true]
theorem lkX4_seek_93 : Cond.fieldLink RX4 93 (TX0 9).1 (TX0 9).2.1 (TX0 9).2.2.1 ∈ wsX4_seek := by decide +kernel
theorem lkX4_seek_71 : Cond.fieldLink RX4 71 (TX0 10).1 (TX0 10).2.1 (TX0 10).2.2.1 ∈ wsX4_seek := by decide +kernel
theorem lkX4_seek_19 : Cond.fieldLink RX4 19 (TX4 2).1 (TX4 2).2.1 (TX4 2).2.2.1 ∈ wsX4_seek := by decide +kernel
theorem lkX4_seek_23 : Cond.fieldLink RX4 23 (TX4 3).1 (TX4 3).2.1 (TX4 3).2.2.1 ∈ wsX4_seek := by decide +kernel
theorem lkX4_seek_35 : Cond.fieldLink RX4 35 (TX4 7).1 (TX4 7).2.1 (TX4 7).2.2.1 ∈ wsX4_seek := by decide +kernel
theorem lkX4_seek_96 : Cond.fieldLink RX4 96 (TX0 0).1 (TX0 0).2.1 (TX0 0).2.2.1 ∈ wsX4_seek := by decide +kernel
def fX4_seek_B0 (p : Nat) (q : Nat) (M : Mem) : Option ((Mem) ⊕ (Mem)) :=
  nq_lt (M p 6) fun v1 =>
  nq_lt (M q 9) fun v2 =>
  if v2 ≤ v1 then
  (some (.inr M))
  else
  (nq_lt (M p 6) fun v4 =>
  (nq_ag (M (q + 9)) 80 v4).bind fun v5 =>
  nq_lt (M p 2) fun v6 =>
  nq_lt (M p 3) fun v7 =>
  (fX0_isFor q v5 v6 v7 M).bind fun v9 =>
  if v9 = 0 then
  (nq_lt (M p 6) fun v11 =>
  nq_lt (nq_wr M p 6 (v11 + (1 : Int32))) fun M12 =>
  some (.inl M12))
  else
  (some (.inr M)))
set_option maxHeartbeats 4000000 in
theorem mX4_seek_B0 {X : Cx} {E : Ev} {l : Launch} {K : List Sh} {p : Nat} {q : Nat} {M : Mem} (hL : nq_atStanding E K p q) (hX : nq_OK X E l (nq_rm 2) cX4_seek 1 RX4 wsX4_seek) {x : (Mem) ⊕ (Mem)} (hc : ∀ s' : Mem, x = .inl s' → nq_G X E 1 0 [(0, .ref (nq_ad E p))] [] K s') (he : ∀ s' : Mem, x = .inr s' → nq_G X E 1 57 [(0, .ref (nq_ad E p))] [] K s') (h : fX4_seek_B0 p q M = some x) : nq_G X E 1 0 [(0, .ref (nq_ad E p))] [] K M := by
  unfold fX4_seek_B0 at h
  refine nq_aload_n hX rfl 0 rfl dX4_seek_0 ?_
  obtain ⟨v1, e1, h⟩ := nq_ltE h
  refine nq_geti hX inX4_seek_4 (nq_Standing_0 hL) rfl 6 (by decide) lkX4_seek_32 rfl e1 dX4_seek_1 ?_
  refine nq_aload_n hX rfl 0 rfl dX4_seek_4 ?_
  refine nq_getr (v := .ref (nq_ad E q)) hX inX4_seek_4 (nq_Standing_0 hL) rfl 0 (by decide) lkX4_seek_9 _ rfl rfl dX4_seek_5 ?_
  obtain ⟨v2, e2, h⟩ := nq_ltE h
  refine nq_geti hX inX4_seek_0 (nq_Letters_0 (nq_Standing_letters hL)) rfl 9 (by decide) lkX4_seek_93 rfl e2 dX4_seek_8 ?_
  refine nq_icmp_ge hX (tgt := 57) (by decide) dX4_seek_11 (fun c3 => ?_) (fun c3 => ?_)
  · rw [if_pos c3] at h
    exact he M (nq_sE h).symm
  · rw [if_neg c3] at h
    refine nq_aload_n hX rfl 0 rfl dX4_seek_14 ?_
    refine nq_getr (v := .ref (nq_ad E q)) hX inX4_seek_4 (nq_Standing_0 hL) rfl 0 (by decide) lkX4_seek_9 _ rfl rfl dX4_seek_15 ?_
    refine nq_aload_n hX rfl 0 rfl dX4_seek_18 ?_
    refine nq_getr (v := .ref (nq_ad E q)) hX inX4_seek_4 (nq_Standing_0 hL) rfl 0 (by decide) lkX4_seek_9 _ rfl rfl dX4_seek_19 ?_
    refine nq_getr (v := .ref (nq_ad E (q + 9))) hX inX4_seek_0 (nq_Letters_0 (nq_Standing_letters hL)) rfl 10 (by decide) lkX4_seek_71 _ rfl rfl dX4_seek_22 ?_
    refine nq_aload_n hX rfl 0 rfl dX4_seek_25 ?_
    obtain ⟨v4, e4, h⟩ := nq_ltE h
    refine nq_geti hX inX4_seek_4 (nq_Standing_0 hL) rfl 6 (by decide) lkX4_seek_32 rfl e4 dX4_seek_26 ?_
    obtain ⟨v5, e5, hi5, h⟩ := nq_agE h
    refine nq_iald hX (nq_Letters_arriving (nq_Standing_letters hL)) e5 hi5 dX4_seek_29 ?_
    refine nq_aload_n hX rfl 0 rfl dX4_seek_30 ?_
    obtain ⟨v6, e6, h⟩ := nq_ltE h
    refine nq_geti hX inX4_seek_4 (nq_Standing_0 hL) rfl 2 (by decide) lkX4_seek_19 rfl e6 dX4_seek_31 ?_
    refine nq_aload_n hX rfl 0 rfl dX4_seek_34 ?_
    obtain ⟨v7, e7, h⟩ := nq_ltE h
    refine nq_geti hX inX4_seek_4 (nq_Standing_0 hL) rfl 3 (by decide) lkX4_seek_23 rfl e7 dX4_seek_35 ?_
    obtain ⟨v9, hc8, h⟩ := nq_bE h
    refine nq_callVi hX (tX0_isFor (nq_Standing_letters hL) hc8) gX4_seek_X0_isFor rfl rfl dsX0_isFor (by decide) (nq_Letters_0 (nq_Standing_letters hL)) rfl rfl (Nat.le_of_ble_eq_true rfl) dX4_seek_38 ?_
    refine nq_if_ne hX (tgt := 57) (by decide) dX4_seek_41 (fun c10 => ?_) (fun c10 => ?_)
    · rw [if_pos c10] at h
      refine nq_aload_n hX rfl 0 rfl dX4_seek_44 ?_
      refine nq_dup hX rfl dX4_seek_45 ?_
      obtain ⟨v11, e11, h⟩ := nq_ltE h
      refine nq_geti hX inX4_seek_4 (nq_Standing_0 hL) rfl 6 (by decide) lkX4_seek_32 rfl e11 dX4_seek_46 ?_
      refine nq_iconst hX (v := 1) (by decide) dX4_seek_49 ?_
      refine nq_iadd hX dX4_seek_50 ?_
      obtain ⟨M12, eM12, h⟩ := nq_ltE h
      refine nq_puti hX inX4_seek_4 tyX4 tyX4_ok nmX4 (nq_Standing_0 hL) rfl 6 (by decide) lkX4_seek_32 rfl rfl rfl rfl rfl eM12 dX4_seek_51 ?_
      refine nq_goto hX (tgt := 0) (by decide) dX4_seek_54 ?_
      exact hc M12 (nq_sE h).symm
    · rw [if_neg c10] at h
      exact he M (nq_sE h).symm
def fX4_seek_B57 (p : Nat) (q : Nat) (M : Mem) : Option ((Mem) ⊕ (Mem)) :=
  nq_lt (M p 7) fun v13 =>
  nq_lt (M q 0) fun v14 =>
  if v14 ≤ v13 then
  (some (.inr M))
  else
  (nq_lt (M p 7) fun v16 =>
  nq_lt (M p 2) fun v17 =>
  nq_lt (M p 3) fun v18 =>
  (fX0_isBy q v16 v17 v18 M).bind fun v20 =>
  if v20 = 0 then
  (nq_lt (M p 7) fun v22 =>
  nq_lt (nq_wr M p 7 (v22 + (1 : Int32))) fun M23 =>
  some (.inl M23))
  else
  (some (.inr M)))
set_option maxHeartbeats 4000000 in
theorem mX4_seek_B57 {X : Cx} {E : Ev} {l : Launch} {K : List Sh} {p : Nat} {q : Nat} {M : Mem} (hL : nq_atStanding E K p q) (hX : nq_OK X E l (nq_rm 2) cX4_seek 1 RX4 wsX4_seek) {x : (Mem) ⊕ (Mem)} (hc : ∀ s' : Mem, x = .inl s' → nq_G X E 1 57 [(0, .ref (nq_ad E p))] [] K s') (he : ∀ s' : Mem, x = .inr s' → nq_G X E 1 106 [] [] K s') (h : fX4_seek_B57 p q M = some x) : nq_G X E 1 57 [(0, .ref (nq_ad E p))] [] K M := by
  unfold fX4_seek_B57 at h
  refine nq_aload_n hX rfl 0 rfl dX4_seek_57 ?_
  obtain ⟨v13, e13, h⟩ := nq_ltE h
  refine nq_geti hX inX4_seek_4 (nq_Standing_0 hL) rfl 7 (by decide) lkX4_seek_35 rfl e13 dX4_seek_58 ?_
  refine nq_aload_n hX rfl 0 rfl dX4_seek_61 ?_
  refine nq_getr (v := .ref (nq_ad E q)) hX inX4_seek_4 (nq_Standing_0 hL) rfl 0 (by decide) lkX4_seek_9 _ rfl rfl dX4_seek_62 ?_
  obtain ⟨v14, e14, h⟩ := nq_ltE h
  refine nq_geti hX inX4_seek_0 (nq_Letters_0 (nq_Standing_letters hL)) rfl 0 (by decide) lkX4_seek_96 rfl e14 dX4_seek_65 ?_
  refine nq_icmp_ge hX (tgt := 106) (by decide) dX4_seek_68 (fun c15 => ?_) (fun c15 => ?_)
  · rw [if_pos c15] at h
    refine nq_sub (lv' := []) [] rfl ?_
    exact he M (nq_sE h).symm
  · rw [if_neg c15] at h
    refine nq_aload_n hX rfl 0 rfl dX4_seek_71 ?_
    refine nq_getr (v := .ref (nq_ad E q)) hX inX4_seek_4 (nq_Standing_0 hL) rfl 0 (by decide) lkX4_seek_9 _ rfl rfl dX4_seek_72 ?_
    refine nq_aload_n hX rfl 0 rfl dX4_seek_75 ?_
    obtain ⟨v16, e16, h⟩ := nq_ltE h
    refine nq_geti hX inX4_seek_4 (nq_Standing_0 hL) rfl 7 (by decide) lkX4_seek_35 rfl e16 dX4_seek_76 ?_
    refine nq_aload_n hX rfl 0 rfl dX4_seek_79 ?_
    obtain ⟨v17, e17, h⟩ := nq_ltE h
    refine nq_geti hX inX4_seek_4 (nq_Standing_0 hL) rfl 2 (by decide) lkX4_seek_19 rfl e17 dX4_seek_80 ?_
    refine nq_aload_n hX rfl 0 rfl dX4_seek_83 ?_
    obtain ⟨v18, e18, h⟩ := nq_ltE h
    refine nq_geti hX inX4_seek_4 (nq_Standing_0 hL) rfl 3 (by decide) lkX4_seek_23 rfl e18 dX4_seek_84 ?_
    obtain ⟨v20, hc19, h⟩ := nq_bE h
    refine nq_callVi hX (tX0_isBy (nq_Standing_letters hL) hc19) gX4_seek_X0_isBy rfl rfl dsX0_isBy (by decide) (nq_Letters_0 (nq_Standing_letters hL)) rfl rfl (Nat.le_of_ble_eq_true rfl) dX4_seek_87 ?_
    refine nq_if_ne hX (tgt := 106) (by decide) dX4_seek_90 (fun c21 => ?_) (fun c21 => ?_)
    · rw [if_pos c21] at h
      refine nq_aload_n hX rfl 0 rfl dX4_seek_93 ?_
      refine nq_dup hX rfl dX4_seek_94 ?_
      obtain ⟨v22, e22, h⟩ := nq_ltE h
      refine nq_geti hX inX4_seek_4 (nq_Standing_0 hL) rfl 7 (by decide) lkX4_seek_35 rfl e22 dX4_seek_95 ?_
      refine nq_iconst hX (v := 1) (by decide) dX4_seek_98 ?_
      refine nq_iadd hX dX4_seek_99 ?_
      obtain ⟨M23, eM23, h⟩ := nq_ltE h
      refine nq_puti hX inX4_seek_4 tyX4 tyX4_ok nmX4 (nq_Standing_0 hL) rfl 7 (by decide) lkX4_seek_35 rfl rfl rfl rfl rfl eM23 dX4_seek_100 ?_
      refine nq_goto hX (tgt := 57) (by decide) dX4_seek_103 ?_
      exact hc M23 (nq_sE h).symm
    · rw [if_neg c21] at h
      refine nq_sub (lv' := []) [] rfl ?_
      exact he M (nq_sE h).symm
def fX4_seek_L106 (p : Nat) (q : Nat) (M : Mem) : Option (Mem) :=
  some M
set_option maxHeartbeats 4000000 in
theorem mX4_seek_L106 {X : Cx} {E : Ev} {l : Launch} {K : List Sh} {p : Nat} {q : Nat} {M : Mem} {M' : Mem} (hL : nq_atStanding E K p q) (hX : nq_OK X E l (nq_rm 2) cX4_seek 1 RX4 wsX4_seek) (hr : nq_RT X E none none K M') (h : fX4_seek_L106 p q M = some M') : nq_G X E 1 106 [] [] K M := by
  unfold fX4_seek_L106 at h
  obtain rfl := nq_sE1 h; exact nq_vret hX hr dX4_seek_106
def fX4_seek_L57 (p : Nat) (q : Nat) (M : Mem) : Option (Mem) :=
  (nq_lp (fun s : Mem => fX4_seek_B57 p q s) nq_fuel M).bind (fun e => fX4_seek_L106 p q e)
set_option maxHeartbeats 4000000 in
theorem mX4_seek_L57 {X : Cx} {E : Ev} {l : Launch} {K : List Sh} {p : Nat} {q : Nat} {M : Mem} {M' : Mem} (hL : nq_atStanding E K p q) (hX : nq_OK X E l (nq_rm 2) cX4_seek 1 RX4 wsX4_seek) (hr : nq_RT X E none none K M') (h : fX4_seek_L57 p q M = some M') : nq_G X E 1 57 [(0, .ref (nq_ad E p))] [] K M := by
  unfold fX4_seek_L57 at h
  obtain ⟨e, h1, h⟩ := nq_bE h
  have key : ∀ (ex : Mem), nq_lp (fun s : Mem => fX4_seek_B57 p q s) nq_fuel M = some ex → (∀ e, ex = e → nq_G X E 1 106 [] [] K e) → nq_G X E 1 57 [(0, .ref (nq_ad E p))] [] K M := by
    intro ex h1 hE
    refine nq_lpE (P := fun s : Mem => nq_G X E 1 57 [(0, .ref (nq_ad E p))] [] K s) (r := ex) ?_ nq_fuel M h1
    intro s xx hx1 hc1 he1
    exact mX4_seek_B57 hL hX hc1 (fun e q => hE e (he1 _ q).symm) hx1
  refine key e h1 (fun e q => ?_)
  subst q
  exact mX4_seek_L106 hL hX hr h
def fX4_seek (p : Nat) (q : Nat) (M : Mem) : Option (Mem) :=
  (nq_lp (fun s : Mem => fX4_seek_B0 p q s) nq_fuel M).bind (fun e => fX4_seek_L57 p q e)
set_option maxHeartbeats 4000000 in
theorem mX4_seek {X : Cx} {E : Ev} {l : Launch} {K : List Sh} {p : Nat} {q : Nat} {M : Mem} {M' : Mem} (hL : nq_atStanding E K p q) (hX : nq_OK X E l (nq_rm 2) cX4_seek 1 RX4 wsX4_seek) (hr : nq_RT X E none none K M') (h : fX4_seek p q M = some M') : nq_G X E 1 0 [(0, .ref (nq_ad E p))] [] K M := by
  unfold fX4_seek at h
  obtain ⟨e, h1, h⟩ := nq_bE h
  have key : ∀ (ex : Mem), nq_lp (fun s : Mem => fX4_seek_B0 p q s) nq_fuel M = some ex → (∀ e, ex = e → nq_G X E 1 57 [(0, .ref (nq_ad E p))] [] K e) → nq_G X E 1 0 [(0, .ref (nq_ad E p))] [] K M := by
    intro ex h1 hE
    refine nq_lpE (P := fun s : Mem => nq_G X E 1 0 [(0, .ref (nq_ad E p))] [] K s) (r := ex) ?_ nq_fuel M h1
    intro s xx hx1 hc1 he1
    exact mX4_seek_B0 hL hX hc1 (fun e q => hE e (he1 _ q).symm) hx1
  refine key e h1 (fun e q => ?_)
  subst q
  exact mX4_seek_L57 hL hX hr h
theorem dsX4_seek : yX4_seek.cls ≠ "java/lang/invoke/MethodHandle" ∧ yX4_seek.cls ≠ "java/lang/invoke/VarHandle" ∧ (parseMethodDescriptor yX4_seek.desc).map (fun d => d.parameters.length) = some 0 := by decide +kernel
theorem tX4_seek {l : Launch} {E : Ev} {K : List Sh} {p : Nat} {q : Nat} {M : Mem} {M' : Mem} (hL : nq_atStanding E K p q) (h : fX4_seek p q M = some M') : nq_MA l E yX4_seek wsX4_seek (nq_rm 2) [.ref (nq_ad E p)] K M none K M' :=
  nq_met (own := RX4) (cc := cX4_seek) (maxL := 1) (ret := none) (by decide) rfl rfl (Nat.le_of_ble_eq_true rfl) (fun X hX hr => mX4_seek hL hX hr h)

theorem inX4_begin_4 : ∀ w ∈ u_ws RX4 TX4 8, w ∈ wsX4_begin := by
  intro w h; unfold wsX4_begin; simp only [List.mem_cons, List.mem_append]; simp only [h, true_or, or_true]
theorem lkX4_begin_19 : Cond.fieldLink RX4 19 (TX4 2).1 (TX4 2).2.1 (TX4 2).2.2.1 ∈ wsX4_begin := by decide +kernel
theorem lkX4_begin_23 : Cond.fieldLink RX4 23 (TX4 3).1 (TX4 3).2.1 (TX4 3).2.2.1 ∈ wsX4_begin := by decide +kernel
theorem lkX4_begin_26 : Cond.fieldLink RX4 26 (TX4 4).1 (TX4 4).2.1 (TX4 4).2.2.1 ∈ wsX4_begin := by decide +kernel
theorem lkX4_begin_29 : Cond.fieldLink RX4 29 (TX4 5).1 (TX4 5).2.1 (TX4 5).2.2.1 ∈ wsX4_begin := by decide +kernel
theorem lkX4_begin_32 : Cond.fieldLink RX4 32 (TX4 6).1 (TX4 6).2.1 (TX4 6).2.2.1 ∈ wsX4_begin := by decide +kernel
theorem lkX4_begin_35 : Cond.fieldLink RX4 35 (TX4 7).1 (TX4 7).2.1 (TX4 7).2.2.1 ∈ wsX4_begin := by decide +kernel
theorem lkX4_begin_15 : Cond.fieldLink RX4 15 (TX4 1).1 (TX4 1).2.1 (TX4 1).2.2.1 ∈ wsX4_begin := by decide +kernel
def fX4_begin (p : Nat) (q : Nat) (x1 : Int32) (x2 : Int32) (M : Mem) : Option (Mem) :=
  nq_lt (nq_wr M p 2 x1) fun M1 =>
  nq_lt (nq_wr M1 p 3 x2) fun M2 =>
  nq_lt (nq_wr M2 p 4 (0 : Int32)) fun M3 =>
  nq_lt (nq_wr M3 p 5 (-1 : Int32)) fun M4 =>
  nq_lt (nq_wr M4 p 6 (0 : Int32)) fun M5 =>
  nq_lt (nq_wr M5 p 7 (0 : Int32)) fun M6 =>
  (fJ7_fill_53178 (p + 1) 6 (-1 : Int32) M6).bind fun M7 =>
  (fX4_seek p q M7).bind fun M10 =>
  some M10
set_option maxHeartbeats 4000000 in
theorem mX4_begin {X : Cx} {E : Ev} {l : Launch} {K : List Sh} {p : Nat} {q : Nat} {x1 : Int32} {x2 : Int32} {M : Mem} {M' : Mem} (hL : nq_atStanding E K p q) (hX : nq_OK X E l (nq_rm 3) cX4_begin 3 RX4 wsX4_begin) (hr : nq_RT X E none none K M') (h : fX4_begin p q x1 x2 M = some M') : nq_G X E 3 0 [(0, .ref (nq_ad E p)), (1, .int x1), (2, .int x2)] [] K M := by
  unfold fX4_begin at h
  refine nq_aload_n hX rfl 0 rfl dX4_begin_0 ?_
  refine nq_iload_n hX rfl 1 rfl dX4_begin_1 ?_
  obtain ⟨M1, eM1, h⟩ := nq_ltE h
  refine nq_puti hX inX4_begin_4 tyX4 tyX4_ok nmX4 (nq_Standing_0 hL) rfl 2 (by decide) lkX4_begin_19 rfl rfl rfl rfl rfl eM1 dX4_begin_2 ?_
  refine nq_aload_n hX rfl 0 rfl dX4_begin_5 ?_
  refine nq_iload_n hX rfl 2 rfl dX4_begin_6 ?_
  obtain ⟨M2, eM2, h⟩ := nq_ltE h
  refine nq_puti hX inX4_begin_4 tyX4 tyX4_ok nmX4 (nq_Standing_0 hL) rfl 3 (by decide) lkX4_begin_23 rfl rfl rfl rfl rfl eM2 dX4_begin_7 ?_
  refine nq_aload_n hX rfl 0 rfl dX4_begin_10 ?_
  refine nq_iconst hX (v := 0) (by decide) dX4_begin_11 ?_
  obtain ⟨M3, eM3, h⟩ := nq_ltE h
  refine nq_puti hX inX4_begin_4 tyX4 tyX4_ok nmX4 (nq_Standing_0 hL) rfl 4 (by decide) lkX4_begin_26 rfl rfl rfl rfl rfl eM3 dX4_begin_12 ?_
  refine nq_aload_n hX rfl 0 rfl dX4_begin_15 ?_
  refine nq_iconst hX (v := -1) (by decide) dX4_begin_16 ?_
  obtain ⟨M4, eM4, h⟩ := nq_ltE h
  refine nq_puti hX inX4_begin_4 tyX4 tyX4_ok nmX4 (nq_Standing_0 hL) rfl 5 (by decide) lkX4_begin_29 rfl rfl rfl rfl rfl eM4 dX4_begin_17 ?_
  refine nq_aload_n hX rfl 0 rfl dX4_begin_20 ?_
  refine nq_iconst hX (v := 0) (by decide) dX4_begin_21 ?_
  obtain ⟨M5, eM5, h⟩ := nq_ltE h
  refine nq_puti hX inX4_begin_4 tyX4 tyX4_ok nmX4 (nq_Standing_0 hL) rfl 6 (by decide) lkX4_begin_32 rfl rfl rfl rfl rfl eM5 dX4_begin_22 ?_
  refine nq_aload_n hX rfl 0 rfl dX4_begin_25 ?_
  refine nq_iconst hX (v := 0) (by decide) dX4_begin_26 ?_
  obtain ⟨M6, eM6, h⟩ := nq_ltE h
  refine nq_puti hX inX4_begin_4 tyX4 tyX4_ok nmX4 (nq_Standing_0 hL) rfl 7 (by decide) lkX4_begin_35 rfl rfl rfl rfl rfl eM6 dX4_begin_27 ?_
  refine nq_aload_n hX rfl 0 rfl dX4_begin_30 ?_
  refine nq_getr (v := .ref (nq_ad E (p + 1))) hX inX4_begin_4 (nq_Standing_0 hL) rfl 1 (by decide) lkX4_begin_15 _ rfl rfl dX4_begin_31 ?_
  refine nq_iconst hX (v := -1) (by decide) dX4_begin_34 ?_
  obtain ⟨M7, hc8, h⟩ := nq_bE h
  refine nq_callSXv hX (tJ7_fill_53178 (nq_Standing_offeredUpTo hL) hc8) gX4_begin_J7_fill_53178 rfl dsJ7_fill_53178 (by decide) rfl (Nat.le_of_ble_eq_true rfl) dX4_begin_35 ?_
  refine nq_aload_n hX rfl 0 rfl dX4_begin_38 ?_
  obtain ⟨M10, hc9, h⟩ := nq_bE h
  refine nq_callVv hX (tX4_seek hL hc9) gX4_begin_X4_seek rfl rfl dsX4_seek (by decide) (nq_Standing_0 hL) rfl rfl (Nat.le_of_ble_eq_true rfl) dX4_begin_39 ?_
  obtain rfl := nq_sE1 h; exact nq_vret hX hr dX4_begin_42
theorem dsX4_begin : yX4_begin.cls ≠ "java/lang/invoke/MethodHandle" ∧ yX4_begin.cls ≠ "java/lang/invoke/VarHandle" ∧ (parseMethodDescriptor yX4_begin.desc).map (fun d => d.parameters.length) = some 2 := by decide +kernel
theorem tX4_begin {l : Launch} {E : Ev} {K : List Sh} {p : Nat} {q : Nat} {x1 : Int32} {x2 : Int32} {M : Mem} {M' : Mem} (hL : nq_atStanding E K p q) (h : fX4_begin p q x1 x2 M = some M') : nq_MA l E yX4_begin wsX4_begin (nq_rm 3) [.ref (nq_ad E p), .int x1, .int x2] K M none K M' :=
  nq_met (own := RX4) (cc := cX4_begin) (maxL := 3) (ret := none) (by decide) rfl rfl (Nat.le_of_ble_eq_true rfl) (fun X hX hr => mX4_begin hL hX hr h)

theorem inX4_hasArrival_4 : ∀ w ∈ u_ws RX4 TX4 8, w ∈ wsX4_hasArrival := by
  intro w h; unfold wsX4_hasArrival; simp only [List.mem_cons, List.mem_append]; simp only [h, true_or, or_true]
theorem lkX4_hasArrival_32 : Cond.fieldLink RX4 32 (TX4 6).1 (TX4 6).2.1 (TX4 6).2.2.1 ∈ wsX4_hasArrival := by decide +kernel
theorem lkX4_hasArrival_9 : Cond.fieldLink RX4 9 (TX4 0).1 (TX4 0).2.1 (TX4 0).2.2.1 ∈ wsX4_hasArrival := by decide +kernel
theorem inX4_hasArrival_0 : ∀ w ∈ u_ws RX0 TX0 11, w ∈ wsX4_hasArrival := by
  intro w h; unfold wsX4_hasArrival; simp only [List.mem_cons, List.mem_append]; simp only [h, true_or, or_true]
theorem lkX4_hasArrival_93 : Cond.fieldLink RX4 93 (TX0 9).1 (TX0 9).2.1 (TX0 9).2.2.1 ∈ wsX4_hasArrival := by decide +kernel
def fX4_hasArrival (p : Nat) (q : Nat) (M : Mem) : Option (Int32) :=
  nq_lt (M p 6) fun v1 =>
  nq_lt (M q 9) fun v2 =>
  if v2 ≤ v1 then
  (some (0 : Int32))
  else
  (some (1 : Int32))
set_option maxHeartbeats 4000000 in
theorem mX4_hasArrival {X : Cx} {E : Ev} {l : Launch} {K : List Sh} {p : Nat} {q : Nat} {M : Mem} {r : Int32} (hL : nq_atStanding E K p q) (hX : nq_OK X E l (nq_rm 1) cX4_hasArrival 1 RX4 wsX4_hasArrival) (hr : nq_RT X E (some .boolean) (some (.int r)) K M) (h : fX4_hasArrival p q M = some r) : nq_G X E 1 0 [(0, .ref (nq_ad E p))] [] K M := by
  unfold fX4_hasArrival at h
  refine nq_aload_n hX rfl 0 rfl dX4_hasArrival_0 ?_
  obtain ⟨v1, e1, h⟩ := nq_ltE h
  refine nq_geti hX inX4_hasArrival_4 (nq_Standing_0 hL) rfl 6 (by decide) lkX4_hasArrival_32 rfl e1 dX4_hasArrival_1 ?_
  refine nq_aload_n hX rfl 0 rfl dX4_hasArrival_4 ?_
  refine nq_getr (v := .ref (nq_ad E q)) hX inX4_hasArrival_4 (nq_Standing_0 hL) rfl 0 (by decide) lkX4_hasArrival_9 _ rfl rfl dX4_hasArrival_5 ?_
  obtain ⟨v2, e2, h⟩ := nq_ltE h
  refine nq_geti hX inX4_hasArrival_0 (nq_Letters_0 (nq_Standing_letters hL)) rfl 9 (by decide) lkX4_hasArrival_93 rfl e2 dX4_hasArrival_8 ?_
  refine nq_icmp_ge hX (tgt := 18) (by decide) dX4_hasArrival_11 (fun c3 => ?_) (fun c3 => ?_)
  · rw [if_pos c3] at h
    refine nq_iconst hX (v := 0) (by decide) dX4_hasArrival_18 ?_
    obtain rfl := nq_sE1 h; exact nq_zret hX hr rfl dX4_hasArrival_19
  · rw [if_neg c3] at h
    refine nq_iconst hX (v := 1) (by decide) dX4_hasArrival_14 ?_
    refine nq_goto hX (tgt := 19) (by decide) dX4_hasArrival_15 ?_
    obtain rfl := nq_sE1 h; exact nq_zret hX hr rfl dX4_hasArrival_19
theorem dsX4_hasArrival : yX4_hasArrival.cls ≠ "java/lang/invoke/MethodHandle" ∧ yX4_hasArrival.cls ≠ "java/lang/invoke/VarHandle" ∧ (parseMethodDescriptor yX4_hasArrival.desc).map (fun d => d.parameters.length) = some 0 := by decide +kernel
theorem tX4_hasArrival {l : Launch} {E : Ev} {K : List Sh} {p : Nat} {q : Nat} {M : Mem} {r : Int32} (hL : nq_atStanding E K p q) (h : fX4_hasArrival p q M = some r) : nq_MA l E yX4_hasArrival wsX4_hasArrival (nq_rm 1) [.ref (nq_ad E p)] K M (some (.int r)) K M :=
  nq_met (own := RX4) (cc := cX4_hasArrival) (maxL := 1) (ret := (some .boolean)) (by decide) rfl rfl (Nat.le_of_ble_eq_true rfl) (fun X hX hr => mX4_hasArrival hL hX hr h)

theorem inX4_hasSent_4 : ∀ w ∈ u_ws RX4 TX4 8, w ∈ wsX4_hasSent := by
  intro w h; unfold wsX4_hasSent; simp only [List.mem_cons, List.mem_append]; simp only [h, true_or, or_true]
theorem lkX4_hasSent_35 : Cond.fieldLink RX4 35 (TX4 7).1 (TX4 7).2.1 (TX4 7).2.2.1 ∈ wsX4_hasSent := by decide +kernel
theorem lkX4_hasSent_9 : Cond.fieldLink RX4 9 (TX4 0).1 (TX4 0).2.1 (TX4 0).2.2.1 ∈ wsX4_hasSent := by decide +kernel
theorem inX4_hasSent_0 : ∀ w ∈ u_ws RX0 TX0 11, w ∈ wsX4_hasSent := by
  intro w h; unfold wsX4_hasSent; simp only [List.mem_cons, List.mem_append]; simp only [h, true_or, or_true]
theorem lkX4_hasSent_96 : Cond.fieldLink RX4 96 (TX0 0).1 (TX0 0).2.1 (TX0 0).2.2.1 ∈ wsX4_hasSent := by decide +kernel
def fX4_hasSent (p : Nat) (q : Nat) (M : Mem) : Option (Int32) :=
  nq_lt (M p 7) fun v1 =>
  nq_lt (M q 0) fun v2 =>
  if v2 ≤ v1 then
  (some (0 : Int32))
  else
  (some (1 : Int32))
set_option maxHeartbeats 4000000 in
theorem mX4_hasSent {X : Cx} {E : Ev} {l : Launch} {K : List Sh} {p : Nat} {q : Nat} {M : Mem} {r : Int32} (hL : nq_atStanding E K p q) (hX : nq_OK X E l (nq_rm 1) cX4_hasSent 1 RX4 wsX4_hasSent) (hr : nq_RT X E (some .boolean) (some (.int r)) K M) (h : fX4_hasSent p q M = some r) : nq_G X E 1 0 [(0, .ref (nq_ad E p))] [] K M := by
  unfold fX4_hasSent at h
  refine nq_aload_n hX rfl 0 rfl dX4_hasSent_0 ?_
  obtain ⟨v1, e1, h⟩ := nq_ltE h
  refine nq_geti hX inX4_hasSent_4 (nq_Standing_0 hL) rfl 7 (by decide) lkX4_hasSent_35 rfl e1 dX4_hasSent_1 ?_
  refine nq_aload_n hX rfl 0 rfl dX4_hasSent_4 ?_
  refine nq_getr (v := .ref (nq_ad E q)) hX inX4_hasSent_4 (nq_Standing_0 hL) rfl 0 (by decide) lkX4_hasSent_9 _ rfl rfl dX4_hasSent_5 ?_
  obtain ⟨v2, e2, h⟩ := nq_ltE h
  refine nq_geti hX inX4_hasSent_0 (nq_Letters_0 (nq_Standing_letters hL)) rfl 0 (by decide) lkX4_hasSent_96 rfl e2 dX4_hasSent_8 ?_
  refine nq_icmp_ge hX (tgt := 18) (by decide) dX4_hasSent_11 (fun c3 => ?_) (fun c3 => ?_)
  · rw [if_pos c3] at h
    refine nq_iconst hX (v := 0) (by decide) dX4_hasSent_18 ?_
    obtain rfl := nq_sE1 h; exact nq_zret hX hr rfl dX4_hasSent_19
  · rw [if_neg c3] at h
    refine nq_iconst hX (v := 1) (by decide) dX4_hasSent_14 ?_
    refine nq_goto hX (tgt := 19) (by decide) dX4_hasSent_15 ?_
    obtain rfl := nq_sE1 h; exact nq_zret hX hr rfl dX4_hasSent_19
theorem dsX4_hasSent : yX4_hasSent.cls ≠ "java/lang/invoke/MethodHandle" ∧ yX4_hasSent.cls ≠ "java/lang/invoke/VarHandle" ∧ (parseMethodDescriptor yX4_hasSent.desc).map (fun d => d.parameters.length) = some 0 := by decide +kernel
theorem tX4_hasSent {l : Launch} {E : Ev} {K : List Sh} {p : Nat} {q : Nat} {M : Mem} {r : Int32} (hL : nq_atStanding E K p q) (h : fX4_hasSent p q M = some r) : nq_MA l E yX4_hasSent wsX4_hasSent (nq_rm 1) [.ref (nq_ad E p)] K M (some (.int r)) K M :=
  nq_met (own := RX4) (cc := cX4_hasSent) (maxL := 1) (ret := (some .boolean)) (by decide) rfl rfl (Nat.le_of_ble_eq_true rfl) (fun X hX hr => mX4_hasSent hL hX hr h)

theorem mmX4_nextYear_c74 : Cond.constant RX4 74 (1000000) ∈ wsX4_nextYear := by decide +kernel
theorem mmX4_nextYear_k81 : Cond.methodLink RX4 81 Lib.Math.min.name ∈ wsX4_nextYear := by decide +kernel
theorem mmX4_nextYear_stmin : Cond.static Lib.Math.min.name ∈ wsX4_nextYear := by decide +kernel
theorem mmX4_nextYear_im : Cond.initialized "java/lang/Math" ∈ wsX4_nextYear := by decide +kernel
theorem mmX4_nextYear_cdmin : Cond.code Lib.Math.min.name Lib.Math.min.code 2 (some .int) ∈ wsX4_nextYear := by decide +kernel
theorem inX4_nextYear_4 : ∀ w ∈ u_ws RX4 TX4 8, w ∈ wsX4_nextYear := by
  intro w h; unfold wsX4_nextYear; simp only [List.mem_cons, List.mem_append]; simp only [h, true_or, or_true]
theorem lkX4_nextYear_9 : Cond.fieldLink RX4 9 (TX4 0).1 (TX4 0).2.1 (TX4 0).2.2.1 ∈ wsX4_nextYear := by decide +kernel
theorem inX4_nextYear_0 : ∀ w ∈ u_ws RX0 TX0 11, w ∈ wsX4_nextYear := by
  intro w h; unfold wsX4_nextYear; simp only [List.mem_cons, List.mem_append]; simp only [h, true_or, or_true]
theorem lkX4_nextYear_78 : Cond.fieldLink RX4 78 (TX0 5).1 (TX0 5).2.1 (TX0 5).2.2.1 ∈ wsX4_nextYear := by decide +kernel
theorem lkX4_nextYear_35 : Cond.fieldLink RX4 35 (TX4 7).1 (TX4 7).2.1 (TX4 7).2.2.1 ∈ wsX4_nextYear := by decide +kernel
theorem lkX4_nextYear_66 : Cond.fieldLink RX4 66 (TX0 6).1 (TX0 6).2.1 (TX0 6).2.2.1 ∈ wsX4_nextYear := by decide +kernel
theorem lkX4_nextYear_71 : Cond.fieldLink RX4 71 (TX0 10).1 (TX0 10).2.1 (TX0 10).2.2.1 ∈ wsX4_nextYear := by decide +kernel
theorem lkX4_nextYear_32 : Cond.fieldLink RX4 32 (TX4 6).1 (TX4 6).2.1 (TX4 6).2.2.1 ∈ wsX4_nextYear := by decide +kernel
def fX4_nextYear_L32 (p : Nat) (q : Nat) (s0 : Int32) (M : Mem) : Option (Int32) :=
  (fX4_hasSent p q M).bind fun v5 =>
  if v5 = 0 then
  (nq_lt (if (1000000 : Int32) < s0 then (1000000 : Int32) else s0) fun v7 =>
  some v7)
  else
  (nq_lt (M p 7) fun v8 =>
  (nq_ag (M (q + 5)) 80 v8).bind fun v9 =>
  nq_lt (if v9 < s0 then v9 else s0) fun v10 =>
  some v10)
set_option maxHeartbeats 4000000 in
theorem mX4_nextYear_L32 {X : Cx} {E : Ev} {l : Launch} {K : List Sh} {p : Nat} {q : Nat} {s0 : Int32} {M : Mem} {r : Int32} (hL : nq_atStanding E K p q) (hX : nq_OK X E l (nq_rm 2) cX4_nextYear 3 RX4 wsX4_nextYear) (hr : nq_RT X E (some .int) (some (.int r)) K M) (h : fX4_nextYear_L32 p q s0 M = some r) : nq_G X E 3 32 [(0, .ref (nq_ad E p))] [.int s0] K M := by
  unfold fX4_nextYear_L32 at h
  refine nq_istore_n hX (lv' := [(1, .int s0), (0, .ref (nq_ad E p))]) rfl (by decide) rfl rfl dX4_nextYear_32 ?_
  refine nq_aload_n hX rfl 1 rfl dX4_nextYear_33 ?_
  obtain ⟨v5, hc4, h⟩ := nq_bE h
  refine nq_callVi hX (tX4_hasSent hL hc4) gX4_nextYear_X4_hasSent rfl rfl dsX4_hasSent (by decide) (nq_Standing_0 hL) rfl rfl (Nat.le_of_ble_eq_true rfl) dX4_nextYear_34 ?_
  refine nq_if_eq hX (tgt := 55) (by decide) dX4_nextYear_37 (fun c6 => ?_) (fun c6 => ?_)
  · rw [if_pos c6] at h
    refine nq_ldc hX (v := 1000000) mmX4_nextYear_c74 dX4_nextYear_55 ?_
    refine nq_istore_n hX (lv' := [(2, .int (1000000 : Int32)), (1, .int s0), (0, .ref (nq_ad E p))]) rfl (by decide) rfl rfl dX4_nextYear_57 ?_
    refine nq_iload_n hX rfl 1 rfl dX4_nextYear_58 ?_
    refine nq_iload_n hX rfl 0 rfl dX4_nextYear_59 ?_
    refine nq_mmin hX mmX4_nextYear_k81 mmX4_nextYear_stmin mmX4_nextYear_im mmX4_nextYear_cdmin (by decide) (Nat.le_of_ble_eq_true rfl) dX4_nextYear_60 ?_
    obtain ⟨v7, e7, h⟩ := nq_ltE h
    rw [← e7]
    obtain rfl := nq_sE1 h; exact nq_iret hX hr dX4_nextYear_63
  · rw [if_neg c6] at h
    refine nq_aload_n hX rfl 1 rfl dX4_nextYear_40 ?_
    refine nq_getr (v := .ref (nq_ad E q)) hX inX4_nextYear_4 (nq_Standing_0 hL) rfl 0 (by decide) lkX4_nextYear_9 _ rfl rfl dX4_nextYear_41 ?_
    refine nq_getr (v := .ref (nq_ad E (q + 5))) hX inX4_nextYear_0 (nq_Letters_0 (nq_Standing_letters hL)) rfl 5 (by decide) lkX4_nextYear_78 _ rfl rfl dX4_nextYear_44 ?_
    refine nq_aload_n hX rfl 1 rfl dX4_nextYear_47 ?_
    obtain ⟨v8, e8, h⟩ := nq_ltE h
    refine nq_geti hX inX4_nextYear_4 (nq_Standing_0 hL) rfl 7 (by decide) lkX4_nextYear_35 rfl e8 dX4_nextYear_48 ?_
    obtain ⟨v9, e9, hi9, h⟩ := nq_agE h
    refine nq_iald hX (nq_Letters_years (nq_Standing_letters hL)) e9 hi9 dX4_nextYear_51 ?_
    refine nq_goto hX (tgt := 57) (by decide) dX4_nextYear_52 ?_
    refine nq_istore_n hX (lv' := [(2, .int v9), (1, .int s0), (0, .ref (nq_ad E p))]) rfl (by decide) rfl rfl dX4_nextYear_57 ?_
    refine nq_iload_n hX rfl 1 rfl dX4_nextYear_58 ?_
    refine nq_iload_n hX rfl 0 rfl dX4_nextYear_59 ?_
    refine nq_mmin hX mmX4_nextYear_k81 mmX4_nextYear_stmin mmX4_nextYear_im mmX4_nextYear_cdmin (by decide) (Nat.le_of_ble_eq_true rfl) dX4_nextYear_60 ?_
    obtain ⟨v10, e10, h⟩ := nq_ltE h
    rw [← e10]
    obtain rfl := nq_sE1 h; exact nq_iret hX hr dX4_nextYear_63
def fX4_nextYear (p : Nat) (q : Nat) (M : Mem) : Option (Int32) :=
  (fX4_hasArrival p q M).bind fun v2 =>
  if v2 = 0 then
  (fX4_nextYear_L32 p q (1000000 : Int32) M)
  else
  (nq_lt (M p 6) fun v11 =>
  (nq_ag (M (q + 9)) 80 v11).bind fun v12 =>
  (nq_ag (M (q + 6)) 80 v12).bind fun v13 =>
  fX4_nextYear_L32 p q v13 M)
set_option maxHeartbeats 4000000 in
theorem mX4_nextYear {X : Cx} {E : Ev} {l : Launch} {K : List Sh} {p : Nat} {q : Nat} {M : Mem} {r : Int32} (hL : nq_atStanding E K p q) (hX : nq_OK X E l (nq_rm 2) cX4_nextYear 3 RX4 wsX4_nextYear) (hr : nq_RT X E (some .int) (some (.int r)) K M) (h : fX4_nextYear p q M = some r) : nq_G X E 3 0 [(0, .ref (nq_ad E p))] [] K M := by
  unfold fX4_nextYear at h
  refine nq_aload_n hX rfl 0 rfl dX4_nextYear_0 ?_
  obtain ⟨v2, hc1, h⟩ := nq_bE h
  refine nq_callVi hX (tX4_hasArrival hL hc1) gX4_nextYear_X4_hasArrival rfl rfl dsX4_hasArrival (by decide) (nq_Standing_0 hL) rfl rfl (Nat.le_of_ble_eq_true rfl) dX4_nextYear_1 ?_
  refine nq_if_eq hX (tgt := 30) (by decide) dX4_nextYear_4 (fun c3 => ?_) (fun c3 => ?_)
  · rw [if_pos c3] at h
    refine nq_ldc hX (v := 1000000) mmX4_nextYear_c74 dX4_nextYear_30 ?_
    exact mX4_nextYear_L32 hL hX hr h
  · rw [if_neg c3] at h
    refine nq_aload_n hX rfl 0 rfl dX4_nextYear_7 ?_
    refine nq_getr (v := .ref (nq_ad E q)) hX inX4_nextYear_4 (nq_Standing_0 hL) rfl 0 (by decide) lkX4_nextYear_9 _ rfl rfl dX4_nextYear_8 ?_
    refine nq_getr (v := .ref (nq_ad E (q + 6))) hX inX4_nextYear_0 (nq_Letters_0 (nq_Standing_letters hL)) rfl 6 (by decide) lkX4_nextYear_66 _ rfl rfl dX4_nextYear_11 ?_
    refine nq_aload_n hX rfl 0 rfl dX4_nextYear_14 ?_
    refine nq_getr (v := .ref (nq_ad E q)) hX inX4_nextYear_4 (nq_Standing_0 hL) rfl 0 (by decide) lkX4_nextYear_9 _ rfl rfl dX4_nextYear_15 ?_
    refine nq_getr (v := .ref (nq_ad E (q + 9))) hX inX4_nextYear_0 (nq_Letters_0 (nq_Standing_letters hL)) rfl 10 (by decide) lkX4_nextYear_71 _ rfl rfl dX4_nextYear_18 ?_
    refine nq_aload_n hX rfl 0 rfl dX4_nextYear_21 ?_
    obtain ⟨v11, e11, h⟩ := nq_ltE h
    refine nq_geti hX inX4_nextYear_4 (nq_Standing_0 hL) rfl 6 (by decide) lkX4_nextYear_32 rfl e11 dX4_nextYear_22 ?_
    obtain ⟨v12, e12, hi12, h⟩ := nq_agE h
    refine nq_iald hX (nq_Letters_arriving (nq_Standing_letters hL)) e12 hi12 dX4_nextYear_25 ?_
    obtain ⟨v13, e13, hi13, h⟩ := nq_agE h
    refine nq_iald hX (nq_Letters_comes (nq_Standing_letters hL)) e13 hi13 dX4_nextYear_26 ?_
    refine nq_goto hX (tgt := 32) (by decide) dX4_nextYear_27 ?_
    exact mX4_nextYear_L32 hL hX hr h
theorem dsX4_nextYear : yX4_nextYear.cls ≠ "java/lang/invoke/MethodHandle" ∧ yX4_nextYear.cls ≠ "java/lang/invoke/VarHandle" ∧ (parseMethodDescriptor yX4_nextYear.desc).map (fun d => d.parameters.length) = some 0 := by decide +kernel
theorem tX4_nextYear {l : Launch} {E : Ev} {K : List Sh} {p : Nat} {q : Nat} {M : Mem} {r : Int32} (hL : nq_atStanding E K p q) (h : fX4_nextYear p q M = some r) : nq_MA l E yX4_nextYear wsX4_nextYear (nq_rm 2) [.ref (nq_ad E p)] K M (some (.int r)) K M :=
  nq_met (own := RX4) (cc := cX4_nextYear) (maxL := 3) (ret := (some .int)) (by decide) rfl rfl (Nat.le_of_ble_eq_true rfl) (fun X hX hr => mX4_nextYear hL hX hr h)

theorem inX4_endOver_4 : ∀ w ∈ u_ws RX4 TX4 8, w ∈ wsX4_endOver := by
  intro w h; unfold wsX4_endOver; simp only [List.mem_cons, List.mem_append]; simp only [h, true_or, or_true]
theorem lkX4_endOver_26 : Cond.fieldLink RX4 26 (TX4 4).1 (TX4 4).2.1 (TX4 4).2.2.1 ∈ wsX4_endOver := by decide +kernel
theorem lkX4_endOver_29 : Cond.fieldLink RX4 29 (TX4 5).1 (TX4 5).2.1 (TX4 5).2.2.1 ∈ wsX4_endOver := by decide +kernel
def fX4_endOver (p : Nat) (q : Nat) (x1 : Int32) (M : Mem) : Option (Mem) :=
  nq_lt (M p 4) fun v1 =>
  if v1 = (1 : Int32) then
  (nq_lt (M p 5) fun v3 =>
  if x1 ≤ v3 then
  (some M)
  else
  (nq_lt (nq_wr M p 4 (0 : Int32)) fun M5 =>
  some M5))
  else
  (some M)
set_option maxHeartbeats 4000000 in
theorem mX4_endOver {X : Cx} {E : Ev} {l : Launch} {K : List Sh} {p : Nat} {q : Nat} {x1 : Int32} {M : Mem} {M' : Mem} (hL : nq_atStanding E K p q) (hX : nq_OK X E l (nq_rm 1) cX4_endOver 2 RX4 wsX4_endOver) (hr : nq_RT X E none none K M') (h : fX4_endOver p q x1 M = some M') : nq_G X E 2 0 [(0, .ref (nq_ad E p)), (1, .int x1)] [] K M := by
  unfold fX4_endOver at h
  refine nq_aload_n hX rfl 0 rfl dX4_endOver_0 ?_
  obtain ⟨v1, e1, h⟩ := nq_ltE h
  refine nq_geti hX inX4_endOver_4 (nq_Standing_0 hL) rfl 4 (by decide) lkX4_endOver_26 rfl e1 dX4_endOver_1 ?_
  refine nq_iconst hX (v := 1) (by decide) dX4_endOver_4 ?_
  refine nq_icmp_ne hX (tgt := 21) (by decide) dX4_endOver_5 (fun c2 => ?_) (fun c2 => ?_)
  · rw [if_pos c2] at h
    refine nq_iload_n hX rfl 1 rfl dX4_endOver_8 ?_
    refine nq_aload_n hX rfl 0 rfl dX4_endOver_9 ?_
    obtain ⟨v3, e3, h⟩ := nq_ltE h
    refine nq_geti hX inX4_endOver_4 (nq_Standing_0 hL) rfl 5 (by decide) lkX4_endOver_29 rfl e3 dX4_endOver_10 ?_
    refine nq_icmp_le hX (tgt := 21) (by decide) dX4_endOver_13 (fun c4 => ?_) (fun c4 => ?_)
    · rw [if_pos c4] at h
      obtain rfl := nq_sE1 h; exact nq_vret hX hr dX4_endOver_21
    · rw [if_neg c4] at h
      refine nq_aload_n hX rfl 0 rfl dX4_endOver_16 ?_
      refine nq_iconst hX (v := 0) (by decide) dX4_endOver_17 ?_
      obtain ⟨M5, eM5, h⟩ := nq_ltE h
      refine nq_puti hX inX4_endOver_4 tyX4 tyX4_ok nmX4 (nq_Standing_0 hL) rfl 4 (by decide) lkX4_endOver_26 rfl rfl rfl rfl rfl eM5 dX4_endOver_18 ?_
      obtain rfl := nq_sE1 h; exact nq_vret hX hr dX4_endOver_21
  · rw [if_neg c2] at h
    obtain rfl := nq_sE1 h; exact nq_vret hX hr dX4_endOver_21
theorem dsX4_endOver : yX4_endOver.cls ≠ "java/lang/invoke/MethodHandle" ∧ yX4_endOver.cls ≠ "java/lang/invoke/VarHandle" ∧ (parseMethodDescriptor yX4_endOver.desc).map (fun d => d.parameters.length) = some 1 := by decide +kernel
theorem tX4_endOver {l : Launch} {E : Ev} {K : List Sh} {p : Nat} {q : Nat} {x1 : Int32} {M : Mem} {M' : Mem} (hL : nq_atStanding E K p q) (h : fX4_endOver p q x1 M = some M') : nq_MA l E yX4_endOver wsX4_endOver (nq_rm 1) [.ref (nq_ad E p), .int x1] K M none K M' :=
  nq_met (own := RX4) (cc := cX4_endOver) (maxL := 2) (ret := none) (by decide) rfl rfl (Nat.le_of_ble_eq_true rfl) (fun X hX hr => mX4_endOver hL hX hr h)

theorem inX4_giveUp_4 : ∀ w ∈ u_ws RX4 TX4 8, w ∈ wsX4_giveUp := by
  intro w h; unfold wsX4_giveUp; simp only [List.mem_cons, List.mem_append]; simp only [h, true_or, or_true]
theorem lkX4_giveUp_26 : Cond.fieldLink RX4 26 (TX4 4).1 (TX4 4).2.1 (TX4 4).2.2.1 ∈ wsX4_giveUp := by decide +kernel
def fX4_giveUp (p : Nat) (q : Nat) (M : Mem) : Option (Mem) :=
  nq_lt (M p 4) fun v1 =>
  if v1 = (1 : Int32) then
  (nq_lt (nq_wr M p 4 (0 : Int32)) fun M3 =>
  some M3)
  else
  (nq_lt (M p 4) fun v4 =>
  if v4 = (2 : Int32) then
  (nq_lt (nq_wr M p 4 (0 : Int32)) fun M6 =>
  some M6)
  else
  (some M))
set_option maxHeartbeats 4000000 in
theorem mX4_giveUp {X : Cx} {E : Ev} {l : Launch} {K : List Sh} {p : Nat} {q : Nat} {M : Mem} {M' : Mem} (hL : nq_atStanding E K p q) (hX : nq_OK X E l (nq_rm 1) cX4_giveUp 1 RX4 wsX4_giveUp) (hr : nq_RT X E none none K M') (h : fX4_giveUp p q M = some M') : nq_G X E 1 0 [(0, .ref (nq_ad E p))] [] K M := by
  unfold fX4_giveUp at h
  refine nq_aload_n hX rfl 0 rfl dX4_giveUp_0 ?_
  obtain ⟨v1, e1, h⟩ := nq_ltE h
  refine nq_geti hX inX4_giveUp_4 (nq_Standing_0 hL) rfl 4 (by decide) lkX4_giveUp_26 rfl e1 dX4_giveUp_1 ?_
  refine nq_iconst hX (v := 1) (by decide) dX4_giveUp_4 ?_
  refine nq_icmp_eq hX (tgt := 16) (by decide) dX4_giveUp_5 (fun c2 => ?_) (fun c2 => ?_)
  · rw [if_pos c2] at h
    refine nq_aload_n hX rfl 0 rfl dX4_giveUp_16 ?_
    refine nq_iconst hX (v := 0) (by decide) dX4_giveUp_17 ?_
    obtain ⟨M3, eM3, h⟩ := nq_ltE h
    refine nq_puti hX inX4_giveUp_4 tyX4 tyX4_ok nmX4 (nq_Standing_0 hL) rfl 4 (by decide) lkX4_giveUp_26 rfl rfl rfl rfl rfl eM3 dX4_giveUp_18 ?_
    obtain rfl := nq_sE1 h; exact nq_vret hX hr dX4_giveUp_21
  · rw [if_neg c2] at h
    refine nq_aload_n hX rfl 0 rfl dX4_giveUp_8 ?_
    obtain ⟨v4, e4, h⟩ := nq_ltE h
    refine nq_geti hX inX4_giveUp_4 (nq_Standing_0 hL) rfl 4 (by decide) lkX4_giveUp_26 rfl e4 dX4_giveUp_9 ?_
    refine nq_iconst hX (v := 2) (by decide) dX4_giveUp_12 ?_
    refine nq_icmp_ne hX (tgt := 21) (by decide) dX4_giveUp_13 (fun c5 => ?_) (fun c5 => ?_)
    · rw [if_pos c5] at h
      refine nq_aload_n hX rfl 0 rfl dX4_giveUp_16 ?_
      refine nq_iconst hX (v := 0) (by decide) dX4_giveUp_17 ?_
      obtain ⟨M6, eM6, h⟩ := nq_ltE h
      refine nq_puti hX inX4_giveUp_4 tyX4 tyX4_ok nmX4 (nq_Standing_0 hL) rfl 4 (by decide) lkX4_giveUp_26 rfl rfl rfl rfl rfl eM6 dX4_giveUp_18 ?_
      obtain rfl := nq_sE1 h; exact nq_vret hX hr dX4_giveUp_21
    · rw [if_neg c5] at h
      obtain rfl := nq_sE1 h; exact nq_vret hX hr dX4_giveUp_21
theorem dsX4_giveUp : yX4_giveUp.cls ≠ "java/lang/invoke/MethodHandle" ∧ yX4_giveUp.cls ≠ "java/lang/invoke/VarHandle" ∧ (parseMethodDescriptor yX4_giveUp.desc).map (fun d => d.parameters.length) = some 0 := by decide +kernel
theorem tX4_giveUp {l : Launch} {E : Ev} {K : List Sh} {p : Nat} {q : Nat} {M : Mem} {M' : Mem} (hL : nq_atStanding E K p q) (h : fX4_giveUp p q M = some M') : nq_MA l E yX4_giveUp wsX4_giveUp (nq_rm 1) [.ref (nq_ad E p)] K M none K M' :=
  nq_met (own := RX4) (cc := cX4_giveUp) (maxL := 1) (ret := none) (by decide) rfl rfl (Nat.le_of_ble_eq_true rfl) (fun X hX hr => mX4_giveUp hL hX hr h)

theorem inX4_receive_4 : ∀ w ∈ u_ws RX4 TX4 8, w ∈ wsX4_receive := by
  intro w h; unfold wsX4_receive; simp only [List.mem_cons, List.mem_append]; simp only [h, true_or, or_true]
theorem lkX4_receive_9 : Cond.fieldLink RX4 9 (TX4 0).1 (TX4 0).2.1 (TX4 0).2.2.1 ∈ wsX4_receive := by decide +kernel
theorem inX4_receive_0 : ∀ w ∈ u_ws RX0 TX0 11, w ∈ wsX4_receive := by
  intro w h; unfold wsX4_receive; simp only [List.mem_cons, List.mem_append]; simp only [h, true_or, or_true]
theorem lkX4_receive_106 : Cond.fieldLink RX4 106 (TX0 1).1 (TX0 1).2.1 (TX0 1).2.2.1 ∈ wsX4_receive := by decide +kernel
theorem lkX4_receive_109 : Cond.fieldLink RX4 109 (TX0 2).1 (TX0 2).2.1 (TX0 2).2.2.1 ∈ wsX4_receive := by decide +kernel
theorem lkX4_receive_15 : Cond.fieldLink RX4 15 (TX4 1).1 (TX4 1).2.1 (TX4 1).2.2.1 ∈ wsX4_receive := by decide +kernel
theorem mmX4_receive_k116 : Cond.methodLink RX4 116 Lib.Math.max.name ∈ wsX4_receive := by decide +kernel
theorem mmX4_receive_stmax : Cond.static Lib.Math.max.name ∈ wsX4_receive := by decide +kernel
theorem mmX4_receive_im : Cond.initialized "java/lang/Math" ∈ wsX4_receive := by decide +kernel
theorem mmX4_receive_cdmax : Cond.code Lib.Math.max.name Lib.Math.max.code 2 (some .int) ∈ wsX4_receive := by decide +kernel
theorem lkX4_receive_26 : Cond.fieldLink RX4 26 (TX4 4).1 (TX4 4).2.1 (TX4 4).2.2.1 ∈ wsX4_receive := by decide +kernel
def fX4_receive_L71 (p : Nat) (q : Nat) (x2 : Int32) (M : Mem) : Option (Mem) :=
  if x2 = (4 : Int32) then
  ((fX4_giveUp p q M).bind fun M15 =>
  some M15)
  else
  (some M)
set_option maxHeartbeats 4000000 in
theorem mX4_receive_L71 {X : Cx} {E : Ev} {l : Launch} {K : List Sh} {p : Nat} {q : Nat} {x2 : Int32} {M : Mem} {M' : Mem} (hL : nq_atStanding E K p q) (hX : nq_OK X E l (nq_rm 2) cX4_receive 4 RX4 wsX4_receive) (hr : nq_RT X E none none K M') (h : fX4_receive_L71 p q x2 M = some M') : nq_G X E 4 71 [(0, .ref (nq_ad E p)), (2, .int x2)] [] K M := by
  unfold fX4_receive_L71 at h
  refine nq_iload_n hX rfl 1 rfl dX4_receive_71 ?_
  refine nq_iconst hX (v := 4) (by decide) dX4_receive_72 ?_
  refine nq_icmp_ne hX (tgt := 80) (by decide) dX4_receive_73 (fun c13 => ?_) (fun c13 => ?_)
  · rw [if_pos c13] at h
    refine nq_aload_n hX rfl 0 rfl dX4_receive_76 ?_
    obtain ⟨M15, hc14, h⟩ := nq_bE h
    refine nq_callVv hX (tX4_giveUp hL hc14) gX4_receive_X4_giveUp rfl rfl dsX4_giveUp (by decide) (nq_Standing_0 hL) rfl rfl (Nat.le_of_ble_eq_true rfl) dX4_receive_77 ?_
    obtain rfl := nq_sE1 h; exact nq_vret hX hr dX4_receive_80
  · rw [if_neg c13] at h
    obtain rfl := nq_sE1 h; exact nq_vret hX hr dX4_receive_80
def fX4_receive_L53 (p : Nat) (q : Nat) (x2 : Int32) (M : Mem) : Option (Mem) :=
  if x2 = (2 : Int32) then
  (nq_lt (M p 4) fun v10 =>
  if v10 = (1 : Int32) then
  (nq_lt (nq_wr M p 4 (2 : Int32)) fun M12 =>
  fX4_receive_L71 p q x2 M12)
  else
  (fX4_receive_L71 p q x2 M))
  else
  (fX4_receive_L71 p q x2 M)
set_option maxHeartbeats 4000000 in
theorem mX4_receive_L53 {X : Cx} {E : Ev} {l : Launch} {K : List Sh} {p : Nat} {q : Nat} {x2 : Int32} {M : Mem} {M' : Mem} (hL : nq_atStanding E K p q) (hX : nq_OK X E l (nq_rm 2) cX4_receive 4 RX4 wsX4_receive) (hr : nq_RT X E none none K M') (h : fX4_receive_L53 p q x2 M = some M') : nq_G X E 4 53 [(0, .ref (nq_ad E p)), (2, .int x2)] [] K M := by
  unfold fX4_receive_L53 at h
  refine nq_iload_n hX rfl 1 rfl dX4_receive_53 ?_
  refine nq_iconst hX (v := 2) (by decide) dX4_receive_54 ?_
  refine nq_icmp_ne hX (tgt := 71) (by decide) dX4_receive_55 (fun c9 => ?_) (fun c9 => ?_)
  · rw [if_pos c9] at h
    refine nq_aload_n hX rfl 0 rfl dX4_receive_58 ?_
    obtain ⟨v10, e10, h⟩ := nq_ltE h
    refine nq_geti hX inX4_receive_4 (nq_Standing_0 hL) rfl 4 (by decide) lkX4_receive_26 rfl e10 dX4_receive_59 ?_
    refine nq_iconst hX (v := 1) (by decide) dX4_receive_62 ?_
    refine nq_icmp_ne hX (tgt := 71) (by decide) dX4_receive_63 (fun c11 => ?_) (fun c11 => ?_)
    · rw [if_pos c11] at h
      refine nq_aload_n hX rfl 0 rfl dX4_receive_66 ?_
      refine nq_iconst hX (v := 2) (by decide) dX4_receive_67 ?_
      obtain ⟨M12, eM12, h⟩ := nq_ltE h
      refine nq_puti hX inX4_receive_4 tyX4 tyX4_ok nmX4 (nq_Standing_0 hL) rfl 4 (by decide) lkX4_receive_26 rfl rfl rfl rfl rfl eM12 dX4_receive_68 ?_
      exact mX4_receive_L71 hL hX hr h
    · rw [if_neg c11] at h
      exact mX4_receive_L71 hL hX hr h
  · rw [if_neg c9] at h
    exact mX4_receive_L71 hL hX hr h
def fX4_receive_L20 (p : Nat) (q : Nat) (x1 : Int32) (x2 : Int32) (M : Mem) : Option (Mem) :=
  (nq_ag (M (q + 2)) 80 x1).bind fun v3 =>
  (nq_ag (M (p + 1)) 6 v3).bind fun v4 =>
  (fX0_lastYear q x1 M).bind fun v6 =>
  nq_lt (if v4 < v6 then v6 else v4) fun v7 =>
  (nq_as M (p + 1) 6 v3 v7).bind fun M8 =>
  fX4_receive_L53 p q x2 M8
set_option maxHeartbeats 4000000 in
theorem mX4_receive_L20 {X : Cx} {E : Ev} {l : Launch} {K : List Sh} {p : Nat} {q : Nat} {x1 : Int32} {x2 : Int32} {M : Mem} {M' : Mem} (hL : nq_atStanding E K p q) (hX : nq_OK X E l (nq_rm 2) cX4_receive 4 RX4 wsX4_receive) (hr : nq_RT X E none none K M') (h : fX4_receive_L20 p q x1 x2 M = some M') : nq_G X E 4 20 [(0, .ref (nq_ad E p)), (1, .int x1), (2, .int x2)] [] K M := by
  unfold fX4_receive_L20 at h
  refine nq_aload_n hX rfl 0 rfl dX4_receive_20 ?_
  refine nq_getr (v := .ref (nq_ad E q)) hX inX4_receive_4 (nq_Standing_0 hL) rfl 0 (by decide) lkX4_receive_9 _ rfl rfl dX4_receive_21 ?_
  refine nq_getr (v := .ref (nq_ad E (q + 2))) hX inX4_receive_0 (nq_Letters_0 (nq_Standing_letters hL)) rfl 2 (by decide) lkX4_receive_109 _ rfl rfl dX4_receive_24 ?_
  refine nq_iload_n hX rfl 1 rfl dX4_receive_27 ?_
  obtain ⟨v3, e3, hi3, h⟩ := nq_agE h
  refine nq_iald hX (nq_Letters_froms (nq_Standing_letters hL)) e3 hi3 dX4_receive_28 ?_
  refine nq_istore_n hX (lv' := [(3, .int v3), (0, .ref (nq_ad E p)), (1, .int x1), (2, .int x2)]) rfl (by decide) rfl rfl dX4_receive_29 ?_
  refine nq_aload_n hX rfl 1 rfl dX4_receive_30 ?_
  refine nq_getr (v := .ref (nq_ad E (p + 1))) hX inX4_receive_4 (nq_Standing_0 hL) rfl 1 (by decide) lkX4_receive_15 _ rfl rfl dX4_receive_31 ?_
  refine nq_iload_n hX rfl 0 rfl dX4_receive_34 ?_
  refine nq_aload_n hX rfl 1 rfl dX4_receive_35 ?_
  refine nq_getr (v := .ref (nq_ad E (p + 1))) hX inX4_receive_4 (nq_Standing_0 hL) rfl 1 (by decide) lkX4_receive_15 _ rfl rfl dX4_receive_36 ?_
  refine nq_iload_n hX rfl 0 rfl dX4_receive_39 ?_
  obtain ⟨v4, e4, hi4, h⟩ := nq_agE h
  refine nq_iald hX (nq_Standing_offeredUpTo hL) e4 hi4 dX4_receive_40 ?_
  refine nq_aload_n hX rfl 1 rfl dX4_receive_41 ?_
  refine nq_getr (v := .ref (nq_ad E q)) hX inX4_receive_4 (nq_Standing_0 hL) rfl 0 (by decide) lkX4_receive_9 _ rfl rfl dX4_receive_42 ?_
  refine nq_iload_n hX rfl 2 rfl dX4_receive_45 ?_
  obtain ⟨v6, hc5, h⟩ := nq_bE h
  refine nq_callVi hX (tX0_lastYear (nq_Standing_letters hL) hc5) gX4_receive_X0_lastYear rfl rfl dsX0_lastYear (by decide) (nq_Letters_0 (nq_Standing_letters hL)) rfl rfl (Nat.le_of_ble_eq_true rfl) dX4_receive_46 ?_
  refine nq_mmax hX mmX4_receive_k116 mmX4_receive_stmax mmX4_receive_im mmX4_receive_cdmax (by decide) (Nat.le_of_ble_eq_true rfl) dX4_receive_49 ?_
  obtain ⟨v7, e7, h⟩ := nq_ltE h
  rw [← e7]
  obtain ⟨M8, e8, hi8, h⟩ := nq_asE h
  refine nq_iast hX (nq_Standing_offeredUpTo hL) e8 hi8 dX4_receive_52 ?_
  refine nq_sub (lv' := [(0, .ref (nq_ad E p)), (2, .int x2)]) [1, 3] rfl ?_
  exact mX4_receive_L53 hL hX hr h
def fX4_receive (p : Nat) (q : Nat) (x1 : Int32) (M : Mem) : Option (Mem) :=
  (nq_ag (M (q + 1)) 80 x1).bind fun v1 =>
  if v1 = (1 : Int32) then
  (fX4_receive_L20 p q x1 v1 M)
  else
  (if v1 = (2 : Int32) then
  (fX4_receive_L20 p q x1 v1 M)
  else
  (fX4_receive_L53 p q v1 M))
set_option maxHeartbeats 4000000 in
theorem mX4_receive {X : Cx} {E : Ev} {l : Launch} {K : List Sh} {p : Nat} {q : Nat} {x1 : Int32} {M : Mem} {M' : Mem} (hL : nq_atStanding E K p q) (hX : nq_OK X E l (nq_rm 2) cX4_receive 4 RX4 wsX4_receive) (hr : nq_RT X E none none K M') (h : fX4_receive p q x1 M = some M') : nq_G X E 4 0 [(0, .ref (nq_ad E p)), (1, .int x1)] [] K M := by
  unfold fX4_receive at h
  refine nq_aload_n hX rfl 0 rfl dX4_receive_0 ?_
  refine nq_getr (v := .ref (nq_ad E q)) hX inX4_receive_4 (nq_Standing_0 hL) rfl 0 (by decide) lkX4_receive_9 _ rfl rfl dX4_receive_1 ?_
  refine nq_getr (v := .ref (nq_ad E (q + 1))) hX inX4_receive_0 (nq_Letters_0 (nq_Standing_letters hL)) rfl 1 (by decide) lkX4_receive_106 _ rfl rfl dX4_receive_4 ?_
  refine nq_iload_n hX rfl 1 rfl dX4_receive_7 ?_
  obtain ⟨v1, e1, hi1, h⟩ := nq_agE h
  refine nq_iald hX (nq_Letters_kinds (nq_Standing_letters hL)) e1 hi1 dX4_receive_8 ?_
  refine nq_istore_n hX (lv' := [(2, .int v1), (0, .ref (nq_ad E p)), (1, .int x1)]) rfl (by decide) rfl rfl dX4_receive_9 ?_
  refine nq_iload_n hX rfl 0 rfl dX4_receive_10 ?_
  refine nq_iconst hX (v := 1) (by decide) dX4_receive_11 ?_
  refine nq_icmp_eq hX (tgt := 20) (by decide) dX4_receive_12 (fun c2 => ?_) (fun c2 => ?_)
  · rw [if_pos c2] at h
    refine nq_sub (lv' := [(0, .ref (nq_ad E p)), (1, .int x1), (2, .int v1)]) [1, 2, 0] rfl ?_
    exact mX4_receive_L20 hL hX hr h
  · rw [if_neg c2] at h
    refine nq_iload_n hX rfl 0 rfl dX4_receive_15 ?_
    refine nq_iconst hX (v := 2) (by decide) dX4_receive_16 ?_
    refine nq_icmp_ne hX (tgt := 53) (by decide) dX4_receive_17 (fun c16 => ?_) (fun c16 => ?_)
    · rw [if_pos c16] at h
      refine nq_sub (lv' := [(0, .ref (nq_ad E p)), (1, .int x1), (2, .int v1)]) [1, 2, 0] rfl ?_
      exact mX4_receive_L20 hL hX hr h
    · rw [if_neg c16] at h
      refine nq_sub (lv' := [(0, .ref (nq_ad E p)), (2, .int v1)]) [1, 0] rfl ?_
      exact mX4_receive_L53 hL hX hr h
theorem dsX4_receive : yX4_receive.cls ≠ "java/lang/invoke/MethodHandle" ∧ yX4_receive.cls ≠ "java/lang/invoke/VarHandle" ∧ (parseMethodDescriptor yX4_receive.desc).map (fun d => d.parameters.length) = some 1 := by decide +kernel
theorem tX4_receive {l : Launch} {E : Ev} {K : List Sh} {p : Nat} {q : Nat} {x1 : Int32} {M : Mem} {M' : Mem} (hL : nq_atStanding E K p q) (h : fX4_receive p q x1 M = some M') : nq_MA l E yX4_receive wsX4_receive (nq_rm 2) [.ref (nq_ad E p), .int x1] K M none K M' :=
  nq_met (own := RX4) (cc := cX4_receive) (maxL := 4) (ret := none) (by decide) rfl rfl (Nat.le_of_ble_eq_true rfl) (fun X hX hr => mX4_receive hL hX hr h)

theorem inX4_propose_4 : ∀ w ∈ u_ws RX4 TX4 8, w ∈ wsX4_propose := by
  intro w h; unfold wsX4_propose; simp only [List.mem_cons, List.mem_append]; simp only [h, true_or, or_true]
theorem lkX4_propose_26 : Cond.fieldLink RX4 26 (TX4 4).1 (TX4 4).2.1 (TX4 4).2.2.1 ∈ wsX4_propose := by decide +kernel
theorem lkX4_propose_9 : Cond.fieldLink RX4 9 (TX4 0).1 (TX4 0).2.1 (TX4 0).2.2.1 ∈ wsX4_propose := by decide +kernel
theorem lkX4_propose_29 : Cond.fieldLink RX4 29 (TX4 5).1 (TX4 5).2.1 (TX4 5).2.2.1 ∈ wsX4_propose := by decide +kernel
def fX4_propose (p : Nat) (q : Nat) (x1 : Int32) (M : Mem) : Option (Mem) :=
  nq_lt (M p 4) fun v1 =>
  if v1 = 0 then
  (nq_lt (nq_wr M p 4 (1 : Int32)) fun M3 =>
  (fX0_lastYear q x1 M3).bind fun v5 =>
  nq_lt (nq_wr M3 p 5 v5) fun M6 =>
  some M6)
  else
  (some M)
set_option maxHeartbeats 4000000 in
theorem mX4_propose {X : Cx} {E : Ev} {l : Launch} {K : List Sh} {p : Nat} {q : Nat} {x1 : Int32} {M : Mem} {M' : Mem} (hL : nq_atStanding E K p q) (hX : nq_OK X E l (nq_rm 2) cX4_propose 2 RX4 wsX4_propose) (hr : nq_RT X E none none K M') (h : fX4_propose p q x1 M = some M') : nq_G X E 2 0 [(0, .ref (nq_ad E p)), (1, .int x1)] [] K M := by
  unfold fX4_propose at h
  refine nq_aload_n hX rfl 0 rfl dX4_propose_0 ?_
  obtain ⟨v1, e1, h⟩ := nq_ltE h
  refine nq_geti hX inX4_propose_4 (nq_Standing_0 hL) rfl 4 (by decide) lkX4_propose_26 rfl e1 dX4_propose_1 ?_
  refine nq_if_ne hX (tgt := 24) (by decide) dX4_propose_4 (fun c2 => ?_) (fun c2 => ?_)
  · rw [if_pos c2] at h
    refine nq_aload_n hX rfl 0 rfl dX4_propose_7 ?_
    refine nq_iconst hX (v := 1) (by decide) dX4_propose_8 ?_
    obtain ⟨M3, eM3, h⟩ := nq_ltE h
    refine nq_puti hX inX4_propose_4 tyX4 tyX4_ok nmX4 (nq_Standing_0 hL) rfl 4 (by decide) lkX4_propose_26 rfl rfl rfl rfl rfl eM3 dX4_propose_9 ?_
    refine nq_aload_n hX rfl 0 rfl dX4_propose_12 ?_
    refine nq_aload_n hX rfl 0 rfl dX4_propose_13 ?_
    refine nq_getr (v := .ref (nq_ad E q)) hX inX4_propose_4 (nq_Standing_0 hL) rfl 0 (by decide) lkX4_propose_9 _ rfl rfl dX4_propose_14 ?_
    refine nq_iload_n hX rfl 1 rfl dX4_propose_17 ?_
    obtain ⟨v5, hc4, h⟩ := nq_bE h
    refine nq_callVi hX (tX0_lastYear (nq_Standing_letters hL) hc4) gX4_propose_X0_lastYear rfl rfl dsX0_lastYear (by decide) (nq_Letters_0 (nq_Standing_letters hL)) rfl rfl (Nat.le_of_ble_eq_true rfl) dX4_propose_18 ?_
    obtain ⟨M6, eM6, h⟩ := nq_ltE h
    refine nq_puti hX inX4_propose_4 tyX4 tyX4_ok nmX4 (nq_Standing_0 hL) rfl 5 (by decide) lkX4_propose_29 rfl rfl rfl rfl rfl eM6 dX4_propose_21 ?_
    obtain rfl := nq_sE1 h; exact nq_vret hX hr dX4_propose_24
  · rw [if_neg c2] at h
    obtain rfl := nq_sE1 h; exact nq_vret hX hr dX4_propose_24
theorem dsX4_propose : yX4_propose.cls ≠ "java/lang/invoke/MethodHandle" ∧ yX4_propose.cls ≠ "java/lang/invoke/VarHandle" ∧ (parseMethodDescriptor yX4_propose.desc).map (fun d => d.parameters.length) = some 1 := by decide +kernel
theorem tX4_propose {l : Launch} {E : Ev} {K : List Sh} {p : Nat} {q : Nat} {x1 : Int32} {M : Mem} {M' : Mem} (hL : nq_atStanding E K p q) (h : fX4_propose p q x1 M = some M') : nq_MA l E yX4_propose wsX4_propose (nq_rm 2) [.ref (nq_ad E p), .int x1] K M none K M' :=
  nq_met (own := RX4) (cc := cX4_propose) (maxL := 2) (ret := none) (by decide) rfl rfl (Nat.le_of_ble_eq_true rfl) (fun X hX hr => mX4_propose hL hX hr h)

theorem inX4_say_4 : ∀ w ∈ u_ws RX4 TX4 8, w ∈ wsX4_say := by
  intro w h; unfold wsX4_say; simp only [List.mem_cons, List.mem_append]; simp only [h, true_or, or_true]
theorem lkX4_say_9 : Cond.fieldLink RX4 9 (TX4 0).1 (TX4 0).2.1 (TX4 0).2.2.1 ∈ wsX4_say := by decide +kernel
theorem inX4_say_0 : ∀ w ∈ u_ws RX0 TX0 11, w ∈ wsX4_say := by
  intro w h; unfold wsX4_say; simp only [List.mem_cons, List.mem_append]; simp only [h, true_or, or_true]
theorem lkX4_say_106 : Cond.fieldLink RX4 106 (TX0 1).1 (TX0 1).2.1 (TX0 1).2.2.1 ∈ wsX4_say := by decide +kernel
theorem lkX4_say_26 : Cond.fieldLink RX4 26 (TX4 4).1 (TX4 4).2.1 (TX4 4).2.2.1 ∈ wsX4_say := by decide +kernel
theorem lkX4_say_15 : Cond.fieldLink RX4 15 (TX4 1).1 (TX4 1).2.1 (TX4 1).2.2.1 ∈ wsX4_say := by decide +kernel
theorem lkX4_say_125 : Cond.fieldLink RX4 125 (TX0 3).1 (TX0 3).2.1 (TX0 3).2.2.1 ∈ wsX4_say := by decide +kernel
def fX4_say (p : Nat) (q : Nat) (x1 : Int32) (x2 : Int32) (M : Mem) : Option (Mem) :=
  (nq_ag (M (q + 1)) 80 x1).bind fun v1 =>
  if v1 = 1 then
  ((fX4_propose p q x1 M).bind fun M4 =>
  some M4)
  else if v1 = 2 then
  (nq_lt (M p 4) fun v5 =>
  if (1 : Int32) < v5 then
  ((fX4_propose p q x1 M).bind fun M8 =>
  some M8)
  else
  ((nq_ag (M (q + 3)) 80 x1).bind fun v9 =>
  (nq_ag (M (p + 1)) 6 v9).bind fun v10 =>
  if v10 < x2 then
  ((fX4_propose p q x1 M).bind fun M13 =>
  some M13)
  else
  (nq_lt (nq_wr M p 4 (2 : Int32)) fun M14 =>
  some M14)))
  else if v1 = 3 then
  (nq_lt (M p 4) fun v15 =>
  if v15 = (2 : Int32) then
  (nq_lt (nq_wr M p 4 (3 : Int32)) fun M17 =>
  some M17)
  else
  (some M))
  else if v1 = 4 then
  ((fX4_giveUp p q M).bind fun M19 =>
  some M19)
  else if v1 = 5 then
  (nq_lt (nq_wr M p 4 (3 : Int32)) fun M20 =>
  some M20)
  else (some M)
set_option maxHeartbeats 4000000 in
theorem mX4_say {X : Cx} {E : Ev} {l : Launch} {K : List Sh} {p : Nat} {q : Nat} {x1 : Int32} {x2 : Int32} {M : Mem} {M' : Mem} (hL : nq_atStanding E K p q) (hX : nq_OK X E l (nq_rm 3) cX4_say 3 RX4 wsX4_say) (hr : nq_RT X E none none K M') (h : fX4_say p q x1 x2 M = some M') : nq_G X E 3 0 [(0, .ref (nq_ad E p)), (1, .int x1), (2, .int x2)] [] K M := by
  unfold fX4_say at h
  refine nq_aload_n hX rfl 0 rfl dX4_say_0 ?_
  refine nq_getr (v := .ref (nq_ad E q)) hX inX4_say_4 (nq_Standing_0 hL) rfl 0 (by decide) lkX4_say_9 _ rfl rfl dX4_say_1 ?_
  refine nq_getr (v := .ref (nq_ad E (q + 1))) hX inX4_say_0 (nq_Letters_0 (nq_Standing_letters hL)) rfl 1 (by decide) lkX4_say_106 _ rfl rfl dX4_say_4 ?_
  refine nq_iload_n hX rfl 1 rfl dX4_say_7 ?_
  obtain ⟨v1, e1, hi1, h⟩ := nq_agE h
  refine nq_iald hX (nq_Letters_kinds (nq_Standing_letters hL)) e1 hi1 dX4_say_8 ?_
  by_cases c2_1 : v1 = 1
  · rw [if_pos c2_1] at h; refine nq_tabI hX (tgt := 44) (off := 35) dX4_say_9 (by rw [c2_1]; decide) (by rw [c2_1]; decide) (by rw [c2_1]; rfl) (by decide) ?_
    refine nq_aload_n hX rfl 0 rfl dX4_say_44 ?_
    refine nq_iload_n hX rfl 1 rfl dX4_say_45 ?_
    obtain ⟨M4, hc3, h⟩ := nq_bE h
    refine nq_callVv hX (tX4_propose hL hc3) gX4_say_X4_propose rfl rfl dsX4_propose (by decide) (nq_Standing_0 hL) rfl rfl (Nat.le_of_ble_eq_true rfl) dX4_say_46 ?_
    refine nq_goto hX (tgt := 125) (by decide) dX4_say_49 ?_
    obtain rfl := nq_sE1 h; exact nq_vret hX hr dX4_say_125
  rw [if_neg c2_1] at h
  by_cases c2_2 : v1 = 2
  · rw [if_pos c2_2] at h; refine nq_tabI hX (tgt := 52) (off := 43) dX4_say_9 (by rw [c2_2]; decide) (by rw [c2_2]; decide) (by rw [c2_2]; rfl) (by decide) ?_
    refine nq_aload_n hX rfl 0 rfl dX4_say_52 ?_
    obtain ⟨v5, e5, h⟩ := nq_ltE h
    refine nq_geti hX inX4_say_4 (nq_Standing_0 hL) rfl 4 (by decide) lkX4_say_26 rfl e5 dX4_say_53 ?_
    refine nq_iconst hX (v := 1) (by decide) dX4_say_56 ?_
    refine nq_icmp_gt hX (tgt := 86) (by decide) dX4_say_57 (fun c6 => ?_) (fun c6 => ?_)
    · rw [if_pos c6] at h
      refine nq_aload_n hX rfl 0 rfl dX4_say_86 ?_
      refine nq_iload_n hX rfl 1 rfl dX4_say_87 ?_
      obtain ⟨M8, hc7, h⟩ := nq_bE h
      refine nq_callVv hX (tX4_propose hL hc7) gX4_say_X4_propose rfl rfl dsX4_propose (by decide) (nq_Standing_0 hL) rfl rfl (Nat.le_of_ble_eq_true rfl) dX4_say_88 ?_
      refine nq_goto hX (tgt := 125) (by decide) dX4_say_91 ?_
      obtain rfl := nq_sE1 h; exact nq_vret hX hr dX4_say_125
    · rw [if_neg c6] at h
      refine nq_aload_n hX rfl 0 rfl dX4_say_60 ?_
      refine nq_getr (v := .ref (nq_ad E (p + 1))) hX inX4_say_4 (nq_Standing_0 hL) rfl 1 (by decide) lkX4_say_15 _ rfl rfl dX4_say_61 ?_
      refine nq_aload_n hX rfl 0 rfl dX4_say_64 ?_
      refine nq_getr (v := .ref (nq_ad E q)) hX inX4_say_4 (nq_Standing_0 hL) rfl 0 (by decide) lkX4_say_9 _ rfl rfl dX4_say_65 ?_
      refine nq_getr (v := .ref (nq_ad E (q + 3))) hX inX4_say_0 (nq_Letters_0 (nq_Standing_letters hL)) rfl 3 (by decide) lkX4_say_125 _ rfl rfl dX4_say_68 ?_
      refine nq_iload_n hX rfl 1 rfl dX4_say_71 ?_
      obtain ⟨v9, e9, hi9, h⟩ := nq_agE h
      refine nq_iald hX (nq_Letters_tos (nq_Standing_letters hL)) e9 hi9 dX4_say_72 ?_
      obtain ⟨v10, e10, hi10, h⟩ := nq_agE h
      refine nq_iald hX (nq_Standing_offeredUpTo hL) e10 hi10 dX4_say_73 ?_
      refine nq_iload_n hX rfl 2 rfl dX4_say_74 ?_
      refine nq_icmp_lt hX (tgt := 86) (by decide) dX4_say_75 (fun c11 => ?_) (fun c11 => ?_)
      · rw [if_pos c11] at h
        refine nq_aload_n hX rfl 0 rfl dX4_say_86 ?_
        refine nq_iload_n hX rfl 1 rfl dX4_say_87 ?_
        obtain ⟨M13, hc12, h⟩ := nq_bE h
        refine nq_callVv hX (tX4_propose hL hc12) gX4_say_X4_propose rfl rfl dsX4_propose (by decide) (nq_Standing_0 hL) rfl rfl (Nat.le_of_ble_eq_true rfl) dX4_say_88 ?_
        refine nq_goto hX (tgt := 125) (by decide) dX4_say_91 ?_
        obtain rfl := nq_sE1 h; exact nq_vret hX hr dX4_say_125
      · rw [if_neg c11] at h
        refine nq_aload_n hX rfl 0 rfl dX4_say_78 ?_
        refine nq_iconst hX (v := 2) (by decide) dX4_say_79 ?_
        obtain ⟨M14, eM14, h⟩ := nq_ltE h
        refine nq_puti hX inX4_say_4 tyX4 tyX4_ok nmX4 (nq_Standing_0 hL) rfl 4 (by decide) lkX4_say_26 rfl rfl rfl rfl rfl eM14 dX4_say_80 ?_
        refine nq_goto hX (tgt := 125) (by decide) dX4_say_83 ?_
        obtain rfl := nq_sE1 h; exact nq_vret hX hr dX4_say_125
  rw [if_neg c2_2] at h
  by_cases c2_3 : v1 = 3
  · rw [if_pos c2_3] at h; refine nq_tabI hX (tgt := 94) (off := 85) dX4_say_9 (by rw [c2_3]; decide) (by rw [c2_3]; decide) (by rw [c2_3]; rfl) (by decide) ?_
    refine nq_aload_n hX rfl 0 rfl dX4_say_94 ?_
    obtain ⟨v15, e15, h⟩ := nq_ltE h
    refine nq_geti hX inX4_say_4 (nq_Standing_0 hL) rfl 4 (by decide) lkX4_say_26 rfl e15 dX4_say_95 ?_
    refine nq_iconst hX (v := 2) (by decide) dX4_say_98 ?_
    refine nq_icmp_ne hX (tgt := 125) (by decide) dX4_say_99 (fun c16 => ?_) (fun c16 => ?_)
    · rw [if_pos c16] at h
      refine nq_aload_n hX rfl 0 rfl dX4_say_102 ?_
      refine nq_iconst hX (v := 3) (by decide) dX4_say_103 ?_
      obtain ⟨M17, eM17, h⟩ := nq_ltE h
      refine nq_puti hX inX4_say_4 tyX4 tyX4_ok nmX4 (nq_Standing_0 hL) rfl 4 (by decide) lkX4_say_26 rfl rfl rfl rfl rfl eM17 dX4_say_104 ?_
      refine nq_goto hX (tgt := 125) (by decide) dX4_say_107 ?_
      obtain rfl := nq_sE1 h; exact nq_vret hX hr dX4_say_125
    · rw [if_neg c16] at h
      obtain rfl := nq_sE1 h; exact nq_vret hX hr dX4_say_125
  rw [if_neg c2_3] at h
  by_cases c2_4 : v1 = 4
  · rw [if_pos c2_4] at h; refine nq_tabI hX (tgt := 110) (off := 101) dX4_say_9 (by rw [c2_4]; decide) (by rw [c2_4]; decide) (by rw [c2_4]; rfl) (by decide) ?_
    refine nq_aload_n hX rfl 0 rfl dX4_say_110 ?_
    obtain ⟨M19, hc18, h⟩ := nq_bE h
    refine nq_callVv hX (tX4_giveUp hL hc18) gX4_say_X4_giveUp rfl rfl dsX4_giveUp (by decide) (nq_Standing_0 hL) rfl rfl (Nat.le_of_ble_eq_true rfl) dX4_say_111 ?_
    refine nq_goto hX (tgt := 125) (by decide) dX4_say_114 ?_
    obtain rfl := nq_sE1 h; exact nq_vret hX hr dX4_say_125
  rw [if_neg c2_4] at h
  by_cases c2_5 : v1 = 5
  · rw [if_pos c2_5] at h; refine nq_tabI hX (tgt := 117) (off := 108) dX4_say_9 (by rw [c2_5]; decide) (by rw [c2_5]; decide) (by rw [c2_5]; rfl) (by decide) ?_
    refine nq_aload_n hX rfl 0 rfl dX4_say_117 ?_
    refine nq_iconst hX (v := 3) (by decide) dX4_say_118 ?_
    obtain ⟨M20, eM20, h⟩ := nq_ltE h
    refine nq_puti hX inX4_say_4 tyX4 tyX4_ok nmX4 (nq_Standing_0 hL) rfl 4 (by decide) lkX4_say_26 rfl rfl rfl rfl rfl eM20 dX4_say_119 ?_
    refine nq_goto hX (tgt := 125) (by decide) dX4_say_122 ?_
    obtain rfl := nq_sE1 h; exact nq_vret hX hr dX4_say_125
  rw [if_neg c2_5] at h
  refine nq_tabO hX (tgt := 125) dX4_say_9 (by have := nq_tne (k := 1) (n := 1) (by decide) c2_1; have := nq_tne (k := 2) (n := 2) (by decide) c2_2; have := nq_tne (k := 3) (n := 3) (by decide) c2_3; have := nq_tne (k := 4) (n := 4) (by decide) c2_4; have := nq_tne (k := 5) (n := 5) (by decide) c2_5; omega) (by decide) ?_
  obtain rfl := nq_sE1 h; exact nq_vret hX hr dX4_say_125
theorem dsX4_say : yX4_say.cls ≠ "java/lang/invoke/MethodHandle" ∧ yX4_say.cls ≠ "java/lang/invoke/VarHandle" ∧ (parseMethodDescriptor yX4_say.desc).map (fun d => d.parameters.length) = some 2 := by decide +kernel
theorem tX4_say {l : Launch} {E : Ev} {K : List Sh} {p : Nat} {q : Nat} {x1 : Int32} {x2 : Int32} {M : Mem} {M' : Mem} (hL : nq_atStanding E K p q) (h : fX4_say p q x1 x2 M = some M') : nq_MA l E yX4_say wsX4_say (nq_rm 3) [.ref (nq_ad E p), .int x1, .int x2] K M none K M' :=
  nq_met (own := RX4) (cc := cX4_say) (maxL := 3) (ret := none) (by decide) rfl rfl (Nat.le_of_ble_eq_true rfl) (fun X hX hr => mX4_say hL hX hr h)

theorem inX4_pass_4 : ∀ w ∈ u_ws RX4 TX4 8, w ∈ wsX4_pass := by
  intro w h; unfold wsX4_pass; simp only [List.mem_cons, List.mem_append]; simp only [h, true_or, or_true]
theorem lkX4_pass_9 : Cond.fieldLink RX4 9 (TX4 0).1 (TX4 0).2.1 (TX4 0).2.2.1 ∈ wsX4_pass := by decide +kernel
theorem inX4_pass_0 : ∀ w ∈ u_ws RX0 TX0 11, w ∈ wsX4_pass := by
  intro w h; unfold wsX4_pass; simp only [List.mem_cons, List.mem_append]; simp only [h, true_or, or_true]
theorem lkX4_pass_71 : Cond.fieldLink RX4 71 (TX0 10).1 (TX0 10).2.1 (TX0 10).2.2.1 ∈ wsX4_pass := by decide +kernel
theorem lkX4_pass_32 : Cond.fieldLink RX4 32 (TX4 6).1 (TX4 6).2.1 (TX4 6).2.2.1 ∈ wsX4_pass := by decide +kernel
theorem lkX4_pass_66 : Cond.fieldLink RX4 66 (TX0 6).1 (TX0 6).2.1 (TX0 6).2.2.1 ∈ wsX4_pass := by decide +kernel
theorem lkX4_pass_78 : Cond.fieldLink RX4 78 (TX0 5).1 (TX0 5).2.1 (TX0 5).2.2.1 ∈ wsX4_pass := by decide +kernel
theorem lkX4_pass_35 : Cond.fieldLink RX4 35 (TX4 7).1 (TX4 7).2.1 (TX4 7).2.2.1 ∈ wsX4_pass := by decide +kernel
def fX4_pass_B7 (p : Nat) (q : Nat) (x1 : Int32) (x2 : Int32) (M : Mem) : Option ((Int32 × Mem) ⊕ (Mem)) :=
  if (80 : Int32) ≤ x2 then
  (some (.inr M))
  else
  ((fX4_hasArrival p q M).bind fun v5 =>
  if v5 = 0 then
  (some (.inr M))
  else
  (nq_lt (M p 6) fun v7 =>
  (nq_ag (M (q + 9)) 80 v7).bind fun v8 =>
  (nq_ag (M (q + 6)) 80 v8).bind fun v9 =>
  if v9 ≤ x1 then
  ((fX4_receive p q v8 M).bind fun M12 =>
  nq_lt (M12 p 6) fun v13 =>
  nq_lt (nq_wr M12 p 6 (v13 + (1 : Int32))) fun M14 =>
  (fX4_seek p q M14).bind fun M16 =>
  nq_lt (x2 + (1 : Int32)) fun v17 =>
  some (.inl (v17, M16)))
  else
  (some (.inr M))))
set_option maxHeartbeats 4000000 in
theorem mX4_pass_B7 {X : Cx} {E : Ev} {l : Launch} {K : List Sh} {p : Nat} {q : Nat} {x1 : Int32} {x2 : Int32} {M : Mem} (hL : nq_atStanding E K p q) (hX : nq_OK X E l (nq_rm 4) cX4_pass 4 RX4 wsX4_pass) {x : (Int32 × Mem) ⊕ (Mem)} (hc : ∀ s' : Int32 × Mem, x = .inl s' → nq_G X E 4 7 [(0, .ref (nq_ad E p)), (1, .int x1), (2, .int s'.1)] [] K s'.2) (he : ∀ s' : Mem, x = .inr s' → nq_G X E 4 74 [(0, .ref (nq_ad E p)), (1, .int x1)] [] K s') (h : fX4_pass_B7 p q x1 x2 M = some x) : nq_G X E 4 7 [(0, .ref (nq_ad E p)), (1, .int x1), (2, .int x2)] [] K M := by
  unfold fX4_pass_B7 at h
  refine nq_iload_n hX rfl 2 rfl dX4_pass_7 ?_
  refine nq_bipush hX (v := 80) (by decide) dX4_pass_8 ?_
  refine nq_icmp_ge hX (tgt := 74) (by decide) dX4_pass_10 (fun c3 => ?_) (fun c3 => ?_)
  · rw [if_pos c3] at h
    refine nq_sub (lv' := [(0, .ref (nq_ad E p)), (1, .int x1)]) [0, 1] rfl ?_
    exact he M (nq_sE h).symm
  · rw [if_neg c3] at h
    refine nq_aload_n hX rfl 0 rfl dX4_pass_13 ?_
    obtain ⟨v5, hc4, h⟩ := nq_bE h
    refine nq_callVi hX (tX4_hasArrival hL hc4) gX4_pass_X4_hasArrival rfl rfl dsX4_hasArrival (by decide) (nq_Standing_0 hL) rfl rfl (Nat.le_of_ble_eq_true rfl) dX4_pass_14 ?_
    refine nq_if_eq hX (tgt := 74) (by decide) dX4_pass_17 (fun c6 => ?_) (fun c6 => ?_)
    · rw [if_pos c6] at h
      refine nq_sub (lv' := [(0, .ref (nq_ad E p)), (1, .int x1)]) [0, 1] rfl ?_
      exact he M (nq_sE h).symm
    · rw [if_neg c6] at h
      refine nq_aload_n hX rfl 0 rfl dX4_pass_20 ?_
      refine nq_getr (v := .ref (nq_ad E q)) hX inX4_pass_4 (nq_Standing_0 hL) rfl 0 (by decide) lkX4_pass_9 _ rfl rfl dX4_pass_21 ?_
      refine nq_getr (v := .ref (nq_ad E (q + 9))) hX inX4_pass_0 (nq_Letters_0 (nq_Standing_letters hL)) rfl 10 (by decide) lkX4_pass_71 _ rfl rfl dX4_pass_24 ?_
      refine nq_aload_n hX rfl 0 rfl dX4_pass_27 ?_
      obtain ⟨v7, e7, h⟩ := nq_ltE h
      refine nq_geti hX inX4_pass_4 (nq_Standing_0 hL) rfl 6 (by decide) lkX4_pass_32 rfl e7 dX4_pass_28 ?_
      obtain ⟨v8, e8, hi8, h⟩ := nq_agE h
      refine nq_iald hX (nq_Letters_arriving (nq_Standing_letters hL)) e8 hi8 dX4_pass_31 ?_
      refine nq_istore_n hX (lv' := [(3, .int v8), (0, .ref (nq_ad E p)), (1, .int x1), (2, .int x2)]) rfl (by decide) rfl rfl dX4_pass_32 ?_
      refine nq_aload_n hX rfl 1 rfl dX4_pass_33 ?_
      refine nq_getr (v := .ref (nq_ad E q)) hX inX4_pass_4 (nq_Standing_0 hL) rfl 0 (by decide) lkX4_pass_9 _ rfl rfl dX4_pass_34 ?_
      refine nq_getr (v := .ref (nq_ad E (q + 6))) hX inX4_pass_0 (nq_Letters_0 (nq_Standing_letters hL)) rfl 6 (by decide) lkX4_pass_66 _ rfl rfl dX4_pass_37 ?_
      refine nq_iload_n hX rfl 0 rfl dX4_pass_40 ?_
      obtain ⟨v9, e9, hi9, h⟩ := nq_agE h
      refine nq_iald hX (nq_Letters_comes (nq_Standing_letters hL)) e9 hi9 dX4_pass_41 ?_
      refine nq_iload_n hX rfl 2 rfl dX4_pass_42 ?_
      refine nq_icmp_le hX (tgt := 49) (by decide) dX4_pass_43 (fun c10 => ?_) (fun c10 => ?_)
      · rw [if_pos c10] at h
        refine nq_aload_n hX rfl 1 rfl dX4_pass_49 ?_
        refine nq_iload_n hX rfl 0 rfl dX4_pass_50 ?_
        obtain ⟨M12, hc11, h⟩ := nq_bE h
        refine nq_callVv hX (tX4_receive hL hc11) gX4_pass_X4_receive rfl rfl dsX4_receive (by decide) (nq_Standing_0 hL) rfl rfl (Nat.le_of_ble_eq_true rfl) dX4_pass_51 ?_
        refine nq_aload_n hX rfl 1 rfl dX4_pass_54 ?_
        refine nq_dup hX rfl dX4_pass_55 ?_
        obtain ⟨v13, e13, h⟩ := nq_ltE h
        refine nq_geti hX inX4_pass_4 (nq_Standing_0 hL) rfl 6 (by decide) lkX4_pass_32 rfl e13 dX4_pass_56 ?_
        refine nq_iconst hX (v := 1) (by decide) dX4_pass_59 ?_
        refine nq_iadd hX dX4_pass_60 ?_
        obtain ⟨M14, eM14, h⟩ := nq_ltE h
        refine nq_puti hX inX4_pass_4 tyX4 tyX4_ok nmX4 (nq_Standing_0 hL) rfl 6 (by decide) lkX4_pass_32 rfl rfl rfl rfl rfl eM14 dX4_pass_61 ?_
        refine nq_aload_n hX rfl 1 rfl dX4_pass_64 ?_
        obtain ⟨M16, hc15, h⟩ := nq_bE h
        refine nq_callVv hX (tX4_seek hL hc15) gX4_pass_X4_seek rfl rfl dsX4_seek (by decide) (nq_Standing_0 hL) rfl rfl (Nat.le_of_ble_eq_true rfl) dX4_pass_65 ?_
        obtain ⟨v17, e17, h⟩ := nq_ltE h
        refine nq_iinc hX (lv' := [(2, .int v17), (3, .int v8), (0, .ref (nq_ad E p)), (1, .int x1)]) (j := 3) rfl (e17.trans rfl) (by decide) rfl dX4_pass_68 ?_
        refine nq_goto hX (tgt := 7) (by decide) dX4_pass_71 ?_
        refine nq_sub (lv' := [(0, .ref (nq_ad E p)), (1, .int x1), (2, .int v17)]) [2, 3, 0] rfl ?_
        exact hc (v17, M16) (nq_sE h).symm
      · rw [if_neg c10] at h
        refine nq_goto hX (tgt := 74) (by decide) dX4_pass_46 ?_
        refine nq_sub (lv' := [(0, .ref (nq_ad E p)), (1, .int x1)]) [1, 2] rfl ?_
        exact he M (nq_sE h).symm
def fX4_pass_B76 (p : Nat) (q : Nat) (x1 : Int32) (x2 : Int32) (M : Mem) : Option ((Int32 × Mem) ⊕ (Mem)) :=
  if (80 : Int32) ≤ x2 then
  (some (.inr M))
  else
  ((fX4_hasSent p q M).bind fun v20 =>
  if v20 = 0 then
  (some (.inr M))
  else
  (nq_lt (M p 7) fun v22 =>
  (nq_ag (M (q + 5)) 80 v22).bind fun v23 =>
  if v23 ≤ x1 then
  (nq_lt (M p 7) fun v25 =>
  (fX4_say p q v25 x1 M).bind fun M27 =>
  nq_lt (M27 p 7) fun v28 =>
  nq_lt (nq_wr M27 p 7 (v28 + (1 : Int32))) fun M29 =>
  (fX4_seek p q M29).bind fun M31 =>
  nq_lt (x2 + (1 : Int32)) fun v32 =>
  some (.inl (v32, M31)))
  else
  (some (.inr M))))
set_option maxHeartbeats 4000000 in
theorem mX4_pass_B76 {X : Cx} {E : Ev} {l : Launch} {K : List Sh} {p : Nat} {q : Nat} {x1 : Int32} {x2 : Int32} {M : Mem} (hL : nq_atStanding E K p q) (hX : nq_OK X E l (nq_rm 4) cX4_pass 4 RX4 wsX4_pass) {x : (Int32 × Mem) ⊕ (Mem)} (hc : ∀ s' : Int32 × Mem, x = .inl s' → nq_G X E 4 76 [(0, .ref (nq_ad E p)), (1, .int x1), (2, .int s'.1)] [] K s'.2) (he : ∀ s' : Mem, x = .inr s' → nq_G X E 4 137 [] [] K s') (h : fX4_pass_B76 p q x1 x2 M = some x) : nq_G X E 4 76 [(0, .ref (nq_ad E p)), (1, .int x1), (2, .int x2)] [] K M := by
  unfold fX4_pass_B76 at h
  refine nq_iload_n hX rfl 2 rfl dX4_pass_76 ?_
  refine nq_bipush hX (v := 80) (by decide) dX4_pass_77 ?_
  refine nq_icmp_ge hX (tgt := 137) (by decide) dX4_pass_79 (fun c18 => ?_) (fun c18 => ?_)
  · rw [if_pos c18] at h
    refine nq_sub (lv' := []) [] rfl ?_
    exact he M (nq_sE h).symm
  · rw [if_neg c18] at h
    refine nq_aload_n hX rfl 0 rfl dX4_pass_82 ?_
    obtain ⟨v20, hc19, h⟩ := nq_bE h
    refine nq_callVi hX (tX4_hasSent hL hc19) gX4_pass_X4_hasSent rfl rfl dsX4_hasSent (by decide) (nq_Standing_0 hL) rfl rfl (Nat.le_of_ble_eq_true rfl) dX4_pass_83 ?_
    refine nq_if_eq hX (tgt := 137) (by decide) dX4_pass_86 (fun c21 => ?_) (fun c21 => ?_)
    · rw [if_pos c21] at h
      refine nq_sub (lv' := []) [] rfl ?_
      exact he M (nq_sE h).symm
    · rw [if_neg c21] at h
      refine nq_aload_n hX rfl 0 rfl dX4_pass_89 ?_
      refine nq_getr (v := .ref (nq_ad E q)) hX inX4_pass_4 (nq_Standing_0 hL) rfl 0 (by decide) lkX4_pass_9 _ rfl rfl dX4_pass_90 ?_
      refine nq_getr (v := .ref (nq_ad E (q + 5))) hX inX4_pass_0 (nq_Letters_0 (nq_Standing_letters hL)) rfl 5 (by decide) lkX4_pass_78 _ rfl rfl dX4_pass_93 ?_
      refine nq_aload_n hX rfl 0 rfl dX4_pass_96 ?_
      obtain ⟨v22, e22, h⟩ := nq_ltE h
      refine nq_geti hX inX4_pass_4 (nq_Standing_0 hL) rfl 7 (by decide) lkX4_pass_35 rfl e22 dX4_pass_97 ?_
      obtain ⟨v23, e23, hi23, h⟩ := nq_agE h
      refine nq_iald hX (nq_Letters_years (nq_Standing_letters hL)) e23 hi23 dX4_pass_100 ?_
      refine nq_iload_n hX rfl 1 rfl dX4_pass_101 ?_
      refine nq_icmp_le hX (tgt := 108) (by decide) dX4_pass_102 (fun c24 => ?_) (fun c24 => ?_)
      · rw [if_pos c24] at h
        refine nq_aload_n hX rfl 0 rfl dX4_pass_108 ?_
        refine nq_aload_n hX rfl 0 rfl dX4_pass_109 ?_
        obtain ⟨v25, e25, h⟩ := nq_ltE h
        refine nq_geti hX inX4_pass_4 (nq_Standing_0 hL) rfl 7 (by decide) lkX4_pass_35 rfl e25 dX4_pass_110 ?_
        refine nq_iload_n hX rfl 1 rfl dX4_pass_113 ?_
        obtain ⟨M27, hc26, h⟩ := nq_bE h
        refine nq_callVv hX (tX4_say hL hc26) gX4_pass_X4_say rfl rfl dsX4_say (by decide) (nq_Standing_0 hL) rfl rfl (Nat.le_of_ble_eq_true rfl) dX4_pass_114 ?_
        refine nq_aload_n hX rfl 0 rfl dX4_pass_117 ?_
        refine nq_dup hX rfl dX4_pass_118 ?_
        obtain ⟨v28, e28, h⟩ := nq_ltE h
        refine nq_geti hX inX4_pass_4 (nq_Standing_0 hL) rfl 7 (by decide) lkX4_pass_35 rfl e28 dX4_pass_119 ?_
        refine nq_iconst hX (v := 1) (by decide) dX4_pass_122 ?_
        refine nq_iadd hX dX4_pass_123 ?_
        obtain ⟨M29, eM29, h⟩ := nq_ltE h
        refine nq_puti hX inX4_pass_4 tyX4 tyX4_ok nmX4 (nq_Standing_0 hL) rfl 7 (by decide) lkX4_pass_35 rfl rfl rfl rfl rfl eM29 dX4_pass_124 ?_
        refine nq_aload_n hX rfl 0 rfl dX4_pass_127 ?_
        obtain ⟨M31, hc30, h⟩ := nq_bE h
        refine nq_callVv hX (tX4_seek hL hc30) gX4_pass_X4_seek rfl rfl dsX4_seek (by decide) (nq_Standing_0 hL) rfl rfl (Nat.le_of_ble_eq_true rfl) dX4_pass_128 ?_
        obtain ⟨v32, e32, h⟩ := nq_ltE h
        refine nq_iinc hX (lv' := [(2, .int v32), (0, .ref (nq_ad E p)), (1, .int x1)]) (j := 2) rfl (e32.trans rfl) (by decide) rfl dX4_pass_131 ?_
        refine nq_goto hX (tgt := 76) (by decide) dX4_pass_134 ?_
        refine nq_sub (lv' := [(0, .ref (nq_ad E p)), (1, .int x1), (2, .int v32)]) [1, 2, 0] rfl ?_
        exact hc (v32, M31) (nq_sE h).symm
      · rw [if_neg c24] at h
        refine nq_goto hX (tgt := 137) (by decide) dX4_pass_105 ?_
        refine nq_sub (lv' := []) [] rfl ?_
        exact he M (nq_sE h).symm
def fX4_pass_L137 (p : Nat) (q : Nat) (M : Mem) : Option (Mem) :=
  some M
set_option maxHeartbeats 4000000 in
theorem mX4_pass_L137 {X : Cx} {E : Ev} {l : Launch} {K : List Sh} {p : Nat} {q : Nat} {M : Mem} {M' : Mem} (hL : nq_atStanding E K p q) (hX : nq_OK X E l (nq_rm 4) cX4_pass 4 RX4 wsX4_pass) (hr : nq_RT X E none none K M') (h : fX4_pass_L137 p q M = some M') : nq_G X E 4 137 [] [] K M := by
  unfold fX4_pass_L137 at h
  obtain rfl := nq_sE1 h; exact nq_vret hX hr dX4_pass_137
def fX4_pass_L76 (p : Nat) (q : Nat) (x1 : Int32) (x2 : Int32) (M : Mem) : Option (Mem) :=
  (nq_lp (fun s : Int32 × Mem => fX4_pass_B76 p q x1 s.1 s.2) nq_fuel (x2, M)).bind (fun e => fX4_pass_L137 p q e)
set_option maxHeartbeats 4000000 in
theorem mX4_pass_L76 {X : Cx} {E : Ev} {l : Launch} {K : List Sh} {p : Nat} {q : Nat} {x1 : Int32} {x2 : Int32} {M : Mem} {M' : Mem} (hL : nq_atStanding E K p q) (hX : nq_OK X E l (nq_rm 4) cX4_pass 4 RX4 wsX4_pass) (hr : nq_RT X E none none K M') (h : fX4_pass_L76 p q x1 x2 M = some M') : nq_G X E 4 76 [(0, .ref (nq_ad E p)), (1, .int x1), (2, .int x2)] [] K M := by
  unfold fX4_pass_L76 at h
  obtain ⟨e, h1, h⟩ := nq_bE h
  have key : ∀ (ex : Mem), nq_lp (fun s : Int32 × Mem => fX4_pass_B76 p q x1 s.1 s.2) nq_fuel (x2, M) = some ex → (∀ e, ex = e → nq_G X E 4 137 [] [] K e) → nq_G X E 4 76 [(0, .ref (nq_ad E p)), (1, .int x1), (2, .int ((x2, M).1))] [] K (x2, M).2 := by
    intro ex h1 hE
    refine nq_lpE (P := fun s : Int32 × Mem => nq_G X E 4 76 [(0, .ref (nq_ad E p)), (1, .int x1), (2, .int s.1)] [] K s.2) (r := ex) ?_ nq_fuel (x2, M) h1
    intro s xx hx1 hc1 he1
    exact mX4_pass_B76 hL hX hc1 (fun e q => hE e (he1 _ q).symm) hx1
  refine key e h1 (fun e q => ?_)
  subst q
  exact mX4_pass_L137 hL hX hr h
def fX4_pass_L74 (p : Nat) (q : Nat) (x1 : Int32) (M : Mem) : Option (Mem) :=
  fX4_pass_L76 p q x1 (0 : Int32) M
set_option maxHeartbeats 4000000 in
theorem mX4_pass_L74 {X : Cx} {E : Ev} {l : Launch} {K : List Sh} {p : Nat} {q : Nat} {x1 : Int32} {M : Mem} {M' : Mem} (hL : nq_atStanding E K p q) (hX : nq_OK X E l (nq_rm 4) cX4_pass 4 RX4 wsX4_pass) (hr : nq_RT X E none none K M') (h : fX4_pass_L74 p q x1 M = some M') : nq_G X E 4 74 [(0, .ref (nq_ad E p)), (1, .int x1)] [] K M := by
  unfold fX4_pass_L74 at h
  refine nq_iconst hX (v := 0) (by decide) dX4_pass_74 ?_
  refine nq_istore_n hX (lv' := [(2, .int (0 : Int32)), (0, .ref (nq_ad E p)), (1, .int x1)]) rfl (by decide) rfl rfl dX4_pass_75 ?_
  refine nq_sub (lv' := [(0, .ref (nq_ad E p)), (1, .int x1), (2, .int (0 : Int32))]) [1, 2, 0] rfl ?_
  exact mX4_pass_L76 hL hX hr h
def fX4_pass_L7 (p : Nat) (q : Nat) (x1 : Int32) (x2 : Int32) (M : Mem) : Option (Mem) :=
  (nq_lp (fun s : Int32 × Mem => fX4_pass_B7 p q x1 s.1 s.2) nq_fuel (x2, M)).bind (fun e => fX4_pass_L74 p q x1 e)
set_option maxHeartbeats 4000000 in
theorem mX4_pass_L7 {X : Cx} {E : Ev} {l : Launch} {K : List Sh} {p : Nat} {q : Nat} {x1 : Int32} {x2 : Int32} {M : Mem} {M' : Mem} (hL : nq_atStanding E K p q) (hX : nq_OK X E l (nq_rm 4) cX4_pass 4 RX4 wsX4_pass) (hr : nq_RT X E none none K M') (h : fX4_pass_L7 p q x1 x2 M = some M') : nq_G X E 4 7 [(0, .ref (nq_ad E p)), (1, .int x1), (2, .int x2)] [] K M := by
  unfold fX4_pass_L7 at h
  obtain ⟨e, h1, h⟩ := nq_bE h
  have key : ∀ (ex : Mem), nq_lp (fun s : Int32 × Mem => fX4_pass_B7 p q x1 s.1 s.2) nq_fuel (x2, M) = some ex → (∀ e, ex = e → nq_G X E 4 74 [(0, .ref (nq_ad E p)), (1, .int x1)] [] K e) → nq_G X E 4 7 [(0, .ref (nq_ad E p)), (1, .int x1), (2, .int ((x2, M).1))] [] K (x2, M).2 := by
    intro ex h1 hE
    refine nq_lpE (P := fun s : Int32 × Mem => nq_G X E 4 7 [(0, .ref (nq_ad E p)), (1, .int x1), (2, .int s.1)] [] K s.2) (r := ex) ?_ nq_fuel (x2, M) h1
    intro s xx hx1 hc1 he1
    exact mX4_pass_B7 hL hX hc1 (fun e q => hE e (he1 _ q).symm) hx1
  refine key e h1 (fun e q => ?_)
  subst q
  exact mX4_pass_L74 hL hX hr h
def fX4_pass (p : Nat) (q : Nat) (x1 : Int32) (M : Mem) : Option (Mem) :=
  (fX4_endOver p q x1 M).bind fun M2 =>
  fX4_pass_L7 p q x1 (0 : Int32) M2
set_option maxHeartbeats 4000000 in
theorem mX4_pass {X : Cx} {E : Ev} {l : Launch} {K : List Sh} {p : Nat} {q : Nat} {x1 : Int32} {M : Mem} {M' : Mem} (hL : nq_atStanding E K p q) (hX : nq_OK X E l (nq_rm 4) cX4_pass 4 RX4 wsX4_pass) (hr : nq_RT X E none none K M') (h : fX4_pass p q x1 M = some M') : nq_G X E 4 0 [(0, .ref (nq_ad E p)), (1, .int x1)] [] K M := by
  unfold fX4_pass at h
  refine nq_aload_n hX rfl 0 rfl dX4_pass_0 ?_
  refine nq_iload_n hX rfl 1 rfl dX4_pass_1 ?_
  obtain ⟨M2, hc1, h⟩ := nq_bE h
  refine nq_callVv hX (tX4_endOver hL hc1) gX4_pass_X4_endOver rfl rfl dsX4_endOver (by decide) (nq_Standing_0 hL) rfl rfl (Nat.le_of_ble_eq_true rfl) dX4_pass_2 ?_
  refine nq_iconst hX (v := 0) (by decide) dX4_pass_5 ?_
  refine nq_istore_n hX (lv' := [(2, .int (0 : Int32)), (0, .ref (nq_ad E p)), (1, .int x1)]) rfl (by decide) rfl rfl dX4_pass_6 ?_
  refine nq_sub (lv' := [(0, .ref (nq_ad E p)), (1, .int x1), (2, .int (0 : Int32))]) [1, 2, 0] rfl ?_
  exact mX4_pass_L7 hL hX hr h
theorem dsX4_pass : yX4_pass.cls ≠ "java/lang/invoke/MethodHandle" ∧ yX4_pass.cls ≠ "java/lang/invoke/VarHandle" ∧ (parseMethodDescriptor yX4_pass.desc).map (fun d => d.parameters.length) = some 1 := by decide +kernel
theorem tX4_pass {l : Launch} {E : Ev} {K : List Sh} {p : Nat} {q : Nat} {x1 : Int32} {M : Mem} {M' : Mem} (hL : nq_atStanding E K p q) (h : fX4_pass p q x1 M = some M') : nq_MA l E yX4_pass wsX4_pass (nq_rm 4) [.ref (nq_ad E p), .int x1] K M none K M' :=
  nq_met (own := RX4) (cc := cX4_pass) (maxL := 4) (ret := none) (by decide) rfl rfl (Nat.le_of_ble_eq_true rfl) (fun X hX hr => mX4_pass hL hX hr h)

theorem inX4_standsIn_4 : ∀ w ∈ u_ws RX4 TX4 8, w ∈ wsX4_standsIn := by
  intro w h; unfold wsX4_standsIn; simp only [List.mem_cons, List.mem_append]; simp only [h, true_or, or_true]
theorem lkX4_standsIn_26 : Cond.fieldLink RX4 26 (TX4 4).1 (TX4 4).2.1 (TX4 4).2.2.1 ∈ wsX4_standsIn := by decide +kernel
def fX4_standsIn_B9 (p : Nat) (q : Nat) (x3 : Int32) (x4 : Int32) (M : Mem) : Option ((Int32 × Mem) ⊕ (Mem)) :=
  if (160 : Int32) < x4 then
  (some (.inr M))
  else
  ((fX4_nextYear p q M).bind fun v5 =>
  if v5 ≤ x3 then
  ((fX4_pass p q v5 M).bind fun M8 =>
  nq_lt (x4 + (1 : Int32)) fun v9 =>
  some (.inl (v9, M8)))
  else
  (some (.inr M)))
set_option maxHeartbeats 4000000 in
theorem mX4_standsIn_B9 {X : Cx} {E : Ev} {l : Launch} {K : List Sh} {p : Nat} {q : Nat} {x3 : Int32} {x4 : Int32} {M : Mem} (hL : nq_atStanding E K p q) (hX : nq_OK X E l (nq_rm 5) cX4_standsIn 6 RX4 wsX4_standsIn) {x : (Int32 × Mem) ⊕ (Mem)} (hc : ∀ s' : Int32 × Mem, x = .inl s' → nq_G X E 6 9 [(0, .ref (nq_ad E p)), (3, .int x3), (4, .int s'.1)] [] K s'.2) (he : ∀ s' : Mem, x = .inr s' → nq_G X E 6 44 [(0, .ref (nq_ad E p)), (3, .int x3)] [] K s') (h : fX4_standsIn_B9 p q x3 x4 M = some x) : nq_G X E 6 9 [(0, .ref (nq_ad E p)), (3, .int x3), (4, .int x4)] [] K M := by
  unfold fX4_standsIn_B9 at h
  refine nq_iload hX 2 rfl dX4_standsIn_9 ?_
  refine nq_sipush hX (v := 160) (by decide) dX4_standsIn_11 ?_
  refine nq_icmp_gt hX (tgt := 44) (by decide) dX4_standsIn_14 (fun c3 => ?_) (fun c3 => ?_)
  · rw [if_pos c3] at h
    refine nq_sub (lv' := [(0, .ref (nq_ad E p)), (3, .int x3)]) [0, 1] rfl ?_
    exact he M (nq_sE h).symm
  · rw [if_neg c3] at h
    refine nq_aload_n hX rfl 0 rfl dX4_standsIn_17 ?_
    obtain ⟨v5, hc4, h⟩ := nq_bE h
    refine nq_callVi hX (tX4_nextYear hL hc4) gX4_standsIn_X4_nextYear rfl rfl dsX4_nextYear (by decide) (nq_Standing_0 hL) rfl rfl (Nat.le_of_ble_eq_true rfl) dX4_standsIn_18 ?_
    refine nq_istore hX (lv' := [(5, .int v5), (0, .ref (nq_ad E p)), (3, .int x3), (4, .int x4)]) (by decide) rfl rfl dX4_standsIn_21 ?_
    refine nq_iload hX 0 rfl dX4_standsIn_23 ?_
    refine nq_iload_n hX rfl 2 rfl dX4_standsIn_25 ?_
    refine nq_icmp_le hX (tgt := 32) (by decide) dX4_standsIn_26 (fun c6 => ?_) (fun c6 => ?_)
    · rw [if_pos c6] at h
      refine nq_aload_n hX rfl 1 rfl dX4_standsIn_32 ?_
      refine nq_iload hX 0 rfl dX4_standsIn_33 ?_
      obtain ⟨M8, hc7, h⟩ := nq_bE h
      refine nq_callVv hX (tX4_pass hL hc7) gX4_standsIn_X4_pass rfl rfl dsX4_pass (by decide) (nq_Standing_0 hL) rfl rfl (Nat.le_of_ble_eq_true rfl) dX4_standsIn_35 ?_
      obtain ⟨v9, e9, h⟩ := nq_ltE h
      refine nq_iinc hX (lv' := [(4, .int v9), (5, .int v5), (0, .ref (nq_ad E p)), (3, .int x3)]) (j := 3) rfl (e9.trans rfl) (by decide) rfl dX4_standsIn_38 ?_
      refine nq_goto hX (tgt := 9) (by decide) dX4_standsIn_41 ?_
      refine nq_sub (lv' := [(0, .ref (nq_ad E p)), (3, .int x3), (4, .int v9)]) [2, 3, 0] rfl ?_
      exact hc (v9, M8) (nq_sE h).symm
    · rw [if_neg c6] at h
      refine nq_goto hX (tgt := 44) (by decide) dX4_standsIn_29 ?_
      refine nq_sub (lv' := [(0, .ref (nq_ad E p)), (3, .int x3)]) [1, 2] rfl ?_
      exact he M (nq_sE h).symm
def fX4_standsIn_L44 (p : Nat) (q : Nat) (x3 : Int32) (M : Mem) : Option (Int32 × Mem) :=
  (fX4_endOver p q x3 M).bind fun M11 =>
  nq_lt (M11 p 4) fun v12 =>
  some (v12, M11)
set_option maxHeartbeats 4000000 in
theorem mX4_standsIn_L44 {X : Cx} {E : Ev} {l : Launch} {K : List Sh} {p : Nat} {q : Nat} {x3 : Int32} {M : Mem} {r : Int32} {M' : Mem} (hL : nq_atStanding E K p q) (hX : nq_OK X E l (nq_rm 5) cX4_standsIn 6 RX4 wsX4_standsIn) (hr : nq_RT X E (some .int) (some (.int r)) K M') (h : fX4_standsIn_L44 p q x3 M = some (r, M')) : nq_G X E 6 44 [(0, .ref (nq_ad E p)), (3, .int x3)] [] K M := by
  unfold fX4_standsIn_L44 at h
  refine nq_aload_n hX rfl 0 rfl dX4_standsIn_44 ?_
  refine nq_iload_n hX rfl 1 rfl dX4_standsIn_45 ?_
  obtain ⟨M11, hc10, h⟩ := nq_bE h
  refine nq_callVv hX (tX4_endOver hL hc10) gX4_standsIn_X4_endOver rfl rfl dsX4_endOver (by decide) (nq_Standing_0 hL) rfl rfl (Nat.le_of_ble_eq_true rfl) dX4_standsIn_46 ?_
  refine nq_aload_n hX rfl 0 rfl dX4_standsIn_49 ?_
  obtain ⟨v12, e12, h⟩ := nq_ltE h
  refine nq_geti hX inX4_standsIn_4 (nq_Standing_0 hL) rfl 4 (by decide) lkX4_standsIn_26 rfl e12 dX4_standsIn_50 ?_
  obtain ⟨rfl, rfl⟩ := nq_sE2 h; exact nq_iret hX hr dX4_standsIn_53
def fX4_standsIn_L9 (p : Nat) (q : Nat) (x3 : Int32) (x4 : Int32) (M : Mem) : Option (Int32 × Mem) :=
  (nq_lp (fun s : Int32 × Mem => fX4_standsIn_B9 p q x3 s.1 s.2) nq_fuel (x4, M)).bind (fun e => fX4_standsIn_L44 p q x3 e)
set_option maxHeartbeats 4000000 in
theorem mX4_standsIn_L9 {X : Cx} {E : Ev} {l : Launch} {K : List Sh} {p : Nat} {q : Nat} {x3 : Int32} {x4 : Int32} {M : Mem} {r : Int32} {M' : Mem} (hL : nq_atStanding E K p q) (hX : nq_OK X E l (nq_rm 5) cX4_standsIn 6 RX4 wsX4_standsIn) (hr : nq_RT X E (some .int) (some (.int r)) K M') (h : fX4_standsIn_L9 p q x3 x4 M = some (r, M')) : nq_G X E 6 9 [(0, .ref (nq_ad E p)), (3, .int x3), (4, .int x4)] [] K M := by
  unfold fX4_standsIn_L9 at h
  obtain ⟨e, h1, h⟩ := nq_bE h
  have key : ∀ (ex : Mem), nq_lp (fun s : Int32 × Mem => fX4_standsIn_B9 p q x3 s.1 s.2) nq_fuel (x4, M) = some ex → (∀ e, ex = e → nq_G X E 6 44 [(0, .ref (nq_ad E p)), (3, .int x3)] [] K e) → nq_G X E 6 9 [(0, .ref (nq_ad E p)), (3, .int x3), (4, .int ((x4, M).1))] [] K (x4, M).2 := by
    intro ex h1 hE
    refine nq_lpE (P := fun s : Int32 × Mem => nq_G X E 6 9 [(0, .ref (nq_ad E p)), (3, .int x3), (4, .int s.1)] [] K s.2) (r := ex) ?_ nq_fuel (x4, M) h1
    intro s xx hx1 hc1 he1
    exact mX4_standsIn_B9 hL hX hc1 (fun e q => hE e (he1 _ q).symm) hx1
  refine key e h1 (fun e q => ?_)
  subst q
  exact mX4_standsIn_L44 hL hX hr h
def fX4_standsIn (p : Nat) (q : Nat) (x1 : Int32) (x2 : Int32) (x3 : Int32) (M : Mem) : Option (Int32 × Mem) :=
  (fX4_begin p q x1 x2 M).bind fun M2 =>
  fX4_standsIn_L9 p q x3 (0 : Int32) M2
set_option maxHeartbeats 4000000 in
theorem mX4_standsIn {X : Cx} {E : Ev} {l : Launch} {K : List Sh} {p : Nat} {q : Nat} {x1 : Int32} {x2 : Int32} {x3 : Int32} {M : Mem} {r : Int32} {M' : Mem} (hL : nq_atStanding E K p q) (hX : nq_OK X E l (nq_rm 5) cX4_standsIn 6 RX4 wsX4_standsIn) (hr : nq_RT X E (some .int) (some (.int r)) K M') (h : fX4_standsIn p q x1 x2 x3 M = some (r, M')) : nq_G X E 6 0 [(0, .ref (nq_ad E p)), (1, .int x1), (2, .int x2), (3, .int x3)] [] K M := by
  unfold fX4_standsIn at h
  refine nq_aload_n hX rfl 0 rfl dX4_standsIn_0 ?_
  refine nq_iload_n hX rfl 1 rfl dX4_standsIn_1 ?_
  refine nq_iload_n hX rfl 2 rfl dX4_standsIn_2 ?_
  obtain ⟨M2, hc1, h⟩ := nq_bE h
  refine nq_callVv hX (tX4_begin hL hc1) gX4_standsIn_X4_begin rfl rfl dsX4_begin (by decide) (nq_Standing_0 hL) rfl rfl (Nat.le_of_ble_eq_true rfl) dX4_standsIn_3 ?_
  refine nq_iconst hX (v := 0) (by decide) dX4_standsIn_6 ?_
  refine nq_istore hX (lv' := [(4, .int (0 : Int32)), (0, .ref (nq_ad E p)), (1, .int x1), (2, .int x2), (3, .int x3)]) (by decide) rfl rfl dX4_standsIn_7 ?_
  refine nq_sub (lv' := [(0, .ref (nq_ad E p)), (3, .int x3), (4, .int (0 : Int32))]) [1, 4, 0] rfl ?_
  exact mX4_standsIn_L9 hL hX hr h
theorem dsX4_standsIn : yX4_standsIn.cls ≠ "java/lang/invoke/MethodHandle" ∧ yX4_standsIn.cls ≠ "java/lang/invoke/VarHandle" ∧ (parseMethodDescriptor yX4_standsIn.desc).map (fun d => d.parameters.length) = some 3 := by decide +kernel
theorem tX4_standsIn {l : Launch} {E : Ev} {K : List Sh} {p : Nat} {q : Nat} {x1 : Int32} {x2 : Int32} {x3 : Int32} {M : Mem} {r : Int32} {M' : Mem} (hL : nq_atStanding E K p q) (h : fX4_standsIn p q x1 x2 x3 M = some (r, M')) : nq_MA l E yX4_standsIn wsX4_standsIn (nq_rm 5) [.ref (nq_ad E p), .int x1, .int x2, .int x3] K M (some (.int r)) K M' :=
  nq_met (own := RX4) (cc := cX4_standsIn) (maxL := 6) (ret := (some .int)) (by decide) rfl rfl (Nat.le_of_ble_eq_true rfl) (fun X hX hr => mX4_standsIn hL hX hr h)

theorem inX4_isBound_4 : ∀ w ∈ u_ws RX4 TX4 8, w ∈ wsX4_isBound := by
  intro w h; unfold wsX4_isBound; simp only [List.mem_cons, List.mem_append]; simp only [h, true_or, or_true]
theorem lkX4_isBound_26 : Cond.fieldLink RX4 26 (TX4 4).1 (TX4 4).2.1 (TX4 4).2.2.1 ∈ wsX4_isBound := by decide +kernel
def fX4_isBound (p : Nat) (q : Nat) (M : Mem) : Option (Int32) :=
  nq_lt (M p 4) fun v1 =>
  if v1 < (2 : Int32) then
  (some (0 : Int32))
  else
  (some (1 : Int32))
set_option maxHeartbeats 4000000 in
theorem mX4_isBound {X : Cx} {E : Ev} {l : Launch} {K : List Sh} {p : Nat} {q : Nat} {M : Mem} {r : Int32} (hL : nq_atStanding E K p q) (hX : nq_OK X E l (nq_rm 1) cX4_isBound 1 RX4 wsX4_isBound) (hr : nq_RT X E (some .boolean) (some (.int r)) K M) (h : fX4_isBound p q M = some r) : nq_G X E 1 0 [(0, .ref (nq_ad E p))] [] K M := by
  unfold fX4_isBound at h
  refine nq_aload_n hX rfl 0 rfl dX4_isBound_0 ?_
  obtain ⟨v1, e1, h⟩ := nq_ltE h
  refine nq_geti hX inX4_isBound_4 (nq_Standing_0 hL) rfl 4 (by decide) lkX4_isBound_26 rfl e1 dX4_isBound_1 ?_
  refine nq_iconst hX (v := 2) (by decide) dX4_isBound_4 ?_
  refine nq_icmp_lt hX (tgt := 12) (by decide) dX4_isBound_5 (fun c2 => ?_) (fun c2 => ?_)
  · rw [if_pos c2] at h
    refine nq_iconst hX (v := 0) (by decide) dX4_isBound_12 ?_
    obtain rfl := nq_sE1 h; exact nq_zret hX hr rfl dX4_isBound_13
  · rw [if_neg c2] at h
    refine nq_iconst hX (v := 1) (by decide) dX4_isBound_8 ?_
    refine nq_goto hX (tgt := 13) (by decide) dX4_isBound_9 ?_
    obtain rfl := nq_sE1 h; exact nq_zret hX hr rfl dX4_isBound_13
theorem dsX4_isBound : yX4_isBound.cls ≠ "java/lang/invoke/MethodHandle" ∧ yX4_isBound.cls ≠ "java/lang/invoke/VarHandle" ∧ (parseMethodDescriptor yX4_isBound.desc).map (fun d => d.parameters.length) = some 0 := by decide +kernel
theorem tX4_isBound {l : Launch} {E : Ev} {K : List Sh} {p : Nat} {q : Nat} {M : Mem} {r : Int32} (hL : nq_atStanding E K p q) (h : fX4_isBound p q M = some r) : nq_MA l E yX4_isBound wsX4_isBound (nq_rm 1) [.ref (nq_ad E p)] K M (some (.int r)) K M :=
  nq_met (own := RX4) (cc := cX4_isBound) (maxL := 1) (ret := (some .boolean)) (by decide) rfl rfl (Nat.le_of_ble_eq_true rfl) (fun X hX hr => mX4_isBound hL hX hr h)

