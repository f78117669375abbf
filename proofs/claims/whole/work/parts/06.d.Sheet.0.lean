/-! printed by dec.py: Sheet 0 -/
theorem inX3_become_3 : ∀ w ∈ u_ws RX3 TX3 3, w ∈ wsX3_become := by
  intro w h; unfold wsX3_become; simp only [List.mem_cons, List.mem_append]; simp only [h, true_or, or_true]
theorem lkX3_become_9 : Cond.fieldLink RX3 9 (TX3 0).1 (TX3 0).2.1 (TX3 0).2.2.1 ∈ wsX3_become := by decide +kernel
theorem lkX3_become_15 : Cond.fieldLink RX3 15 (TX3 1).1 (TX3 1).2.1 (TX3 1).2.2.1 ∈ wsX3_become := by decide +kernel
theorem lkX3_become_18 : Cond.fieldLink RX3 18 (TX3 2).1 (TX3 2).2.1 (TX3 2).2.2.1 ∈ wsX3_become := by decide +kernel
def fX3_become (p : Nat) (x1 : Int32) (x2 : Int32) (M : Mem) : Option (Mem) :=
  nq_lt (nq_wr M p 0 x1) fun M1 =>
  nq_lt (nq_wr M1 p 1 x2) fun M2 =>
  (fJ7_fill_53178 (p + 1) 40 (0 : Int32) M2).bind fun M3 =>
  some M3
set_option maxHeartbeats 4000000 in
theorem mX3_become {X : Cx} {E : Ev} {l : Launch} {K : List Sh} {p : Nat} {x1 : Int32} {x2 : Int32} {M : Mem} {M' : Mem} (hL : nq_atSheet E K p) (hX : nq_OK X E l (nq_rm 2) cX3_become 3 RX3 wsX3_become) (hr : nq_RT X E none none K M') (h : fX3_become p x1 x2 M = some M') : nq_G X E 3 0 [(0, .ref (nq_ad E p)), (1, .int x1), (2, .int x2)] [] K M := by
  unfold fX3_become at h
  refine nq_aload_n hX rfl 0 rfl dX3_become_0 ?_
  refine nq_iload_n hX rfl 1 rfl dX3_become_1 ?_
  obtain ⟨M1, eM1, h⟩ := nq_ltE h
  refine nq_puti hX inX3_become_3 tyX3 tyX3_ok nmX3 (nq_Sheet_0 hL) rfl 0 (by decide) lkX3_become_9 rfl rfl rfl rfl rfl eM1 dX3_become_2 ?_
  refine nq_aload_n hX rfl 0 rfl dX3_become_5 ?_
  refine nq_iload_n hX rfl 2 rfl dX3_become_6 ?_
  obtain ⟨M2, eM2, h⟩ := nq_ltE h
  refine nq_puti hX inX3_become_3 tyX3 tyX3_ok nmX3 (nq_Sheet_0 hL) rfl 1 (by decide) lkX3_become_15 rfl rfl rfl rfl rfl eM2 dX3_become_7 ?_
  refine nq_aload_n hX rfl 0 rfl dX3_become_10 ?_
  refine nq_getr (v := .ref (nq_ad E (p + 1))) hX inX3_become_3 (nq_Sheet_0 hL) rfl 2 (by decide) lkX3_become_18 _ rfl rfl dX3_become_11 ?_
  refine nq_iconst hX (v := 0) (by decide) dX3_become_14 ?_
  obtain ⟨M3, hc4, h⟩ := nq_bE h
  refine nq_callSXv hX (tJ7_fill_53178 (nq_Sheet_numbers hL) hc4) gX3_become_J7_fill_53178 rfl dsJ7_fill_53178 (by decide) rfl (Nat.le_of_ble_eq_true rfl) dX3_become_15 ?_
  obtain rfl := nq_sE1 h; exact nq_vret hX hr dX3_become_18
theorem dsX3_become : yX3_become.cls ≠ "java/lang/invoke/MethodHandle" ∧ yX3_become.cls ≠ "java/lang/invoke/VarHandle" ∧ (parseMethodDescriptor yX3_become.desc).map (fun d => d.parameters.length) = some 2 := by decide +kernel
theorem tX3_become {l : Launch} {E : Ev} {K : List Sh} {p : Nat} {x1 : Int32} {x2 : Int32} {M : Mem} {M' : Mem} (hL : nq_atSheet E K p) (h : fX3_become p x1 x2 M = some M') : nq_MA l E yX3_become wsX3_become (nq_rm 2) [.ref (nq_ad E p), .int x1, .int x2] K M none K M' :=
  nq_met (own := RX3) (cc := cX3_become) (maxL := 3) (ret := none) (by decide) rfl rfl (Nat.le_of_ble_eq_true rfl) (fun X hX hr => mX3_become hL hX hr h)

theorem inX3_cut_3 : ∀ w ∈ u_ws RX3 TX3 3, w ∈ wsX3_cut := by
  intro w h; unfold wsX3_cut; simp only [List.mem_cons, List.mem_append]; simp only [h, true_or, or_true]
theorem lkX3_cut_9 : Cond.fieldLink RX3 9 (TX3 0).1 (TX3 0).2.1 (TX3 0).2.2.1 ∈ wsX3_cut := by decide +kernel
def fX3_cut (p : Nat) (x1 : Int32) (M : Mem) : Option (Int32) :=
  nq_lt (M p 0) fun v1 =>
  if v1 = (8 : Int32) then
  (some x1.toInt8.toInt32)
  else
  (nq_lt (M p 0) fun v3 =>
  if v3 = (16 : Int32) then
  (some x1.toInt16.toInt32)
  else
  (some x1))
set_option maxHeartbeats 4000000 in
theorem mX3_cut {X : Cx} {E : Ev} {l : Launch} {K : List Sh} {p : Nat} {x1 : Int32} {M : Mem} {r : Int32} (hL : nq_atSheet E K p) (hX : nq_OK X E l (nq_rm 1) cX3_cut 2 RX3 wsX3_cut) (hr : nq_RT X E (some .int) (some (.int r)) K M) (h : fX3_cut p x1 M = some r) : nq_G X E 2 0 [(0, .ref (nq_ad E p)), (1, .int x1)] [] K M := by
  unfold fX3_cut at h
  refine nq_aload_n hX rfl 0 rfl dX3_cut_0 ?_
  obtain ⟨v1, e1, h⟩ := nq_ltE h
  refine nq_geti hX inX3_cut_3 (nq_Sheet_0 hL) rfl 0 (by decide) lkX3_cut_9 rfl e1 dX3_cut_1 ?_
  refine nq_bipush hX (v := 8) (by decide) dX3_cut_4 ?_
  refine nq_icmp_ne hX (tgt := 14) (by decide) dX3_cut_6 (fun c2 => ?_) (fun c2 => ?_)
  · rw [if_pos c2] at h
    refine nq_iload_n hX rfl 1 rfl dX3_cut_9 ?_
    refine nq_i2b hX dX3_cut_10 ?_
    refine nq_goto hX (tgt := 29) (by decide) dX3_cut_11 ?_
    obtain rfl := nq_sE1 h; exact nq_iret hX hr dX3_cut_29
  · rw [if_neg c2] at h
    refine nq_aload_n hX rfl 0 rfl dX3_cut_14 ?_
    obtain ⟨v3, e3, h⟩ := nq_ltE h
    refine nq_geti hX inX3_cut_3 (nq_Sheet_0 hL) rfl 0 (by decide) lkX3_cut_9 rfl e3 dX3_cut_15 ?_
    refine nq_bipush hX (v := 16) (by decide) dX3_cut_18 ?_
    refine nq_icmp_ne hX (tgt := 28) (by decide) dX3_cut_20 (fun c4 => ?_) (fun c4 => ?_)
    · rw [if_pos c4] at h
      refine nq_iload_n hX rfl 1 rfl dX3_cut_23 ?_
      refine nq_i2s hX dX3_cut_24 ?_
      refine nq_goto hX (tgt := 29) (by decide) dX3_cut_25 ?_
      obtain rfl := nq_sE1 h; exact nq_iret hX hr dX3_cut_29
    · rw [if_neg c4] at h
      refine nq_iload_n hX rfl 1 rfl dX3_cut_28 ?_
      obtain rfl := nq_sE1 h; exact nq_iret hX hr dX3_cut_29
theorem dsX3_cut : yX3_cut.cls ≠ "java/lang/invoke/MethodHandle" ∧ yX3_cut.cls ≠ "java/lang/invoke/VarHandle" ∧ (parseMethodDescriptor yX3_cut.desc).map (fun d => d.parameters.length) = some 1 := by decide +kernel
theorem tX3_cut {l : Launch} {E : Ev} {K : List Sh} {p : Nat} {x1 : Int32} {M : Mem} {r : Int32} (hL : nq_atSheet E K p) (h : fX3_cut p x1 M = some r) : nq_MA l E yX3_cut wsX3_cut (nq_rm 1) [.ref (nq_ad E p), .int x1] K M (some (.int r)) K M :=
  nq_met (own := RX3) (cc := cX3_cut) (maxL := 2) (ret := (some .int)) (by decide) rfl rfl (Nat.le_of_ble_eq_true rfl) (fun X hX hr => mX3_cut hL hX hr h)

theorem inX3_holds_3 : ∀ w ∈ u_ws RX3 TX3 3, w ∈ wsX3_holds := by
  intro w h; unfold wsX3_holds; simp only [List.mem_cons, List.mem_append]; simp only [h, true_or, or_true]
theorem lkX3_holds_15 : Cond.fieldLink RX3 15 (TX3 1).1 (TX3 1).2.1 (TX3 1).2.2.1 ∈ wsX3_holds := by decide +kernel
def fX3_holds (p : Nat) (x1 : Int32) (x2 : Int32) (M : Mem) : Option (Int32) :=
  if x1 < 0 then
  (some (0 : Int32))
  else
  (if x2 < 0 then
  (some (0 : Int32))
  else
  (nq_lt (M p 1) fun v3 =>
  if v3 < x2 then
  (some (0 : Int32))
  else
  (nq_lt (M p 1) fun v5 =>
  if (v5 - x2) < x1 then
  (some (0 : Int32))
  else
  (some (1 : Int32)))))
set_option maxHeartbeats 4000000 in
theorem mX3_holds {X : Cx} {E : Ev} {l : Launch} {K : List Sh} {p : Nat} {x1 : Int32} {x2 : Int32} {M : Mem} {r : Int32} (hL : nq_atSheet E K p) (hX : nq_OK X E l (nq_rm 1) cX3_holds 3 RX3 wsX3_holds) (hr : nq_RT X E (some .boolean) (some (.int r)) K M) (h : fX3_holds p x1 x2 M = some r) : nq_G X E 3 0 [(0, .ref (nq_ad E p)), (1, .int x1), (2, .int x2)] [] K M := by
  unfold fX3_holds at h
  refine nq_iload_n hX rfl 1 rfl dX3_holds_0 ?_
  refine nq_if_lt hX (tgt := 30) (by decide) dX3_holds_1 (fun c1 => ?_) (fun c1 => ?_)
  · rw [if_pos c1] at h
    refine nq_iconst hX (v := 0) (by decide) dX3_holds_30 ?_
    obtain rfl := nq_sE1 h; exact nq_zret hX hr rfl dX3_holds_31
  · rw [if_neg c1] at h
    refine nq_iload_n hX rfl 2 rfl dX3_holds_4 ?_
    refine nq_if_lt hX (tgt := 30) (by decide) dX3_holds_5 (fun c2 => ?_) (fun c2 => ?_)
    · rw [if_pos c2] at h
      refine nq_iconst hX (v := 0) (by decide) dX3_holds_30 ?_
      obtain rfl := nq_sE1 h; exact nq_zret hX hr rfl dX3_holds_31
    · rw [if_neg c2] at h
      refine nq_iload_n hX rfl 2 rfl dX3_holds_8 ?_
      refine nq_aload_n hX rfl 0 rfl dX3_holds_9 ?_
      obtain ⟨v3, e3, h⟩ := nq_ltE h
      refine nq_geti hX inX3_holds_3 (nq_Sheet_0 hL) rfl 1 (by decide) lkX3_holds_15 rfl e3 dX3_holds_10 ?_
      refine nq_icmp_gt hX (tgt := 30) (by decide) dX3_holds_13 (fun c4 => ?_) (fun c4 => ?_)
      · rw [if_pos c4] at h
        refine nq_iconst hX (v := 0) (by decide) dX3_holds_30 ?_
        obtain rfl := nq_sE1 h; exact nq_zret hX hr rfl dX3_holds_31
      · rw [if_neg c4] at h
        refine nq_iload_n hX rfl 1 rfl dX3_holds_16 ?_
        refine nq_aload_n hX rfl 0 rfl dX3_holds_17 ?_
        obtain ⟨v5, e5, h⟩ := nq_ltE h
        refine nq_geti hX inX3_holds_3 (nq_Sheet_0 hL) rfl 1 (by decide) lkX3_holds_15 rfl e5 dX3_holds_18 ?_
        refine nq_iload_n hX rfl 2 rfl dX3_holds_21 ?_
        refine nq_isub hX dX3_holds_22 ?_
        refine nq_icmp_gt hX (tgt := 30) (by decide) dX3_holds_23 (fun c6 => ?_) (fun c6 => ?_)
        · rw [if_pos c6] at h
          refine nq_iconst hX (v := 0) (by decide) dX3_holds_30 ?_
          obtain rfl := nq_sE1 h; exact nq_zret hX hr rfl dX3_holds_31
        · rw [if_neg c6] at h
          refine nq_iconst hX (v := 1) (by decide) dX3_holds_26 ?_
          refine nq_goto hX (tgt := 31) (by decide) dX3_holds_27 ?_
          obtain rfl := nq_sE1 h; exact nq_zret hX hr rfl dX3_holds_31
theorem dsX3_holds : yX3_holds.cls ≠ "java/lang/invoke/MethodHandle" ∧ yX3_holds.cls ≠ "java/lang/invoke/VarHandle" ∧ (parseMethodDescriptor yX3_holds.desc).map (fun d => d.parameters.length) = some 2 := by decide +kernel
theorem tX3_holds {l : Launch} {E : Ev} {K : List Sh} {p : Nat} {x1 : Int32} {x2 : Int32} {M : Mem} {r : Int32} (hL : nq_atSheet E K p) (h : fX3_holds p x1 x2 M = some r) : nq_MA l E yX3_holds wsX3_holds (nq_rm 1) [.ref (nq_ad E p), .int x1, .int x2] K M (some (.int r)) K M :=
  nq_met (own := RX3) (cc := cX3_holds) (maxL := 3) (ret := (some .boolean)) (by decide) rfl rfl (Nat.le_of_ble_eq_true rfl) (fun X hX hr => mX3_holds hL hX hr h)

