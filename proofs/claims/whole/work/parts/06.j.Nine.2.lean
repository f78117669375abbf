/-! printed by dec.py: Nine 2 -/
theorem inX8_law_8 : ∀ w ∈ u_ws RX8 TX8 11, w ∈ wsX8_law := by
  intro w h; unfold wsX8_law; simp only [List.mem_cons, List.mem_append]; simp only [h, true_or, or_true]
theorem lkX8_law_16 : Cond.fieldLink RX8 16 (TX8 1).1 (TX8 1).2.1 (TX8 1).2.2.1 ∈ wsX8_law := by decide +kernel
theorem inX8_law_7 : ∀ w ∈ u_ws RX7 TX7 17, w ∈ wsX8_law := by
  intro w h; unfold wsX8_law; simp only [List.mem_cons, List.mem_append]; simp only [h, true_or, or_true]
theorem lkX8_law_207 : Cond.fieldLink RX8 207 (TX7 2).1 (TX7 2).2.1 (TX7 2).2.2.1 ∈ wsX8_law := by decide +kernel
theorem lkX8_law_50 : Cond.fieldLink RX8 50 (TX8 7).1 (TX8 7).2.1 (TX8 7).2.2.1 ∈ wsX8_law := by decide +kernel
theorem lkX8_law_53 : Cond.fieldLink RX8 53 (TX8 8).1 (TX8 8).2.1 (TX8 8).2.2.1 ∈ wsX8_law := by decide +kernel
def fX8_law (x1 : Int32) (x2 : Int32) (x3 : Int32) (M : Mem) : Option (Int32 × Mem) :=
  (fX8_isOutside x1 (0 : Int32) (7 : Int32) M).bind fun v2 =>
  if v2 = 0 then
  ((fX8_nameAll x2 x3 (0 : Int32) (0 : Int32) (0 : Int32) M).bind fun M5 =>
  (nq_ar 23 8 x1).bind fun q6 =>
  nq_b2 (fX5_reckon q6 82 83 M5) fun v8 M9 =>
  some (v8, M9))
  else
  (nq_b2 (fX8_refuse (1 : Int32) M) fun v11 M12 =>
  some (v11, M12))
set_option maxHeartbeats 4000000 in
theorem mX8_law {X : Cx} {E : Ev} {l : Launch} {K : List Sh} {x1 : Int32} {x2 : Int32} {x3 : Int32} {M : Mem} {r : Int32} {M' : Mem} (hL : nq_atNine E K) (hX : nq_OK X E l (nq_rm 3) cX8_law 4 RX8 wsX8_law) (hr : nq_RT X E (some .int) (some (.int r)) K M') (h : fX8_law x1 x2 x3 M = some (r, M')) : nq_G X E 4 0 [(0, .ref (nq_ad E 0)), (1, .int x1), (2, .int x2), (3, .int x3)] [] K M := by
  unfold fX8_law at h
  refine nq_iload_n hX rfl 1 rfl dX8_law_0 ?_
  refine nq_iconst hX (v := 0) (by decide) dX8_law_1 ?_
  refine nq_bipush hX (v := 7) (by decide) dX8_law_2 ?_
  obtain ⟨v2, hc1, h⟩ := nq_bE h
  refine nq_callSi hX (tX8_isOutside  hc1) gX8_law_X8_isOutside rfl rfl dsX8_isOutside (by decide) rfl (Nat.le_of_ble_eq_true rfl) dX8_law_4 ?_
  refine nq_if_eq hX (tgt := 16) (by decide) dX8_law_7 (fun c3 => ?_) (fun c3 => ?_)
  · rw [if_pos c3] at h
    refine nq_aload_n hX rfl 0 rfl dX8_law_16 ?_
    refine nq_iload_n hX rfl 2 rfl dX8_law_17 ?_
    refine nq_iload_n hX rfl 3 rfl dX8_law_18 ?_
    refine nq_iconst hX (v := 0) (by decide) dX8_law_19 ?_
    refine nq_iconst hX (v := 0) (by decide) dX8_law_20 ?_
    refine nq_iconst hX (v := 0) (by decide) dX8_law_21 ?_
    obtain ⟨M5, hc4, h⟩ := nq_bE h
    refine nq_callVv hX (tX8_nameAll hL hc4) gX8_law_X8_nameAll rfl rfl dsX8_nameAll (by decide) (nq_Nine_0 hL) rfl rfl (Nat.le_of_ble_eq_true rfl) dX8_law_22 ?_
    refine nq_aload_n hX rfl 0 rfl dX8_law_25 ?_
    refine nq_getr (v := .ref (nq_ad E 2)) hX inX8_law_8 (nq_Nine_0 hL) rfl 1 (by decide) lkX8_law_16 _ rfl rfl dX8_law_26 ?_
    refine nq_getr (v := .ref (nq_ad E 16)) hX inX8_law_7 (nq_World_0 (nq_Nine_world hL)) rfl 2 (by decide) lkX8_law_207 _ rfl rfl dX8_law_29 ?_
    refine nq_iload_n hX rfl 1 rfl dX8_law_32 ?_
    obtain ⟨q6, e6, hi6, h⟩ := nq_arE h
    have hq6 : nq_atText E K q6 := by rw [e6]; exact nq_World_textsT (nq_Nine_world hL) _ (nq_inLt hi6)
    refine nq_aald hX (q := q6) (nq_World_texts (nq_Nine_world hL)) rfl hi6 (by rw [e6]; exact nq_World_textsQ _ (nq_inLt hi6)) dX8_law_33 ?_
    refine nq_aload_n hX rfl 0 rfl dX8_law_34 ?_
    refine nq_getr (v := .ref (nq_ad E 82)) hX inX8_law_8 (nq_Nine_0 hL) rfl 7 (by decide) lkX8_law_50 _ rfl rfl dX8_law_35 ?_
    refine nq_aload_n hX rfl 0 rfl dX8_law_38 ?_
    refine nq_getr (v := .ref (nq_ad E 83)) hX inX8_law_8 (nq_Nine_0 hL) rfl 8 (by decide) lkX8_law_53 _ rfl rfl dX8_law_39 ?_
    obtain ⟨v8, M9, hc7, h⟩ := nq_b2E h
    refine nq_callVi hX (tX5_reckon hq6 (nq_Nine_names hL) (nq_Nine_stack hL) hc7) gX8_law_X5_reckon rfl rfl dsX5_reckon (by decide) (nq_Text_0 hq6) rfl rfl (Nat.le_of_ble_eq_true rfl) dX8_law_42 ?_
    obtain ⟨rfl, rfl⟩ := nq_sE2 h; exact nq_iret hX hr dX8_law_45
  · rw [if_neg c3] at h
    refine nq_aload_n hX rfl 0 rfl dX8_law_10 ?_
    refine nq_iconst hX (v := 1) (by decide) dX8_law_11 ?_
    obtain ⟨v11, M12, hc10, h⟩ := nq_b2E h
    refine nq_callVi hX (tX8_refuse hL hc10) gX8_law_X8_refuse rfl rfl dsX8_refuse (by decide) (nq_Nine_0 hL) rfl rfl (Nat.le_of_ble_eq_true rfl) dX8_law_12 ?_
    obtain ⟨rfl, rfl⟩ := nq_sE2 h; exact nq_iret hX hr dX8_law_15
theorem dsX8_law : yX8_law.cls ≠ "java/lang/invoke/MethodHandle" ∧ yX8_law.cls ≠ "java/lang/invoke/VarHandle" ∧ (parseMethodDescriptor yX8_law.desc).map (fun d => d.parameters.length) = some 3 := by decide +kernel
theorem tX8_law {l : Launch} {E : Ev} {K : List Sh} {x1 : Int32} {x2 : Int32} {x3 : Int32} {M : Mem} {r : Int32} {M' : Mem} (hL : nq_atNine E K) (h : fX8_law x1 x2 x3 M = some (r, M')) : nq_MA l E yX8_law wsX8_law (nq_rm 3) [.ref (nq_ad E 0), .int x1, .int x2, .int x3] K M (some (.int r)) K M' :=
  nq_met (own := RX8) (cc := cX8_law) (maxL := 4) (ret := (some .int)) (by decide) rfl rfl (Nat.le_of_ble_eq_true rfl) (fun X hX hr => mX8_law hL hX hr h)

theorem inX8_aim_8 : ∀ w ∈ u_ws RX8 TX8 11, w ∈ wsX8_aim := by
  intro w h; unfold wsX8_aim; simp only [List.mem_cons, List.mem_append]; simp only [h, true_or, or_true]
theorem lkX8_aim_16 : Cond.fieldLink RX8 16 (TX8 1).1 (TX8 1).2.1 (TX8 1).2.2.1 ∈ wsX8_aim := by decide +kernel
theorem inX8_aim_7 : ∀ w ∈ u_ws RX7 TX7 17, w ∈ wsX8_aim := by
  intro w h; unfold wsX8_aim; simp only [List.mem_cons, List.mem_append]; simp only [h, true_or, or_true]
theorem lkX8_aim_231 : Cond.fieldLink RX8 231 (TX7 4).1 (TX7 4).2.1 (TX7 4).2.2.1 ∈ wsX8_aim := by decide +kernel
def fX8_aim (x1 : Int32) (x2 : Int32) (M : Mem) : Option (Int32 × Mem) :=
  (fX8_isPlace x1 M).bind fun v2 =>
  if v2 = 0 then
  (nq_b2 (fX8_refuse (1 : Int32) M) fun v5 M6 =>
  some (v5, M6))
  else
  (if (-1 : Int32) ≤ x2 then
  (if x2 < 0 then
  ((nq_as M 18 6 x1 x2).bind fun M9 =>
  some ((1 : Int32), M9))
  else
  ((nq_dv x2 (10 : Int32)).bind fun v10 =>
  (fX8_areTwo x1 v10 M).bind fun v12 =>
  if v12 = 0 then
  (nq_b2 (fX8_refuse (1 : Int32) M) fun v15 M16 =>
  some (v15, M16))
  else
  ((nq_rem x2 (10 : Int32)).bind fun v17 =>
  (fX8_isPact v17 M).bind fun v19 =>
  if v19 = 0 then
  (nq_b2 (fX8_refuse (1 : Int32) M) fun v22 M23 =>
  some (v22, M23))
  else
  ((nq_as M 18 6 x1 x2).bind fun M24 =>
  some ((1 : Int32), M24)))))
  else
  (nq_b2 (fX8_refuse (1 : Int32) M) fun v26 M27 =>
  some (v26, M27)))
set_option maxHeartbeats 4000000 in
theorem mX8_aim {X : Cx} {E : Ev} {l : Launch} {K : List Sh} {x1 : Int32} {x2 : Int32} {M : Mem} {r : Int32} {M' : Mem} (hL : nq_atNine E K) (hX : nq_OK X E l (nq_rm 4) cX8_aim 3 RX8 wsX8_aim) (hr : nq_RT X E (some .int) (some (.int r)) K M') (h : fX8_aim x1 x2 M = some (r, M')) : nq_G X E 3 0 [(0, .ref (nq_ad E 0)), (1, .int x1), (2, .int x2)] [] K M := by
  unfold fX8_aim at h
  refine nq_aload_n hX rfl 0 rfl dX8_aim_0 ?_
  refine nq_iload_n hX rfl 1 rfl dX8_aim_1 ?_
  obtain ⟨v2, hc1, h⟩ := nq_bE h
  refine nq_callVi hX (tX8_isPlace hL hc1) gX8_aim_X8_isPlace rfl rfl dsX8_isPlace (by decide) (nq_Nine_0 hL) rfl rfl (Nat.le_of_ble_eq_true rfl) dX8_aim_2 ?_
  refine nq_if_eq hX (tgt := 13) (by decide) dX8_aim_5 (fun c3 => ?_) (fun c3 => ?_)
  · rw [if_pos c3] at h
    refine nq_aload_n hX rfl 0 rfl dX8_aim_13 ?_
    refine nq_iconst hX (v := 1) (by decide) dX8_aim_14 ?_
    obtain ⟨v5, M6, hc4, h⟩ := nq_b2E h
    refine nq_callVi hX (tX8_refuse hL hc4) gX8_aim_X8_refuse rfl rfl dsX8_refuse (by decide) (nq_Nine_0 hL) rfl rfl (Nat.le_of_ble_eq_true rfl) dX8_aim_15 ?_
    obtain ⟨rfl, rfl⟩ := nq_sE2 h; exact nq_iret hX hr dX8_aim_18
  · rw [if_neg c3] at h
    refine nq_iload_n hX rfl 2 rfl dX8_aim_8 ?_
    refine nq_iconst hX (v := -1) (by decide) dX8_aim_9 ?_
    refine nq_icmp_ge hX (tgt := 19) (by decide) dX8_aim_10 (fun c7 => ?_) (fun c7 => ?_)
    · rw [if_pos c7] at h
      refine nq_iload_n hX rfl 2 rfl dX8_aim_19 ?_
      refine nq_if_lt hX (tgt := 51) (by decide) dX8_aim_20 (fun c8 => ?_) (fun c8 => ?_)
      · rw [if_pos c8] at h
        refine nq_aload_n hX rfl 0 rfl dX8_aim_51 ?_
        refine nq_getr (v := .ref (nq_ad E 2)) hX inX8_aim_8 (nq_Nine_0 hL) rfl 1 (by decide) lkX8_aim_16 _ rfl rfl dX8_aim_52 ?_
        refine nq_getr (v := .ref (nq_ad E 18)) hX inX8_aim_7 (nq_World_0 (nq_Nine_world hL)) rfl 4 (by decide) lkX8_aim_231 _ rfl rfl dX8_aim_55 ?_
        refine nq_iload_n hX rfl 1 rfl dX8_aim_58 ?_
        refine nq_iload_n hX rfl 2 rfl dX8_aim_59 ?_
        obtain ⟨M9, e9, hi9, h⟩ := nq_asE h
        refine nq_iast hX (nq_World_aims (nq_Nine_world hL)) e9 hi9 dX8_aim_60 ?_
        refine nq_iconst hX (v := 1) (by decide) dX8_aim_61 ?_
        obtain ⟨rfl, rfl⟩ := nq_sE2 h; exact nq_iret hX hr dX8_aim_62
      · rw [if_neg c8] at h
        refine nq_aload_n hX rfl 0 rfl dX8_aim_23 ?_
        refine nq_iload_n hX rfl 1 rfl dX8_aim_24 ?_
        refine nq_iload_n hX rfl 2 rfl dX8_aim_25 ?_
        refine nq_bipush hX (v := 10) (by decide) dX8_aim_26 ?_
        obtain ⟨v10, e10, hn10, h⟩ := nq_ifE h
        refine nq_idiv hX hn10 e10 dX8_aim_28 ?_
        obtain ⟨v12, hc11, h⟩ := nq_bE h
        refine nq_callVi hX (tX8_areTwo hL hc11) gX8_aim_X8_areTwo rfl rfl dsX8_areTwo (by decide) (nq_Nine_0 hL) rfl rfl (Nat.le_of_ble_eq_true rfl) dX8_aim_29 ?_
        refine nq_if_eq hX (tgt := 45) (by decide) dX8_aim_32 (fun c13 => ?_) (fun c13 => ?_)
        · rw [if_pos c13] at h
          refine nq_aload_n hX rfl 0 rfl dX8_aim_45 ?_
          refine nq_iconst hX (v := 1) (by decide) dX8_aim_46 ?_
          obtain ⟨v15, M16, hc14, h⟩ := nq_b2E h
          refine nq_callVi hX (tX8_refuse hL hc14) gX8_aim_X8_refuse rfl rfl dsX8_refuse (by decide) (nq_Nine_0 hL) rfl rfl (Nat.le_of_ble_eq_true rfl) dX8_aim_47 ?_
          obtain ⟨rfl, rfl⟩ := nq_sE2 h; exact nq_iret hX hr dX8_aim_50
        · rw [if_neg c13] at h
          refine nq_iload_n hX rfl 2 rfl dX8_aim_35 ?_
          refine nq_bipush hX (v := 10) (by decide) dX8_aim_36 ?_
          obtain ⟨v17, e17, hn17, h⟩ := nq_ifE h
          refine nq_irem hX hn17 e17 dX8_aim_38 ?_
          obtain ⟨v19, hc18, h⟩ := nq_bE h
          refine nq_callSi hX (tX8_isPact  hc18) gX8_aim_X8_isPact rfl rfl dsX8_isPact (by decide) rfl (Nat.le_of_ble_eq_true rfl) dX8_aim_39 ?_
          refine nq_if_ne hX (tgt := 51) (by decide) dX8_aim_42 (fun c20 => ?_) (fun c20 => ?_)
          · rw [if_pos c20] at h
            refine nq_aload_n hX rfl 0 rfl dX8_aim_45 ?_
            refine nq_iconst hX (v := 1) (by decide) dX8_aim_46 ?_
            obtain ⟨v22, M23, hc21, h⟩ := nq_b2E h
            refine nq_callVi hX (tX8_refuse hL hc21) gX8_aim_X8_refuse rfl rfl dsX8_refuse (by decide) (nq_Nine_0 hL) rfl rfl (Nat.le_of_ble_eq_true rfl) dX8_aim_47 ?_
            obtain ⟨rfl, rfl⟩ := nq_sE2 h; exact nq_iret hX hr dX8_aim_50
          · rw [if_neg c20] at h
            refine nq_aload_n hX rfl 0 rfl dX8_aim_51 ?_
            refine nq_getr (v := .ref (nq_ad E 2)) hX inX8_aim_8 (nq_Nine_0 hL) rfl 1 (by decide) lkX8_aim_16 _ rfl rfl dX8_aim_52 ?_
            refine nq_getr (v := .ref (nq_ad E 18)) hX inX8_aim_7 (nq_World_0 (nq_Nine_world hL)) rfl 4 (by decide) lkX8_aim_231 _ rfl rfl dX8_aim_55 ?_
            refine nq_iload_n hX rfl 1 rfl dX8_aim_58 ?_
            refine nq_iload_n hX rfl 2 rfl dX8_aim_59 ?_
            obtain ⟨M24, e24, hi24, h⟩ := nq_asE h
            refine nq_iast hX (nq_World_aims (nq_Nine_world hL)) e24 hi24 dX8_aim_60 ?_
            refine nq_iconst hX (v := 1) (by decide) dX8_aim_61 ?_
            obtain ⟨rfl, rfl⟩ := nq_sE2 h; exact nq_iret hX hr dX8_aim_62
    · rw [if_neg c7] at h
      refine nq_aload_n hX rfl 0 rfl dX8_aim_13 ?_
      refine nq_iconst hX (v := 1) (by decide) dX8_aim_14 ?_
      obtain ⟨v26, M27, hc25, h⟩ := nq_b2E h
      refine nq_callVi hX (tX8_refuse hL hc25) gX8_aim_X8_refuse rfl rfl dsX8_refuse (by decide) (nq_Nine_0 hL) rfl rfl (Nat.le_of_ble_eq_true rfl) dX8_aim_15 ?_
      obtain ⟨rfl, rfl⟩ := nq_sE2 h; exact nq_iret hX hr dX8_aim_18
theorem dsX8_aim : yX8_aim.cls ≠ "java/lang/invoke/MethodHandle" ∧ yX8_aim.cls ≠ "java/lang/invoke/VarHandle" ∧ (parseMethodDescriptor yX8_aim.desc).map (fun d => d.parameters.length) = some 2 := by decide +kernel
theorem tX8_aim {l : Launch} {E : Ev} {K : List Sh} {x1 : Int32} {x2 : Int32} {M : Mem} {r : Int32} {M' : Mem} (hL : nq_atNine E K) (h : fX8_aim x1 x2 M = some (r, M')) : nq_MA l E yX8_aim wsX8_aim (nq_rm 4) [.ref (nq_ad E 0), .int x1, .int x2] K M (some (.int r)) K M' :=
  nq_met (own := RX8) (cc := cX8_aim) (maxL := 3) (ret := (some .int)) (by decide) rfl rfl (Nat.le_of_ble_eq_true rfl) (fun X hX hr => mX8_aim hL hX hr h)

theorem inX8_followOrder_8 : ∀ w ∈ u_ws RX8 TX8 11, w ∈ wsX8_followOrder := by
  intro w h; unfold wsX8_followOrder; simp only [List.mem_cons, List.mem_append]; simp only [h, true_or, or_true]
theorem lkX8_followOrder_16 : Cond.fieldLink RX8 16 (TX8 1).1 (TX8 1).2.1 (TX8 1).2.2.1 ∈ wsX8_followOrder := by decide +kernel
theorem inX8_followOrder_7 : ∀ w ∈ u_ws RX7 TX7 17, w ∈ wsX8_followOrder := by
  intro w h; unfold wsX8_followOrder; simp only [List.mem_cons, List.mem_append]; simp only [h, true_or, or_true]
theorem lkX8_followOrder_231 : Cond.fieldLink RX8 231 (TX7 4).1 (TX7 4).2.1 (TX7 4).2.2.1 ∈ wsX8_followOrder := by decide +kernel
theorem lkX8_followOrder_29 : Cond.fieldLink RX8 29 (TX7 1).1 (TX7 1).2.1 (TX7 1).2.2.1 ∈ wsX8_followOrder := by decide +kernel
theorem lkX8_followOrder_36 : Cond.fieldLink RX8 36 (TX8 4).1 (TX8 4).2.1 (TX8 4).2.2.1 ∈ wsX8_followOrder := by decide +kernel
theorem lkX8_followOrder_156 : Cond.fieldLink RX8 156 (TX7 9).1 (TX7 9).2.1 (TX7 9).2.2.1 ∈ wsX8_followOrder := by decide +kernel
theorem lkX8_followOrder_207 : Cond.fieldLink RX8 207 (TX7 2).1 (TX7 2).2.1 (TX7 2).2.2.1 ∈ wsX8_followOrder := by decide +kernel
theorem lkX8_followOrder_50 : Cond.fieldLink RX8 50 (TX8 7).1 (TX8 7).2.1 (TX8 7).2.2.1 ∈ wsX8_followOrder := by decide +kernel
theorem lkX8_followOrder_53 : Cond.fieldLink RX8 53 (TX8 8).1 (TX8 8).2.1 (TX8 8).2.2.1 ∈ wsX8_followOrder := by decide +kernel
def fX8_followOrder (x1 : Int32) (M : Mem) : Option (Mem) :=
  (nq_ag (M 18) 6 x1).bind fun v1 =>
  if 0 ≤ v1 then
  ((nq_dv v1 (10 : Int32)).bind fun v3 =>
  nq_lt ((((10 : Int32) * x1) + v3)) fun v4 =>
  (nq_rem v1 (10 : Int32)).bind fun v5 =>
  nq_lt (M 2 9) fun v6 =>
  nq_b2 (fX4_standsIn 76 6 x1 v5 v6 M) fun v8 M9 =>
  nq_lt (M9 2 9) fun v10 =>
  (fX0_arrived 6 x1 v5 v10 M9).bind fun v12 =>
  nq_lt (M9 2 9) fun v13 =>
  (fX0_latestKind 6 x1 v5 v13 M9).bind fun v15 =>
  nq_lt (M9 2 9) fun v16 =>
  (fX8_nameAll v8 v12 v15 v16 (0 : Int32) M9).bind fun M18 =>
  (nq_ar 23 8 x1).bind fun q19 =>
  nq_b2 (fX5_reckon q19 82 83 M18) fun v21 M22 =>
  if v21 = 0 then
  (some M22)
  else
  ((fX8_faultOfWord v21 v4 v5 M22).bind fun v25 =>
  if v25 = 0 then
  ((nq_dv v1 (10 : Int32)).bind fun v27 =>
  nq_b2 (fX7_send 2 v21 x1 v27 v5 M22) fun v29 M30 =>
  some M30)
  else
  (some M22)))
  else
  (some M)
set_option maxHeartbeats 4000000 in
theorem mX8_followOrder {X : Cx} {E : Ev} {l : Launch} {K : List Sh} {x1 : Int32} {M : Mem} {M' : Mem} (hL : nq_atNine E K) (hX : nq_OK X E l (nq_rm 6) cX8_followOrder 7 RX8 wsX8_followOrder) (hr : nq_RT X E none none K M') (h : fX8_followOrder x1 M = some M') : nq_G X E 7 0 [(0, .ref (nq_ad E 0)), (1, .int x1)] [] K M := by
  unfold fX8_followOrder at h
  refine nq_aload_n hX rfl 0 rfl dX8_followOrder_0 ?_
  refine nq_getr (v := .ref (nq_ad E 2)) hX inX8_followOrder_8 (nq_Nine_0 hL) rfl 1 (by decide) lkX8_followOrder_16 _ rfl rfl dX8_followOrder_1 ?_
  refine nq_getr (v := .ref (nq_ad E 18)) hX inX8_followOrder_7 (nq_World_0 (nq_Nine_world hL)) rfl 4 (by decide) lkX8_followOrder_231 _ rfl rfl dX8_followOrder_4 ?_
  refine nq_iload_n hX rfl 1 rfl dX8_followOrder_7 ?_
  obtain ⟨v1, e1, hi1, h⟩ := nq_agE h
  refine nq_iald hX (nq_World_aims (nq_Nine_world hL)) e1 hi1 dX8_followOrder_8 ?_
  refine nq_istore_n hX (lv' := [(2, .int v1), (0, .ref (nq_ad E 0)), (1, .int x1)]) rfl (by decide) rfl rfl dX8_followOrder_9 ?_
  refine nq_iload_n hX rfl 0 rfl dX8_followOrder_10 ?_
  refine nq_if_ge hX (tgt := 15) (by decide) dX8_followOrder_11 (fun c2 => ?_) (fun c2 => ?_)
  · rw [if_pos c2] at h
    refine nq_bipush hX (v := 10) (by decide) dX8_followOrder_15 ?_
    refine nq_iload_n hX rfl 2 rfl dX8_followOrder_17 ?_
    refine nq_imul hX dX8_followOrder_18 ?_
    refine nq_iload_n hX rfl 0 rfl dX8_followOrder_19 ?_
    refine nq_bipush hX (v := 10) (by decide) dX8_followOrder_20 ?_
    obtain ⟨v3, e3, hn3, h⟩ := nq_ifE h
    refine nq_idiv hX hn3 e3 dX8_followOrder_22 ?_
    refine nq_iadd hX dX8_followOrder_23 ?_
    obtain ⟨v4, e4, h⟩ := nq_ltE h
    refine nq_istore_n hX (lv' := [(3, .int v4), (2, .int v1), (0, .ref (nq_ad E 0)), (1, .int x1)]) rfl (by decide) e4 rfl dX8_followOrder_24 ?_
    refine nq_iload_n hX rfl 1 rfl dX8_followOrder_25 ?_
    refine nq_bipush hX (v := 10) (by decide) dX8_followOrder_26 ?_
    obtain ⟨v5, e5, hn5, h⟩ := nq_ifE h
    refine nq_irem hX hn5 e5 dX8_followOrder_28 ?_
    refine nq_istore hX (lv' := [(4, .int v5), (3, .int v4), (2, .int v1), (0, .ref (nq_ad E 0)), (1, .int x1)]) (by decide) rfl rfl dX8_followOrder_29 ?_
    refine nq_aload_n hX rfl 3 rfl dX8_followOrder_31 ?_
    refine nq_getr (v := .ref (nq_ad E 2)) hX inX8_followOrder_8 (nq_Nine_0 hL) rfl 1 (by decide) lkX8_followOrder_16 _ rfl rfl dX8_followOrder_32 ?_
    refine nq_getr (v := .ref (nq_ad E 6)) hX inX8_followOrder_7 (nq_World_0 (nq_Nine_world hL)) rfl 1 (by decide) lkX8_followOrder_29 _ rfl rfl dX8_followOrder_35 ?_
    refine nq_astore hX (lv' := [(5, .ref (nq_ad E 6)), (4, .int v5), (3, .int v4), (2, .int v1), (0, .ref (nq_ad E 0)), (1, .int x1)]) (by decide) rfl rfl dX8_followOrder_38 ?_
    refine nq_aload_n hX rfl 4 rfl dX8_followOrder_40 ?_
    refine nq_aload_n hX rfl 4 rfl dX8_followOrder_41 ?_
    refine nq_getr (v := .ref (nq_ad E 76)) hX inX8_followOrder_8 (nq_Nine_0 hL) rfl 4 (by decide) lkX8_followOrder_36 _ rfl rfl dX8_followOrder_42 ?_
    refine nq_iload_n hX rfl 5 rfl dX8_followOrder_45 ?_
    refine nq_iload hX 1 rfl dX8_followOrder_46 ?_
    refine nq_aload_n hX rfl 4 rfl dX8_followOrder_48 ?_
    refine nq_getr (v := .ref (nq_ad E 2)) hX inX8_followOrder_8 (nq_Nine_0 hL) rfl 1 (by decide) lkX8_followOrder_16 _ rfl rfl dX8_followOrder_49 ?_
    obtain ⟨v6, e6, h⟩ := nq_ltE h
    refine nq_geti hX inX8_followOrder_7 (nq_World_0 (nq_Nine_world hL)) rfl 9 (by decide) lkX8_followOrder_156 rfl e6 dX8_followOrder_52 ?_
    obtain ⟨v8, M9, hc7, h⟩ := nq_b2E h
    refine nq_callVi hX (tX4_standsIn (nq_Nine_standing hL) hc7) gX8_followOrder_X4_standsIn rfl rfl dsX4_standsIn (by decide) (nq_Standing_0 (nq_Nine_standing hL)) rfl rfl (Nat.le_of_ble_eq_true rfl) dX8_followOrder_55 ?_
    refine nq_aload hX 0 rfl dX8_followOrder_58 ?_
    refine nq_iload_n hX rfl 5 rfl dX8_followOrder_60 ?_
    refine nq_iload hX 1 rfl dX8_followOrder_61 ?_
    refine nq_aload_n hX rfl 4 rfl dX8_followOrder_63 ?_
    refine nq_getr (v := .ref (nq_ad E 2)) hX inX8_followOrder_8 (nq_Nine_0 hL) rfl 1 (by decide) lkX8_followOrder_16 _ rfl rfl dX8_followOrder_64 ?_
    obtain ⟨v10, e10, h⟩ := nq_ltE h
    refine nq_geti hX inX8_followOrder_7 (nq_World_0 (nq_Nine_world hL)) rfl 9 (by decide) lkX8_followOrder_156 rfl e10 dX8_followOrder_67 ?_
    obtain ⟨v12, hc11, h⟩ := nq_bE h
    refine nq_callVi hX (tX0_arrived (nq_World_letters (nq_Nine_world hL)) hc11) gX8_followOrder_X0_arrived rfl rfl dsX0_arrived (by decide) (nq_Letters_0 (nq_World_letters (nq_Nine_world hL))) rfl rfl (Nat.le_of_ble_eq_true rfl) dX8_followOrder_70 ?_
    refine nq_aload hX 0 rfl dX8_followOrder_73 ?_
    refine nq_iload_n hX rfl 5 rfl dX8_followOrder_75 ?_
    refine nq_iload hX 1 rfl dX8_followOrder_76 ?_
    refine nq_aload_n hX rfl 4 rfl dX8_followOrder_78 ?_
    refine nq_getr (v := .ref (nq_ad E 2)) hX inX8_followOrder_8 (nq_Nine_0 hL) rfl 1 (by decide) lkX8_followOrder_16 _ rfl rfl dX8_followOrder_79 ?_
    obtain ⟨v13, e13, h⟩ := nq_ltE h
    refine nq_geti hX inX8_followOrder_7 (nq_World_0 (nq_Nine_world hL)) rfl 9 (by decide) lkX8_followOrder_156 rfl e13 dX8_followOrder_82 ?_
    obtain ⟨v15, hc14, h⟩ := nq_bE h
    refine nq_callVi hX (tX0_latestKind (nq_World_letters (nq_Nine_world hL)) hc14) gX8_followOrder_X0_latestKind rfl rfl dsX0_latestKind (by decide) (nq_Letters_0 (nq_World_letters (nq_Nine_world hL))) rfl rfl (Nat.le_of_ble_eq_true rfl) dX8_followOrder_85 ?_
    refine nq_aload_n hX rfl 4 rfl dX8_followOrder_88 ?_
    refine nq_getr (v := .ref (nq_ad E 2)) hX inX8_followOrder_8 (nq_Nine_0 hL) rfl 1 (by decide) lkX8_followOrder_16 _ rfl rfl dX8_followOrder_89 ?_
    obtain ⟨v16, e16, h⟩ := nq_ltE h
    refine nq_geti hX inX8_followOrder_7 (nq_World_0 (nq_Nine_world hL)) rfl 9 (by decide) lkX8_followOrder_156 rfl e16 dX8_followOrder_92 ?_
    refine nq_iconst hX (v := 0) (by decide) dX8_followOrder_95 ?_
    obtain ⟨M18, hc17, h⟩ := nq_bE h
    refine nq_callVv hX (tX8_nameAll hL hc17) gX8_followOrder_X8_nameAll rfl rfl dsX8_nameAll (by decide) (nq_Nine_0 hL) rfl rfl (Nat.le_of_ble_eq_true rfl) dX8_followOrder_96 ?_
    refine nq_aload_n hX rfl 4 rfl dX8_followOrder_99 ?_
    refine nq_getr (v := .ref (nq_ad E 2)) hX inX8_followOrder_8 (nq_Nine_0 hL) rfl 1 (by decide) lkX8_followOrder_16 _ rfl rfl dX8_followOrder_100 ?_
    refine nq_getr (v := .ref (nq_ad E 16)) hX inX8_followOrder_7 (nq_World_0 (nq_Nine_world hL)) rfl 2 (by decide) lkX8_followOrder_207 _ rfl rfl dX8_followOrder_103 ?_
    refine nq_iload_n hX rfl 5 rfl dX8_followOrder_106 ?_
    obtain ⟨q19, e19, hi19, h⟩ := nq_arE h
    have hq19 : nq_atText E K q19 := by rw [e19]; exact nq_World_textsT (nq_Nine_world hL) _ (nq_inLt hi19)
    refine nq_aald hX (q := q19) (nq_World_texts (nq_Nine_world hL)) rfl hi19 (by rw [e19]; exact nq_World_textsQ _ (nq_inLt hi19)) dX8_followOrder_107 ?_
    refine nq_aload_n hX rfl 4 rfl dX8_followOrder_108 ?_
    refine nq_getr (v := .ref (nq_ad E 82)) hX inX8_followOrder_8 (nq_Nine_0 hL) rfl 7 (by decide) lkX8_followOrder_50 _ rfl rfl dX8_followOrder_109 ?_
    refine nq_aload_n hX rfl 4 rfl dX8_followOrder_112 ?_
    refine nq_getr (v := .ref (nq_ad E 83)) hX inX8_followOrder_8 (nq_Nine_0 hL) rfl 8 (by decide) lkX8_followOrder_53 _ rfl rfl dX8_followOrder_113 ?_
    obtain ⟨v21, M22, hc20, h⟩ := nq_b2E h
    refine nq_callVi hX (tX5_reckon hq19 (nq_Nine_names hL) (nq_Nine_stack hL) hc20) gX8_followOrder_X5_reckon rfl rfl dsX5_reckon (by decide) (nq_Text_0 hq19) rfl rfl (Nat.le_of_ble_eq_true rfl) dX8_followOrder_116 ?_
    refine nq_istore hX (lv' := [(6, .int v21), (5, .ref (nq_ad E 6)), (4, .int v5), (3, .int v4), (2, .int v1), (0, .ref (nq_ad E 0)), (1, .int x1)]) (by decide) rfl rfl dX8_followOrder_119 ?_
    refine nq_iload hX 0 rfl dX8_followOrder_121 ?_
    refine nq_if_eq hX (tgt := 155) (by decide) dX8_followOrder_123 (fun c23 => ?_) (fun c23 => ?_)
    · rw [if_pos c23] at h
      obtain rfl := nq_sE1 h; exact nq_vret hX hr dX8_followOrder_155
    · rw [if_neg c23] at h
      refine nq_aload_n hX rfl 5 rfl dX8_followOrder_126 ?_
      refine nq_iload hX 0 rfl dX8_followOrder_127 ?_
      refine nq_iload_n hX rfl 3 rfl dX8_followOrder_129 ?_
      refine nq_iload hX 2 rfl dX8_followOrder_130 ?_
      obtain ⟨v25, hc24, h⟩ := nq_bE h
      refine nq_callVi hX (tX8_faultOfWord hL hc24) gX8_followOrder_X8_faultOfWord rfl rfl dsX8_faultOfWord (by decide) (nq_Nine_0 hL) rfl rfl (Nat.le_of_ble_eq_true rfl) dX8_followOrder_132 ?_
      refine nq_if_ne hX (tgt := 155) (by decide) dX8_followOrder_135 (fun c26 => ?_) (fun c26 => ?_)
      · rw [if_pos c26] at h
        refine nq_aload_n hX rfl 5 rfl dX8_followOrder_138 ?_
        refine nq_getr (v := .ref (nq_ad E 2)) hX inX8_followOrder_8 (nq_Nine_0 hL) rfl 1 (by decide) lkX8_followOrder_16 _ rfl rfl dX8_followOrder_139 ?_
        refine nq_iload hX 0 rfl dX8_followOrder_142 ?_
        refine nq_iload_n hX rfl 6 rfl dX8_followOrder_144 ?_
        refine nq_iload_n hX rfl 4 rfl dX8_followOrder_145 ?_
        refine nq_bipush hX (v := 10) (by decide) dX8_followOrder_146 ?_
        obtain ⟨v27, e27, hn27, h⟩ := nq_ifE h
        refine nq_idiv hX hn27 e27 dX8_followOrder_148 ?_
        refine nq_iload hX 2 rfl dX8_followOrder_149 ?_
        obtain ⟨v29, M30, hc28, h⟩ := nq_b2E h
        refine nq_callVi hX (tX7_send (nq_Nine_world hL) hc28) gX8_followOrder_X7_send rfl rfl dsX7_send (by decide) (nq_World_0 (nq_Nine_world hL)) rfl rfl (Nat.le_of_ble_eq_true rfl) dX8_followOrder_151 ?_
        refine nq_pop hX rfl dX8_followOrder_154 ?_
        obtain rfl := nq_sE1 h; exact nq_vret hX hr dX8_followOrder_155
      · rw [if_neg c26] at h
        obtain rfl := nq_sE1 h; exact nq_vret hX hr dX8_followOrder_155
  · rw [if_neg c2] at h
    obtain rfl := nq_sE1 h; exact nq_vret hX hr dX8_followOrder_14
theorem dsX8_followOrder : yX8_followOrder.cls ≠ "java/lang/invoke/MethodHandle" ∧ yX8_followOrder.cls ≠ "java/lang/invoke/VarHandle" ∧ (parseMethodDescriptor yX8_followOrder.desc).map (fun d => d.parameters.length) = some 1 := by decide +kernel
theorem tX8_followOrder {l : Launch} {E : Ev} {K : List Sh} {x1 : Int32} {M : Mem} {M' : Mem} (hL : nq_atNine E K) (h : fX8_followOrder x1 M = some M') : nq_MA l E yX8_followOrder wsX8_followOrder (nq_rm 6) [.ref (nq_ad E 0), .int x1] K M none K M' :=
  nq_met (own := RX8) (cc := cX8_followOrder) (maxL := 7) (ret := none) (by decide) rfl rfl (Nat.le_of_ble_eq_true rfl) (fun X hX hr => mX8_followOrder hL hX hr h)

theorem inX8_live_8 : ∀ w ∈ u_ws RX8 TX8 11, w ∈ wsX8_live := by
  intro w h; unfold wsX8_live; simp only [List.mem_cons, List.mem_append]; simp only [h, true_or, or_true]
theorem lkX8_live_16 : Cond.fieldLink RX8 16 (TX8 1).1 (TX8 1).2.1 (TX8 1).2.2.1 ∈ wsX8_live := by decide +kernel
theorem inX8_live_7 : ∀ w ∈ u_ws RX7 TX7 17, w ∈ wsX8_live := by
  intro w h; unfold wsX8_live; simp only [List.mem_cons, List.mem_append]; simp only [h, true_or, or_true]
theorem lkX8_live_156 : Cond.fieldLink RX8 156 (TX7 9).1 (TX7 9).2.1 (TX7 9).2.2.1 ∈ wsX8_live := by decide +kernel
theorem lkX8_live_70 : Cond.fieldLink RX8 70 (TX7 0).1 (TX7 0).2.1 (TX7 0).2.2.1 ∈ wsX8_live := by decide +kernel
theorem inX8_live_2 : ∀ w ∈ u_ws RX2 TX2 3, w ∈ wsX8_live := by
  intro w h; unfold wsX8_live; simp only [List.mem_cons, List.mem_append]; simp only [h, true_or, or_true]
theorem lkX8_live_74 : Cond.fieldLink RX8 74 (TX2 0).1 (TX2 0).2.1 (TX2 0).2.2.1 ∈ wsX8_live := by decide +kernel
def fX8_live_B46_39 (x1 : Int32) (x2 : Int32) (x3 : Int32) (M : Mem) : Option ((Int32 × Mem) ⊕ (Mem)) :=
  nq_lt (M 3 0) fun v7 =>
  if v7 ≤ x3 then
  (some (.inr M))
  else
  ((fX8_followOrder x3 M).bind fun M10 =>
  nq_lt (x3 + (1 : Int32)) fun v11 =>
  some (.inl (v11, M10)))
set_option maxHeartbeats 4000000 in
theorem mX8_live_B46_39 {X : Cx} {E : Ev} {l : Launch} {K : List Sh} {x1 : Int32} {x2 : Int32} {x3 : Int32} {M : Mem} (hL : nq_atNine E K) (hX : nq_OK X E l (nq_rm 7) cX8_live 4 RX8 wsX8_live) {x : (Int32 × Mem) ⊕ (Mem)} (hc : ∀ s' : Int32 × Mem, x = .inl s' → nq_G X E 4 46 [(0, .ref (nq_ad E 0)), (1, .int x1), (2, .int x2), (3, .int s'.1)] [] K s'.2) (he : ∀ s' : Mem, x = .inr s' → nq_G X E 4 71 [(0, .ref (nq_ad E 0)), (1, .int x1), (2, .int x2)] [] K s') (h : fX8_live_B46_39 x1 x2 x3 M = some x) : nq_G X E 4 46 [(0, .ref (nq_ad E 0)), (1, .int x1), (2, .int x2), (3, .int x3)] [] K M := by
  unfold fX8_live_B46_39 at h
  refine nq_iload_n hX rfl 3 rfl dX8_live_46 ?_
  refine nq_aload_n hX rfl 0 rfl dX8_live_47 ?_
  refine nq_getr (v := .ref (nq_ad E 2)) hX inX8_live_8 (nq_Nine_0 hL) rfl 1 (by decide) lkX8_live_16 _ rfl rfl dX8_live_48 ?_
  refine nq_getr (v := .ref (nq_ad E 3)) hX inX8_live_7 (nq_World_0 (nq_Nine_world hL)) rfl 0 (by decide) lkX8_live_70 _ rfl rfl dX8_live_51 ?_
  obtain ⟨v7, e7, h⟩ := nq_ltE h
  refine nq_geti hX inX8_live_2 (nq_Roads_0 (nq_World_roads (nq_Nine_world hL))) rfl 0 (by decide) lkX8_live_74 rfl e7 dX8_live_54 ?_
  refine nq_icmp_ge hX (tgt := 71) (by decide) dX8_live_57 (fun c8 => ?_) (fun c8 => ?_)
  · rw [if_pos c8] at h
    refine nq_sub (lv' := [(0, .ref (nq_ad E 0)), (1, .int x1), (2, .int x2)]) [0, 1, 2] rfl ?_
    exact he M (nq_sE h).symm
  · rw [if_neg c8] at h
    refine nq_aload_n hX rfl 0 rfl dX8_live_60 ?_
    refine nq_iload_n hX rfl 3 rfl dX8_live_61 ?_
    obtain ⟨M10, hc9, h⟩ := nq_bE h
    refine nq_callVv hX (tX8_followOrder hL hc9) gX8_live_X8_followOrder rfl rfl dsX8_followOrder (by decide) (nq_Nine_0 hL) rfl rfl (Nat.le_of_ble_eq_true rfl) dX8_live_62 ?_
    obtain ⟨v11, e11, h⟩ := nq_ltE h
    refine nq_iinc hX (lv' := [(3, .int v11), (0, .ref (nq_ad E 0)), (1, .int x1), (2, .int x2)]) (j := 3) rfl (e11.trans rfl) (by decide) rfl dX8_live_65 ?_
    refine nq_goto hX (tgt := 46) (by decide) dX8_live_68 ?_
    refine nq_sub (lv' := [(0, .ref (nq_ad E 0)), (1, .int x1), (2, .int x2), (3, .int v11)]) [1, 2, 3, 0] rfl ?_
    exact hc (v11, M10) (nq_sE h).symm
def fX8_live_L71_39 (x1 : Int32) (x2 : Int32) (M : Mem) : Option ((Int32 × Mem) ⊕ (Mem)) :=
  nq_lt (M 2 9) fun v12 =>
  nq_lt (nq_wr M 2 9 (v12 + (1 : Int32))) fun M13 =>
  nq_lt (x2 + (1 : Int32)) fun v14 =>
  some (.inl (v14, M13))
set_option maxHeartbeats 4000000 in
theorem mX8_live_L71_39 {X : Cx} {E : Ev} {l : Launch} {K : List Sh} {x1 : Int32} {x2 : Int32} {M : Mem} (hL : nq_atNine E K) (hX : nq_OK X E l (nq_rm 7) cX8_live 4 RX8 wsX8_live) {x : (Int32 × Mem) ⊕ (Mem)} (hc : ∀ s' : Int32 × Mem, x = .inl s' → nq_G X E 4 39 [(0, .ref (nq_ad E 0)), (1, .int x1), (2, .int s'.1)] [] K s'.2) (he : ∀ s' : Mem, x = .inr s' → nq_G X E 4 90 [(0, .ref (nq_ad E 0))] [] K s') (h : fX8_live_L71_39 x1 x2 M = some x) : nq_G X E 4 71 [(0, .ref (nq_ad E 0)), (1, .int x1), (2, .int x2)] [] K M := by
  unfold fX8_live_L71_39 at h
  refine nq_aload_n hX rfl 0 rfl dX8_live_71 ?_
  refine nq_getr (v := .ref (nq_ad E 2)) hX inX8_live_8 (nq_Nine_0 hL) rfl 1 (by decide) lkX8_live_16 _ rfl rfl dX8_live_72 ?_
  refine nq_dup hX rfl dX8_live_75 ?_
  obtain ⟨v12, e12, h⟩ := nq_ltE h
  refine nq_geti hX inX8_live_7 (nq_World_0 (nq_Nine_world hL)) rfl 9 (by decide) lkX8_live_156 rfl e12 dX8_live_76 ?_
  refine nq_iconst hX (v := 1) (by decide) dX8_live_79 ?_
  refine nq_iadd hX dX8_live_80 ?_
  obtain ⟨M13, eM13, h⟩ := nq_ltE h
  refine nq_puti hX inX8_live_7 tyX7 tyX7_ok nmX7 (nq_World_0 (nq_Nine_world hL)) rfl 9 (by decide) lkX8_live_156 rfl rfl rfl rfl rfl eM13 dX8_live_81 ?_
  obtain ⟨v14, e14, h⟩ := nq_ltE h
  refine nq_iinc hX (lv' := [(2, .int v14), (0, .ref (nq_ad E 0)), (1, .int x1)]) (j := 2) rfl (e14.trans rfl) (by decide) rfl dX8_live_84 ?_
  refine nq_goto hX (tgt := 39) (by decide) dX8_live_87 ?_
  refine nq_sub (lv' := [(0, .ref (nq_ad E 0)), (1, .int x1), (2, .int v14)]) [1, 2, 0] rfl ?_
  exact hc (v14, M13) (nq_sE h).symm
def fX8_live_L46_39 (x1 : Int32) (x2 : Int32) (x3 : Int32) (M : Mem) : Option ((Int32 × Mem) ⊕ (Mem)) :=
  (nq_lp (fun s : Int32 × Mem => fX8_live_B46_39 x1 x2 s.1 s.2) nq_fuel (x3, M)).bind (fun e => fX8_live_L71_39 x1 x2 e)
set_option maxHeartbeats 4000000 in
theorem mX8_live_L46_39 {X : Cx} {E : Ev} {l : Launch} {K : List Sh} {x1 : Int32} {x2 : Int32} {x3 : Int32} {M : Mem} (hL : nq_atNine E K) (hX : nq_OK X E l (nq_rm 7) cX8_live 4 RX8 wsX8_live) {x : (Int32 × Mem) ⊕ (Mem)} (hc : ∀ s' : Int32 × Mem, x = .inl s' → nq_G X E 4 39 [(0, .ref (nq_ad E 0)), (1, .int x1), (2, .int s'.1)] [] K s'.2) (he : ∀ s' : Mem, x = .inr s' → nq_G X E 4 90 [(0, .ref (nq_ad E 0))] [] K s') (h : fX8_live_L46_39 x1 x2 x3 M = some x) : nq_G X E 4 46 [(0, .ref (nq_ad E 0)), (1, .int x1), (2, .int x2), (3, .int x3)] [] K M := by
  unfold fX8_live_L46_39 at h
  obtain ⟨e, h1, h⟩ := nq_bE h
  have key : ∀ (ex : Mem), nq_lp (fun s : Int32 × Mem => fX8_live_B46_39 x1 x2 s.1 s.2) nq_fuel (x3, M) = some ex → (∀ e, ex = e → nq_G X E 4 71 [(0, .ref (nq_ad E 0)), (1, .int x1), (2, .int x2)] [] K e) → nq_G X E 4 46 [(0, .ref (nq_ad E 0)), (1, .int x1), (2, .int x2), (3, .int ((x3, M).1))] [] K (x3, M).2 := by
    intro ex h1 hE
    refine nq_lpE (P := fun s : Int32 × Mem => nq_G X E 4 46 [(0, .ref (nq_ad E 0)), (1, .int x1), (2, .int x2), (3, .int s.1)] [] K s.2) (r := ex) ?_ nq_fuel (x3, M) h1
    intro s xx hx1 hc1 he1
    exact mX8_live_B46_39 hL hX hc1 (fun e q => hE e (he1 _ q).symm) hx1
  refine key e h1 (fun e q => ?_)
  subst q
  exact mX8_live_L71_39 hL hX hc he h
def fX8_live_B39 (x1 : Int32) (x2 : Int32) (M : Mem) : Option ((Int32 × Mem) ⊕ (Mem)) :=
  if x1 ≤ x2 then
  (some (.inr M))
  else
  (fX8_live_L46_39 x1 x2 (0 : Int32) M)
set_option maxHeartbeats 4000000 in
theorem mX8_live_B39 {X : Cx} {E : Ev} {l : Launch} {K : List Sh} {x1 : Int32} {x2 : Int32} {M : Mem} (hL : nq_atNine E K) (hX : nq_OK X E l (nq_rm 7) cX8_live 4 RX8 wsX8_live) {x : (Int32 × Mem) ⊕ (Mem)} (hc : ∀ s' : Int32 × Mem, x = .inl s' → nq_G X E 4 39 [(0, .ref (nq_ad E 0)), (1, .int x1), (2, .int s'.1)] [] K s'.2) (he : ∀ s' : Mem, x = .inr s' → nq_G X E 4 90 [(0, .ref (nq_ad E 0))] [] K s') (h : fX8_live_B39 x1 x2 M = some x) : nq_G X E 4 39 [(0, .ref (nq_ad E 0)), (1, .int x1), (2, .int x2)] [] K M := by
  unfold fX8_live_B39 at h
  refine nq_iload_n hX rfl 2 rfl dX8_live_39 ?_
  refine nq_iload_n hX rfl 1 rfl dX8_live_40 ?_
  refine nq_icmp_ge hX (tgt := 90) (by decide) dX8_live_41 (fun c6 => ?_) (fun c6 => ?_)
  · rw [if_pos c6] at h
    refine nq_sub (lv' := [(0, .ref (nq_ad E 0))]) [0] rfl ?_
    exact he M (nq_sE h).symm
  · rw [if_neg c6] at h
    refine nq_iconst hX (v := 0) (by decide) dX8_live_44 ?_
    refine nq_istore_n hX (lv' := [(3, .int (0 : Int32)), (0, .ref (nq_ad E 0)), (1, .int x1), (2, .int x2)]) rfl (by decide) rfl rfl dX8_live_45 ?_
    refine nq_sub (lv' := [(0, .ref (nq_ad E 0)), (1, .int x1), (2, .int x2), (3, .int (0 : Int32))]) [1, 2, 3, 0] rfl ?_
    exact mX8_live_L46_39 hL hX hc he h
def fX8_live_L90 (M : Mem) : Option (Int32 × Mem) :=
  nq_lt (M 2 9) fun v15 =>
  some (v15, M)
set_option maxHeartbeats 4000000 in
theorem mX8_live_L90 {X : Cx} {E : Ev} {l : Launch} {K : List Sh} {M : Mem} {r : Int32} {M' : Mem} (hL : nq_atNine E K) (hX : nq_OK X E l (nq_rm 7) cX8_live 4 RX8 wsX8_live) (hr : nq_RT X E (some .int) (some (.int r)) K M') (h : fX8_live_L90 M = some (r, M')) : nq_G X E 4 90 [(0, .ref (nq_ad E 0))] [] K M := by
  unfold fX8_live_L90 at h
  refine nq_aload_n hX rfl 0 rfl dX8_live_90 ?_
  refine nq_getr (v := .ref (nq_ad E 2)) hX inX8_live_8 (nq_Nine_0 hL) rfl 1 (by decide) lkX8_live_16 _ rfl rfl dX8_live_91 ?_
  obtain ⟨v15, e15, h⟩ := nq_ltE h
  refine nq_geti hX inX8_live_7 (nq_World_0 (nq_Nine_world hL)) rfl 9 (by decide) lkX8_live_156 rfl e15 dX8_live_94 ?_
  obtain ⟨rfl, rfl⟩ := nq_sE2 h; exact nq_iret hX hr dX8_live_97
def fX8_live_L39 (x1 : Int32) (x2 : Int32) (M : Mem) : Option (Int32 × Mem) :=
  (nq_lp (fun s : Int32 × Mem => fX8_live_B39 x1 s.1 s.2) nq_fuel (x2, M)).bind (fun e => fX8_live_L90 e)
set_option maxHeartbeats 4000000 in
theorem mX8_live_L39 {X : Cx} {E : Ev} {l : Launch} {K : List Sh} {x1 : Int32} {x2 : Int32} {M : Mem} {r : Int32} {M' : Mem} (hL : nq_atNine E K) (hX : nq_OK X E l (nq_rm 7) cX8_live 4 RX8 wsX8_live) (hr : nq_RT X E (some .int) (some (.int r)) K M') (h : fX8_live_L39 x1 x2 M = some (r, M')) : nq_G X E 4 39 [(0, .ref (nq_ad E 0)), (1, .int x1), (2, .int x2)] [] K M := by
  unfold fX8_live_L39 at h
  obtain ⟨e, h1, h⟩ := nq_bE h
  have key : ∀ (ex : Mem), nq_lp (fun s : Int32 × Mem => fX8_live_B39 x1 s.1 s.2) nq_fuel (x2, M) = some ex → (∀ e, ex = e → nq_G X E 4 90 [(0, .ref (nq_ad E 0))] [] K e) → nq_G X E 4 39 [(0, .ref (nq_ad E 0)), (1, .int x1), (2, .int ((x2, M).1))] [] K (x2, M).2 := by
    intro ex h1 hE
    refine nq_lpE (P := fun s : Int32 × Mem => nq_G X E 4 39 [(0, .ref (nq_ad E 0)), (1, .int x1), (2, .int s.1)] [] K s.2) (r := ex) ?_ nq_fuel (x2, M) h1
    intro s xx hx1 hc1 he1
    exact mX8_live_B39 hL hX hc1 (fun e q => hE e (he1 _ q).symm) hx1
  refine key e h1 (fun e q => ?_)
  subst q
  exact mX8_live_L90 hL hX hr h
def fX8_live (x1 : Int32) (M : Mem) : Option (Int32 × Mem) :=
  (fX8_isOutside x1 (1 : Int32) (50 : Int32) M).bind fun v2 =>
  if v2 = 0 then
  (nq_lt (M 2 9) fun v4 =>
  if (v4 + x1) ≤ (399 : Int32) then
  (fX8_live_L39 x1 (0 : Int32) M)
  else
  (nq_b2 (fX8_refuse (3 : Int32) M) fun v17 M18 =>
  some (v17, M18)))
  else
  (nq_b2 (fX8_refuse (1 : Int32) M) fun v20 M21 =>
  some (v20, M21))
set_option maxHeartbeats 4000000 in
theorem mX8_live {X : Cx} {E : Ev} {l : Launch} {K : List Sh} {x1 : Int32} {M : Mem} {r : Int32} {M' : Mem} (hL : nq_atNine E K) (hX : nq_OK X E l (nq_rm 7) cX8_live 4 RX8 wsX8_live) (hr : nq_RT X E (some .int) (some (.int r)) K M') (h : fX8_live x1 M = some (r, M')) : nq_G X E 4 0 [(0, .ref (nq_ad E 0)), (1, .int x1)] [] K M := by
  unfold fX8_live at h
  refine nq_iload_n hX rfl 1 rfl dX8_live_0 ?_
  refine nq_iconst hX (v := 1) (by decide) dX8_live_1 ?_
  refine nq_bipush hX (v := 50) (by decide) dX8_live_2 ?_
  obtain ⟨v2, hc1, h⟩ := nq_bE h
  refine nq_callSi hX (tX8_isOutside  hc1) gX8_live_X8_isOutside rfl rfl dsX8_isOutside (by decide) rfl (Nat.le_of_ble_eq_true rfl) dX8_live_4 ?_
  refine nq_if_eq hX (tgt := 16) (by decide) dX8_live_7 (fun c3 => ?_) (fun c3 => ?_)
  · rw [if_pos c3] at h
    refine nq_aload_n hX rfl 0 rfl dX8_live_16 ?_
    refine nq_getr (v := .ref (nq_ad E 2)) hX inX8_live_8 (nq_Nine_0 hL) rfl 1 (by decide) lkX8_live_16 _ rfl rfl dX8_live_17 ?_
    obtain ⟨v4, e4, h⟩ := nq_ltE h
    refine nq_geti hX inX8_live_7 (nq_World_0 (nq_Nine_world hL)) rfl 9 (by decide) lkX8_live_156 rfl e4 dX8_live_20 ?_
    refine nq_iload_n hX rfl 1 rfl dX8_live_23 ?_
    refine nq_iadd hX dX8_live_24 ?_
    refine nq_sipush hX (v := 399) (by decide) dX8_live_25 ?_
    refine nq_icmp_le hX (tgt := 37) (by decide) dX8_live_28 (fun c5 => ?_) (fun c5 => ?_)
    · rw [if_pos c5] at h
      refine nq_iconst hX (v := 0) (by decide) dX8_live_37 ?_
      refine nq_istore_n hX (lv' := [(2, .int (0 : Int32)), (0, .ref (nq_ad E 0)), (1, .int x1)]) rfl (by decide) rfl rfl dX8_live_38 ?_
      refine nq_sub (lv' := [(0, .ref (nq_ad E 0)), (1, .int x1), (2, .int (0 : Int32))]) [1, 2, 0] rfl ?_
      exact mX8_live_L39 hL hX hr h
    · rw [if_neg c5] at h
      refine nq_aload_n hX rfl 0 rfl dX8_live_31 ?_
      refine nq_iconst hX (v := 3) (by decide) dX8_live_32 ?_
      obtain ⟨v17, M18, hc16, h⟩ := nq_b2E h
      refine nq_callVi hX (tX8_refuse hL hc16) gX8_live_X8_refuse rfl rfl dsX8_refuse (by decide) (nq_Nine_0 hL) rfl rfl (Nat.le_of_ble_eq_true rfl) dX8_live_33 ?_
      obtain ⟨rfl, rfl⟩ := nq_sE2 h; exact nq_iret hX hr dX8_live_36
  · rw [if_neg c3] at h
    refine nq_aload_n hX rfl 0 rfl dX8_live_10 ?_
    refine nq_iconst hX (v := 1) (by decide) dX8_live_11 ?_
    obtain ⟨v20, M21, hc19, h⟩ := nq_b2E h
    refine nq_callVi hX (tX8_refuse hL hc19) gX8_live_X8_refuse rfl rfl dsX8_refuse (by decide) (nq_Nine_0 hL) rfl rfl (Nat.le_of_ble_eq_true rfl) dX8_live_12 ?_
    obtain ⟨rfl, rfl⟩ := nq_sE2 h; exact nq_iret hX hr dX8_live_15
theorem dsX8_live : yX8_live.cls ≠ "java/lang/invoke/MethodHandle" ∧ yX8_live.cls ≠ "java/lang/invoke/VarHandle" ∧ (parseMethodDescriptor yX8_live.desc).map (fun d => d.parameters.length) = some 1 := by decide +kernel
theorem tX8_live {l : Launch} {E : Ev} {K : List Sh} {x1 : Int32} {M : Mem} {r : Int32} {M' : Mem} (hL : nq_atNine E K) (h : fX8_live x1 M = some (r, M')) : nq_MA l E yX8_live wsX8_live (nq_rm 7) [.ref (nq_ad E 0), .int x1] K M (some (.int r)) K M' :=
  nq_met (own := RX8) (cc := cX8_live) (maxL := 4) (ret := (some .int)) (by decide) rfl rfl (Nat.le_of_ble_eq_true rfl) (fun X hX hr => mX8_live hL hX hr h)

theorem inX8_soon_8 : ∀ w ∈ u_ws RX8 TX8 11, w ∈ wsX8_soon := by
  intro w h; unfold wsX8_soon; simp only [List.mem_cons, List.mem_append]; simp only [h, true_or, or_true]
theorem lkX8_soon_16 : Cond.fieldLink RX8 16 (TX8 1).1 (TX8 1).2.1 (TX8 1).2.2.1 ∈ wsX8_soon := by decide +kernel
theorem inX8_soon_7 : ∀ w ∈ u_ws RX7 TX7 17, w ∈ wsX8_soon := by
  intro w h; unfold wsX8_soon; simp only [List.mem_cons, List.mem_append]; simp only [h, true_or, or_true]
theorem lkX8_soon_70 : Cond.fieldLink RX8 70 (TX7 0).1 (TX7 0).2.1 (TX7 0).2.2.1 ∈ wsX8_soon := by decide +kernel
theorem lkX8_soon_156 : Cond.fieldLink RX8 156 (TX7 9).1 (TX7 9).2.1 (TX7 9).2.2.1 ∈ wsX8_soon := by decide +kernel
def fX8_soon (x1 : Int32) (x2 : Int32) (x3 : Int32) (M : Mem) : Option (Int32 × Mem) :=
  (fX8_isPair x1 M).bind fun v2 =>
  if v2 = 0 then
  (nq_b2 (fX8_refuse (1 : Int32) M) fun v5 M6 =>
  some (v5, M6))
  else
  ((fX8_isOutside x2 (1 : Int32) (9 : Int32) M).bind fun v8 =>
  if v8 = 0 then
  ((fX8_isOutside x3 (0 : Int32) (9 : Int32) M).bind fun v11 =>
  if v11 = 0 then
  ((nq_dv x1 (10 : Int32)).bind fun v13 =>
  (nq_rem x1 (10 : Int32)).bind fun v14 =>
  (fX2_years 3 v13 v14 M).bind fun v16 =>
  nq_lt (M 2 9) fun v17 =>
  nq_lt (((v17 + (x2 * v16)) + x3)) fun v18 =>
  if v16 < 0 then
  (nq_b2 (fX8_refuse (2 : Int32) M) fun v21 M22 =>
  some (v21, M22))
  else
  (if v18 ≤ (399 : Int32) then
  (some (v18, M))
  else
  (nq_b2 (fX8_refuse (2 : Int32) M) fun v25 M26 =>
  some (v25, M26))))
  else
  (nq_b2 (fX8_refuse (1 : Int32) M) fun v28 M29 =>
  some (v28, M29)))
  else
  (nq_b2 (fX8_refuse (1 : Int32) M) fun v31 M32 =>
  some (v31, M32)))
set_option maxHeartbeats 4000000 in
theorem mX8_soon {X : Cx} {E : Ev} {l : Launch} {K : List Sh} {x1 : Int32} {x2 : Int32} {x3 : Int32} {M : Mem} {r : Int32} {M' : Mem} (hL : nq_atNine E K) (hX : nq_OK X E l (nq_rm 5) cX8_soon 6 RX8 wsX8_soon) (hr : nq_RT X E (some .int) (some (.int r)) K M') (h : fX8_soon x1 x2 x3 M = some (r, M')) : nq_G X E 6 0 [(0, .ref (nq_ad E 0)), (1, .int x1), (2, .int x2), (3, .int x3)] [] K M := by
  unfold fX8_soon at h
  refine nq_aload_n hX rfl 0 rfl dX8_soon_0 ?_
  refine nq_iload_n hX rfl 1 rfl dX8_soon_1 ?_
  obtain ⟨v2, hc1, h⟩ := nq_bE h
  refine nq_callVi hX (tX8_isPair hL hc1) gX8_soon_X8_isPair rfl rfl dsX8_isPair (by decide) (nq_Nine_0 hL) rfl rfl (Nat.le_of_ble_eq_true rfl) dX8_soon_2 ?_
  refine nq_if_eq hX (tgt := 28) (by decide) dX8_soon_5 (fun c3 => ?_) (fun c3 => ?_)
  · rw [if_pos c3] at h
    refine nq_aload_n hX rfl 0 rfl dX8_soon_28 ?_
    refine nq_iconst hX (v := 1) (by decide) dX8_soon_29 ?_
    obtain ⟨v5, M6, hc4, h⟩ := nq_b2E h
    refine nq_callVi hX (tX8_refuse hL hc4) gX8_soon_X8_refuse rfl rfl dsX8_refuse (by decide) (nq_Nine_0 hL) rfl rfl (Nat.le_of_ble_eq_true rfl) dX8_soon_30 ?_
    obtain ⟨rfl, rfl⟩ := nq_sE2 h; exact nq_iret hX hr dX8_soon_33
  · rw [if_neg c3] at h
    refine nq_iload_n hX rfl 2 rfl dX8_soon_8 ?_
    refine nq_iconst hX (v := 1) (by decide) dX8_soon_9 ?_
    refine nq_bipush hX (v := 9) (by decide) dX8_soon_10 ?_
    obtain ⟨v8, hc7, h⟩ := nq_bE h
    refine nq_callSi hX (tX8_isOutside  hc7) gX8_soon_X8_isOutside rfl rfl dsX8_isOutside (by decide) rfl (Nat.le_of_ble_eq_true rfl) dX8_soon_12 ?_
    refine nq_if_ne hX (tgt := 28) (by decide) dX8_soon_15 (fun c9 => ?_) (fun c9 => ?_)
    · rw [if_pos c9] at h
      refine nq_iload_n hX rfl 3 rfl dX8_soon_18 ?_
      refine nq_iconst hX (v := 0) (by decide) dX8_soon_19 ?_
      refine nq_bipush hX (v := 9) (by decide) dX8_soon_20 ?_
      obtain ⟨v11, hc10, h⟩ := nq_bE h
      refine nq_callSi hX (tX8_isOutside  hc10) gX8_soon_X8_isOutside rfl rfl dsX8_isOutside (by decide) rfl (Nat.le_of_ble_eq_true rfl) dX8_soon_22 ?_
      refine nq_if_eq hX (tgt := 34) (by decide) dX8_soon_25 (fun c12 => ?_) (fun c12 => ?_)
      · rw [if_pos c12] at h
        refine nq_aload_n hX rfl 0 rfl dX8_soon_34 ?_
        refine nq_getr (v := .ref (nq_ad E 2)) hX inX8_soon_8 (nq_Nine_0 hL) rfl 1 (by decide) lkX8_soon_16 _ rfl rfl dX8_soon_35 ?_
        refine nq_getr (v := .ref (nq_ad E 3)) hX inX8_soon_7 (nq_World_0 (nq_Nine_world hL)) rfl 0 (by decide) lkX8_soon_70 _ rfl rfl dX8_soon_38 ?_
        refine nq_iload_n hX rfl 1 rfl dX8_soon_41 ?_
        refine nq_bipush hX (v := 10) (by decide) dX8_soon_42 ?_
        obtain ⟨v13, e13, hn13, h⟩ := nq_ifE h
        refine nq_idiv hX hn13 e13 dX8_soon_44 ?_
        refine nq_iload_n hX rfl 1 rfl dX8_soon_45 ?_
        refine nq_bipush hX (v := 10) (by decide) dX8_soon_46 ?_
        obtain ⟨v14, e14, hn14, h⟩ := nq_ifE h
        refine nq_irem hX hn14 e14 dX8_soon_48 ?_
        obtain ⟨v16, hc15, h⟩ := nq_bE h
        refine nq_callVi hX (tX2_years (nq_World_roads (nq_Nine_world hL)) hc15) gX8_soon_X2_years rfl rfl dsX2_years (by decide) (nq_Roads_0 (nq_World_roads (nq_Nine_world hL))) rfl rfl (Nat.le_of_ble_eq_true rfl) dX8_soon_49 ?_
        refine nq_istore hX (lv' := [(4, .int v16), (0, .ref (nq_ad E 0)), (1, .int x1), (2, .int x2), (3, .int x3)]) (by decide) rfl rfl dX8_soon_52 ?_
        refine nq_aload_n hX rfl 1 rfl dX8_soon_54 ?_
        refine nq_getr (v := .ref (nq_ad E 2)) hX inX8_soon_8 (nq_Nine_0 hL) rfl 1 (by decide) lkX8_soon_16 _ rfl rfl dX8_soon_55 ?_
        obtain ⟨v17, e17, h⟩ := nq_ltE h
        refine nq_geti hX inX8_soon_7 (nq_World_0 (nq_Nine_world hL)) rfl 9 (by decide) lkX8_soon_156 rfl e17 dX8_soon_58 ?_
        refine nq_iload_n hX rfl 3 rfl dX8_soon_61 ?_
        refine nq_iload hX 0 rfl dX8_soon_62 ?_
        refine nq_imul hX dX8_soon_64 ?_
        refine nq_iadd hX dX8_soon_65 ?_
        refine nq_iload_n hX rfl 4 rfl dX8_soon_66 ?_
        refine nq_iadd hX dX8_soon_67 ?_
        obtain ⟨v18, e18, h⟩ := nq_ltE h
        refine nq_istore hX (lv' := [(5, .int v18), (4, .int v16), (0, .ref (nq_ad E 0)), (1, .int x1), (2, .int x2), (3, .int x3)]) (by decide) e18 rfl dX8_soon_68 ?_
        refine nq_iload hX 1 rfl dX8_soon_70 ?_
        refine nq_if_lt hX (tgt := 83) (by decide) dX8_soon_72 (fun c19 => ?_) (fun c19 => ?_)
        · rw [if_pos c19] at h
          refine nq_aload_n hX rfl 2 rfl dX8_soon_83 ?_
          refine nq_iconst hX (v := 2) (by decide) dX8_soon_84 ?_
          obtain ⟨v21, M22, hc20, h⟩ := nq_b2E h
          refine nq_callVi hX (tX8_refuse hL hc20) gX8_soon_X8_refuse rfl rfl dsX8_refuse (by decide) (nq_Nine_0 hL) rfl rfl (Nat.le_of_ble_eq_true rfl) dX8_soon_85 ?_
          refine nq_goto hX (tgt := 93) (by decide) dX8_soon_88 ?_
          obtain ⟨rfl, rfl⟩ := nq_sE2 h; exact nq_iret hX hr dX8_soon_93
        · rw [if_neg c19] at h
          refine nq_iload hX 0 rfl dX8_soon_75 ?_
          refine nq_sipush hX (v := 399) (by decide) dX8_soon_77 ?_
          refine nq_icmp_le hX (tgt := 91) (by decide) dX8_soon_80 (fun c23 => ?_) (fun c23 => ?_)
          · rw [if_pos c23] at h
            refine nq_iload hX 0 rfl dX8_soon_91 ?_
            obtain ⟨rfl, rfl⟩ := nq_sE2 h; exact nq_iret hX hr dX8_soon_93
          · rw [if_neg c23] at h
            refine nq_aload_n hX rfl 2 rfl dX8_soon_83 ?_
            refine nq_iconst hX (v := 2) (by decide) dX8_soon_84 ?_
            obtain ⟨v25, M26, hc24, h⟩ := nq_b2E h
            refine nq_callVi hX (tX8_refuse hL hc24) gX8_soon_X8_refuse rfl rfl dsX8_refuse (by decide) (nq_Nine_0 hL) rfl rfl (Nat.le_of_ble_eq_true rfl) dX8_soon_85 ?_
            refine nq_goto hX (tgt := 93) (by decide) dX8_soon_88 ?_
            obtain ⟨rfl, rfl⟩ := nq_sE2 h; exact nq_iret hX hr dX8_soon_93
      · rw [if_neg c12] at h
        refine nq_aload_n hX rfl 0 rfl dX8_soon_28 ?_
        refine nq_iconst hX (v := 1) (by decide) dX8_soon_29 ?_
        obtain ⟨v28, M29, hc27, h⟩ := nq_b2E h
        refine nq_callVi hX (tX8_refuse hL hc27) gX8_soon_X8_refuse rfl rfl dsX8_refuse (by decide) (nq_Nine_0 hL) rfl rfl (Nat.le_of_ble_eq_true rfl) dX8_soon_30 ?_
        obtain ⟨rfl, rfl⟩ := nq_sE2 h; exact nq_iret hX hr dX8_soon_33
    · rw [if_neg c9] at h
      refine nq_aload_n hX rfl 0 rfl dX8_soon_28 ?_
      refine nq_iconst hX (v := 1) (by decide) dX8_soon_29 ?_
      obtain ⟨v31, M32, hc30, h⟩ := nq_b2E h
      refine nq_callVi hX (tX8_refuse hL hc30) gX8_soon_X8_refuse rfl rfl dsX8_refuse (by decide) (nq_Nine_0 hL) rfl rfl (Nat.le_of_ble_eq_true rfl) dX8_soon_30 ?_
      obtain ⟨rfl, rfl⟩ := nq_sE2 h; exact nq_iret hX hr dX8_soon_33
theorem dsX8_soon : yX8_soon.cls ≠ "java/lang/invoke/MethodHandle" ∧ yX8_soon.cls ≠ "java/lang/invoke/VarHandle" ∧ (parseMethodDescriptor yX8_soon.desc).map (fun d => d.parameters.length) = some 3 := by decide +kernel
theorem tX8_soon {l : Launch} {E : Ev} {K : List Sh} {x1 : Int32} {x2 : Int32} {x3 : Int32} {M : Mem} {r : Int32} {M' : Mem} (hL : nq_atNine E K) (h : fX8_soon x1 x2 x3 M = some (r, M')) : nq_MA l E yX8_soon wsX8_soon (nq_rm 5) [.ref (nq_ad E 0), .int x1, .int x2, .int x3] K M (some (.int r)) K M' :=
  nq_met (own := RX8) (cc := cX8_soon) (maxL := 6) (ret := (some .int)) (by decide) rfl rfl (Nat.le_of_ble_eq_true rfl) (fun X hX hr => mX8_soon hL hX hr h)

def fX8_power_B5 (x0 : Int64) (x2 : Int32) (x3 : Int64) (x5 : Int32) (M : Mem) : Option ((Int64 × Int32) ⊕ (Int64)) :=
  if x2 ≤ x5 then
  (some (.inr x3))
  else
  (nq_lt ((x3 * x0)) fun v2 =>
  nq_lt (x5 + (1 : Int32)) fun v3 =>
  some (.inl (v2, v3)))
set_option maxHeartbeats 4000000 in
theorem mX8_power_B5 {X : Cx} {E : Ev} {l : Launch} {K : List Sh} {x0 : Int64} {x2 : Int32} {x3 : Int64} {x5 : Int32} {M : Mem}  (hX : nq_OK X E l (nq_rm 1) cX8_power 6 RX8 wsX8_power) {x : (Int64 × Int32) ⊕ (Int64)} (hc : ∀ s' : Int64 × Int32, x = .inl s' → nq_G X E 6 5 [(0, .long x0), (2, .int x2), (3, .long s'.1), (5, .int s'.2)] [] K M) (he : ∀ s' : Int64, x = .inr s' → nq_G X E 6 21 [(3, .long s')] [] K M) (h : fX8_power_B5 x0 x2 x3 x5 M = some x) : nq_G X E 6 5 [(0, .long x0), (2, .int x2), (3, .long x3), (5, .int x5)] [] K M := by
  unfold fX8_power_B5 at h
  refine nq_iload hX 3 rfl dX8_power_5 ?_
  refine nq_iload_n hX rfl 1 rfl dX8_power_7 ?_
  refine nq_icmp_ge hX (tgt := 21) (by decide) dX8_power_8 (fun c1 => ?_) (fun c1 => ?_)
  · rw [if_pos c1] at h
    refine nq_sub (lv' := [(3, .long x3)]) [2] rfl ?_
    exact he x3 (nq_sE h).symm
  · rw [if_neg c1] at h
    refine nq_lload_n hX rfl 2 rfl dX8_power_11 ?_
    refine nq_lload_n hX rfl 0 rfl dX8_power_12 ?_
    refine nq_lmul hX dX8_power_13 ?_
    obtain ⟨v2, e2, h⟩ := nq_ltE h
    refine nq_lstore_n hX (lv' := [(3, .long v2), (0, .long x0), (2, .int x2), (5, .int x5)]) rfl (by decide) e2 rfl dX8_power_14 ?_
    obtain ⟨v3, e3, h⟩ := nq_ltE h
    refine nq_iinc hX (lv' := [(5, .int v3), (3, .long v2), (0, .long x0), (2, .int x2)]) (j := 3) rfl (e3.trans rfl) (by decide) rfl dX8_power_15 ?_
    refine nq_goto hX (tgt := 5) (by decide) dX8_power_18 ?_
    refine nq_sub (lv' := [(0, .long x0), (2, .int x2), (3, .long v2), (5, .int v3)]) [2, 3, 1, 0] rfl ?_
    exact hc (v2, v3) (nq_sE h).symm
def fX8_power_L21 (x3 : Int64) (M : Mem) : Option (Int64) :=
  some x3
set_option maxHeartbeats 4000000 in
theorem mX8_power_L21 {X : Cx} {E : Ev} {l : Launch} {K : List Sh} {x3 : Int64} {M : Mem} {r : Int64}  (hX : nq_OK X E l (nq_rm 1) cX8_power 6 RX8 wsX8_power) (hr : nq_RT X E (some .long) (some (.long r)) K M) (h : fX8_power_L21 x3 M = some r) : nq_G X E 6 21 [(3, .long x3)] [] K M := by
  unfold fX8_power_L21 at h
  refine nq_lload_n hX rfl 0 rfl dX8_power_21 ?_
  obtain rfl := nq_sE1 h; exact nq_lret hX hr dX8_power_22
def fX8_power_L5 (x0 : Int64) (x2 : Int32) (x3 : Int64) (x5 : Int32) (M : Mem) : Option (Int64) :=
  (nq_lp (fun s : Int64 × Int32 => fX8_power_B5 x0 x2 s.1 s.2 M) nq_fuel (x3, x5)).bind (fun e => fX8_power_L21 e M)
set_option maxHeartbeats 4000000 in
theorem mX8_power_L5 {X : Cx} {E : Ev} {l : Launch} {K : List Sh} {x0 : Int64} {x2 : Int32} {x3 : Int64} {x5 : Int32} {M : Mem} {r : Int64}  (hX : nq_OK X E l (nq_rm 1) cX8_power 6 RX8 wsX8_power) (hr : nq_RT X E (some .long) (some (.long r)) K M) (h : fX8_power_L5 x0 x2 x3 x5 M = some r) : nq_G X E 6 5 [(0, .long x0), (2, .int x2), (3, .long x3), (5, .int x5)] [] K M := by
  unfold fX8_power_L5 at h
  obtain ⟨e, h1, h⟩ := nq_bE h
  have key : ∀ (ex : Int64), nq_lp (fun s : Int64 × Int32 => fX8_power_B5 x0 x2 s.1 s.2 M) nq_fuel (x3, x5) = some ex → (∀ e, ex = e → nq_G X E 6 21 [(3, .long e)] [] K M) → nq_G X E 6 5 [(0, .long x0), (2, .int x2), (3, .long ((x3, x5).1)), (5, .int ((x3, x5).2))] [] K M := by
    intro ex h1 hE
    refine nq_lpE (P := fun s : Int64 × Int32 => nq_G X E 6 5 [(0, .long x0), (2, .int x2), (3, .long s.1), (5, .int s.2)] [] K M) (r := ex) ?_ nq_fuel (x3, x5) h1
    intro s xx hx1 hc1 he1
    exact mX8_power_B5  hX hc1 (fun e q => hE e (he1 _ q).symm) hx1
  refine key e h1 (fun e q => ?_)
  subst q
  exact mX8_power_L21  hX hr h
def fX8_power (x0 : Int64) (x2 : Int32) (M : Mem) : Option (Int64) :=
  fX8_power_L5 x0 x2 (1 : Int64) (0 : Int32) M
set_option maxHeartbeats 4000000 in
theorem mX8_power {X : Cx} {E : Ev} {l : Launch} {K : List Sh} {x0 : Int64} {x2 : Int32} {M : Mem} {r : Int64}  (hX : nq_OK X E l (nq_rm 1) cX8_power 6 RX8 wsX8_power) (hr : nq_RT X E (some .long) (some (.long r)) K M) (h : fX8_power x0 x2 M = some r) : nq_G X E 6 0 [(0, .long x0), (2, .int x2)] [] K M := by
  unfold fX8_power at h
  refine nq_lconst hX (v := 1) (by decide) dX8_power_0 ?_
  refine nq_lstore_n hX (lv' := [(3, .long (1 : Int64)), (0, .long x0), (2, .int x2)]) rfl (by decide) rfl rfl dX8_power_1 ?_
  refine nq_iconst hX (v := 0) (by decide) dX8_power_2 ?_
  refine nq_istore hX (lv' := [(5, .int (0 : Int32)), (3, .long (1 : Int64)), (0, .long x0), (2, .int x2)]) (by decide) rfl rfl dX8_power_3 ?_
  refine nq_sub (lv' := [(0, .long x0), (2, .int x2), (3, .long (1 : Int64)), (5, .int (0 : Int32))]) [2, 3, 1, 0] rfl ?_
  exact mX8_power_L5  hX hr h
theorem dsX8_power : yX8_power.cls ≠ "java/lang/invoke/MethodHandle" ∧ yX8_power.cls ≠ "java/lang/invoke/VarHandle" ∧ (parseMethodDescriptor yX8_power.desc).map (fun d => d.parameters.length) = some 2 := by decide +kernel
theorem tX8_power {l : Launch} {E : Ev} {K : List Sh} {x0 : Int64} {x2 : Int32} {M : Mem} {r : Int64}  (h : fX8_power x0 x2 M = some r) : nq_MA l E yX8_power wsX8_power (nq_rm 1) [.long x0, .int x2] K M (some (.long r)) K M :=
  nq_met (own := RX8) (cc := cX8_power) (maxL := 6) (ret := (some .long)) (by decide) rfl rfl (Nat.le_of_ble_eq_true rfl) (fun X hX hr => mX8_power  hX hr h)

theorem mmX8_lowest_k356 : Cond.methodLink RX8 356 Lib.MathLoose.abs_long.x ∈ wsX8_lowest := by decide +kernel
theorem mmX8_lowest_stabsl : Cond.static Lib.MathLoose.abs_long.x ∈ wsX8_lowest := by decide +kernel
theorem mmX8_lowest_im : Cond.initialized "java/lang/Math" ∈ wsX8_lowest := by decide +kernel
theorem mmX8_lowest_cdabsl : Cond.code Lib.MathLoose.abs_long.x Lib.MathLoose.abs_long.code 2 (some .long) ∈ wsX8_lowest := by decide +kernel
theorem mmX8_lowest_k360 : Cond.methodLink RX8 360 Lib.MathLoose.max_long.x ∈ wsX8_lowest := by decide +kernel
theorem mmX8_lowest_stmaxl : Cond.static Lib.MathLoose.max_long.x ∈ wsX8_lowest := by decide +kernel
theorem mmX8_lowest_cdmaxl : Cond.code Lib.MathLoose.max_long.x Lib.MathLoose.max_long.code 4 (some .long) ∈ wsX8_lowest := by decide +kernel
def fX8_lowest_B9 (x0 : Int64) (x2 : Int64) (x4 : Int32) (x5 : Int64) (x7 : Int64) (x9 : Int32) (M : Mem) : Option ((Int64 × Int64 × Int32) ⊕ (Int64)) :=
  if (128 : Int32) ≤ x9 then
  (some (.inr x5))
  else
  (if (lg_cmp x7 (0 : Int64)) = 0 then
  (some (.inr x5))
  else
  ((nq_remL x5 x7).bind fun v3 =>
  nq_lt (x9 + (1 : Int32)) fun v4 =>
  some (.inl (x7, v3, v4))))
set_option maxHeartbeats 4000000 in
theorem mX8_lowest_B9 {X : Cx} {E : Ev} {l : Launch} {K : List Sh} {x0 : Int64} {x2 : Int64} {x4 : Int32} {x5 : Int64} {x7 : Int64} {x9 : Int32} {M : Mem}  (hX : nq_OK X E l (nq_rm 2) cX8_lowest 12 RX8 wsX8_lowest) {x : (Int64 × Int64 × Int32) ⊕ (Int64)} (hc : ∀ s' : Int64 × Int64 × Int32, x = .inl s' → nq_G X E 12 9 [(0, .long x0), (2, .long x2), (4, .int x4), (5, .long s'.1), (7, .long s'.2.1), (9, .int s'.2.2)] [] K M) (he : ∀ s' : Int64, x = .inr s' → nq_G X E 12 45 [(0, .long x0), (2, .long x2), (4, .int x4), (5, .long s')] [] K M) (h : fX8_lowest_B9 x0 x2 x4 x5 x7 x9 M = some x) : nq_G X E 12 9 [(0, .long x0), (2, .long x2), (4, .int x4), (5, .long x5), (7, .long x7), (9, .int x9)] [] K M := by
  unfold fX8_lowest_B9 at h
  refine nq_iload hX 5 rfl dX8_lowest_9 ?_
  refine nq_sipush hX (v := 128) (by decide) dX8_lowest_11 ?_
  refine nq_icmp_ge hX (tgt := 45) (by decide) dX8_lowest_14 (fun c1 => ?_) (fun c1 => ?_)
  · rw [if_pos c1] at h
    refine nq_sub (lv' := [(0, .long x0), (2, .long x2), (4, .int x4), (5, .long x5)]) [0, 1, 2, 3] rfl ?_
    exact he x5 (nq_sE h).symm
  · rw [if_neg c1] at h
    refine nq_lload hX 4 rfl dX8_lowest_17 ?_
    refine nq_lconst hX (v := 0) (by decide) dX8_lowest_19 ?_
    refine nq_lcmp hX dX8_lowest_20 ?_
    refine nq_if_eq hX (tgt := 45) (by decide) dX8_lowest_21 (fun c2 => ?_) (fun c2 => ?_)
    · rw [if_pos c2] at h
      refine nq_sub (lv' := [(0, .long x0), (2, .long x2), (4, .int x4), (5, .long x5)]) [0, 1, 2, 3] rfl ?_
      exact he x5 (nq_sE h).symm
    · rw [if_neg c2] at h
      refine nq_lload hX 3 rfl dX8_lowest_24 ?_
      refine nq_lload hX 4 rfl dX8_lowest_26 ?_
      obtain ⟨v3, e3, hn3, h⟩ := nq_ifE h
      refine nq_lrem hX hn3 e3 dX8_lowest_28 ?_
      refine nq_lstore hX (lv' := [(10, .long v3), (0, .long x0), (2, .long x2), (4, .int x4), (5, .long x5), (7, .long x7), (9, .int x9)]) (by decide) rfl rfl dX8_lowest_29 ?_
      refine nq_lload hX 5 rfl dX8_lowest_31 ?_
      refine nq_lstore hX (lv' := [(5, .long x7), (10, .long v3), (0, .long x0), (2, .long x2), (4, .int x4), (7, .long x7), (9, .int x9)]) (by decide) rfl rfl dX8_lowest_33 ?_
      refine nq_lload hX 1 rfl dX8_lowest_35 ?_
      refine nq_lstore hX (lv' := [(7, .long v3), (5, .long x7), (10, .long v3), (0, .long x0), (2, .long x2), (4, .int x4), (9, .int x9)]) (by decide) rfl rfl dX8_lowest_37 ?_
      obtain ⟨v4, e4, h⟩ := nq_ltE h
      refine nq_iinc hX (lv' := [(9, .int v4), (7, .long v3), (5, .long x7), (10, .long v3), (0, .long x0), (2, .long x2), (4, .int x4)]) (j := 6) rfl (e4.trans rfl) (by decide) rfl dX8_lowest_39 ?_
      refine nq_goto hX (tgt := 9) (by decide) dX8_lowest_42 ?_
      refine nq_sub (lv' := [(0, .long x0), (2, .long x2), (4, .int x4), (5, .long x7), (7, .long v3), (9, .int v4)]) [4, 5, 6, 2, 1, 0] rfl ?_
      exact hc (x7, v3, v4) (nq_sE h).symm
def fX8_lowest_L45 (x0 : Int64) (x2 : Int64) (x4 : Int32) (x5 : Int64) (M : Mem) : Option (Int64) :=
  nq_lt (if 0 < x5 then x5 else -x5) fun v5 =>
  nq_lt (if v5 < (1 : Int64) then (1 : Int64) else v5) fun v6 =>
  if x4 = 0 then
  ((nq_dvL x0 v6).bind fun v8 =>
  some v8)
  else
  ((nq_dvL x2 v6).bind fun v9 =>
  some v9)
set_option maxHeartbeats 4000000 in
theorem mX8_lowest_L45 {X : Cx} {E : Ev} {l : Launch} {K : List Sh} {x0 : Int64} {x2 : Int64} {x4 : Int32} {x5 : Int64} {M : Mem} {r : Int64}  (hX : nq_OK X E l (nq_rm 2) cX8_lowest 12 RX8 wsX8_lowest) (hr : nq_RT X E (some .long) (some (.long r)) K M) (h : fX8_lowest_L45 x0 x2 x4 x5 M = some r) : nq_G X E 12 45 [(0, .long x0), (2, .long x2), (4, .int x4), (5, .long x5)] [] K M := by
  unfold fX8_lowest_L45 at h
  refine nq_lconst hX (v := 1) (by decide) dX8_lowest_45 ?_
  refine nq_lload hX 3 rfl dX8_lowest_46 ?_
  refine nq_mabsl hX mmX8_lowest_k356 mmX8_lowest_stabsl mmX8_lowest_im mmX8_lowest_cdabsl (by decide) (Nat.le_of_ble_eq_true rfl) dX8_lowest_48 ?_
  obtain ⟨v5, e5, h⟩ := nq_ltE h
  rw [← e5]
  refine nq_mmaxl hX mmX8_lowest_k360 mmX8_lowest_stmaxl mmX8_lowest_im mmX8_lowest_cdmaxl (by decide) (Nat.le_of_ble_eq_true rfl) dX8_lowest_51 ?_
  obtain ⟨v6, e6, h⟩ := nq_ltE h
  rw [← e6]
  refine nq_lstore hX (lv' := [(9, .long v6), (0, .long x0), (2, .long x2), (4, .int x4), (5, .long x5)]) (by decide) rfl rfl dX8_lowest_54 ?_
  refine nq_iload hX 3 rfl dX8_lowest_56 ?_
  refine nq_if_ne hX (tgt := 65) (by decide) dX8_lowest_58 (fun c7 => ?_) (fun c7 => ?_)
  · rw [if_pos c7] at h
    refine nq_lload_n hX rfl 1 rfl dX8_lowest_61 ?_
    refine nq_goto hX (tgt := 66) (by decide) dX8_lowest_62 ?_
    refine nq_lload hX 0 rfl dX8_lowest_66 ?_
    obtain ⟨v8, e8, hn8, h⟩ := nq_ifE h
    refine nq_ldiv hX hn8 e8 dX8_lowest_68 ?_
    obtain rfl := nq_sE1 h; exact nq_lret hX hr dX8_lowest_69
  · rw [if_neg c7] at h
    refine nq_lload_n hX rfl 2 rfl dX8_lowest_65 ?_
    refine nq_lload hX 0 rfl dX8_lowest_66 ?_
    obtain ⟨v9, e9, hn9, h⟩ := nq_ifE h
    refine nq_ldiv hX hn9 e9 dX8_lowest_68 ?_
    obtain rfl := nq_sE1 h; exact nq_lret hX hr dX8_lowest_69
def fX8_lowest_L9 (x0 : Int64) (x2 : Int64) (x4 : Int32) (x5 : Int64) (x7 : Int64) (x9 : Int32) (M : Mem) : Option (Int64) :=
  (nq_lp (fun s : Int64 × Int64 × Int32 => fX8_lowest_B9 x0 x2 x4 s.1 s.2.1 s.2.2 M) nq_fuel (x5, x7, x9)).bind (fun e => fX8_lowest_L45 x0 x2 x4 e M)
set_option maxHeartbeats 4000000 in
theorem mX8_lowest_L9 {X : Cx} {E : Ev} {l : Launch} {K : List Sh} {x0 : Int64} {x2 : Int64} {x4 : Int32} {x5 : Int64} {x7 : Int64} {x9 : Int32} {M : Mem} {r : Int64}  (hX : nq_OK X E l (nq_rm 2) cX8_lowest 12 RX8 wsX8_lowest) (hr : nq_RT X E (some .long) (some (.long r)) K M) (h : fX8_lowest_L9 x0 x2 x4 x5 x7 x9 M = some r) : nq_G X E 12 9 [(0, .long x0), (2, .long x2), (4, .int x4), (5, .long x5), (7, .long x7), (9, .int x9)] [] K M := by
  unfold fX8_lowest_L9 at h
  obtain ⟨e, h1, h⟩ := nq_bE h
  have key : ∀ (ex : Int64), nq_lp (fun s : Int64 × Int64 × Int32 => fX8_lowest_B9 x0 x2 x4 s.1 s.2.1 s.2.2 M) nq_fuel (x5, x7, x9) = some ex → (∀ e, ex = e → nq_G X E 12 45 [(0, .long x0), (2, .long x2), (4, .int x4), (5, .long e)] [] K M) → nq_G X E 12 9 [(0, .long x0), (2, .long x2), (4, .int x4), (5, .long ((x5, x7, x9).1)), (7, .long ((x5, x7, x9).2.1)), (9, .int ((x5, x7, x9).2.2))] [] K M := by
    intro ex h1 hE
    refine nq_lpE (P := fun s : Int64 × Int64 × Int32 => nq_G X E 12 9 [(0, .long x0), (2, .long x2), (4, .int x4), (5, .long s.1), (7, .long s.2.1), (9, .int s.2.2)] [] K M) (r := ex) ?_ nq_fuel (x5, x7, x9) h1
    intro s xx hx1 hc1 he1
    exact mX8_lowest_B9  hX hc1 (fun e q => hE e (he1 _ q).symm) hx1
  refine key e h1 (fun e q => ?_)
  subst q
  exact mX8_lowest_L45  hX hr h
def fX8_lowest (x0 : Int64) (x2 : Int64) (x4 : Int32) (M : Mem) : Option (Int64) :=
  fX8_lowest_L9 x0 x2 x4 x2 x0 (0 : Int32) M
set_option maxHeartbeats 4000000 in
theorem mX8_lowest {X : Cx} {E : Ev} {l : Launch} {K : List Sh} {x0 : Int64} {x2 : Int64} {x4 : Int32} {M : Mem} {r : Int64}  (hX : nq_OK X E l (nq_rm 2) cX8_lowest 12 RX8 wsX8_lowest) (hr : nq_RT X E (some .long) (some (.long r)) K M) (h : fX8_lowest x0 x2 x4 M = some r) : nq_G X E 12 0 [(0, .long x0), (2, .long x2), (4, .int x4)] [] K M := by
  unfold fX8_lowest at h
  refine nq_lload_n hX rfl 1 rfl dX8_lowest_0 ?_
  refine nq_lstore hX (lv' := [(5, .long x2), (0, .long x0), (2, .long x2), (4, .int x4)]) (by decide) rfl rfl dX8_lowest_1 ?_
  refine nq_lload_n hX rfl 1 rfl dX8_lowest_3 ?_
  refine nq_lstore hX (lv' := [(7, .long x0), (5, .long x2), (0, .long x0), (2, .long x2), (4, .int x4)]) (by decide) rfl rfl dX8_lowest_4 ?_
  refine nq_iconst hX (v := 0) (by decide) dX8_lowest_6 ?_
  refine nq_istore hX (lv' := [(9, .int (0 : Int32)), (7, .long x0), (5, .long x2), (0, .long x0), (2, .long x2), (4, .int x4)]) (by decide) rfl rfl dX8_lowest_7 ?_
  refine nq_sub (lv' := [(0, .long x0), (2, .long x2), (4, .int x4), (5, .long x2), (7, .long x0), (9, .int (0 : Int32))]) [3, 4, 5, 2, 1, 0] rfl ?_
  exact mX8_lowest_L9  hX hr h
theorem dsX8_lowest : yX8_lowest.cls ≠ "java/lang/invoke/MethodHandle" ∧ yX8_lowest.cls ≠ "java/lang/invoke/VarHandle" ∧ (parseMethodDescriptor yX8_lowest.desc).map (fun d => d.parameters.length) = some 3 := by decide +kernel
theorem tX8_lowest {l : Launch} {E : Ev} {K : List Sh} {x0 : Int64} {x2 : Int64} {x4 : Int32} {M : Mem} {r : Int64}  (h : fX8_lowest x0 x2 x4 M = some r) : nq_MA l E yX8_lowest wsX8_lowest (nq_rm 2) [.long x0, .long x2, .int x4] K M (some (.long r)) K M :=
  nq_met (own := RX8) (cc := cX8_lowest) (maxL := 12) (ret := (some .long)) (by decide) rfl rfl (Nat.le_of_ble_eq_true rfl) (fun X hX hr => mX8_lowest  hX hr h)

theorem inX8_oddsPart_8 : ∀ w ∈ u_ws RX8 TX8 11, w ∈ wsX8_oddsPart := by
  intro w h; unfold wsX8_oddsPart; simp only [List.mem_cons, List.mem_append]; simp only [h, true_or, or_true]
theorem lkX8_oddsPart_16 : Cond.fieldLink RX8 16 (TX8 1).1 (TX8 1).2.1 (TX8 1).2.2.1 ∈ wsX8_oddsPart := by decide +kernel
theorem inX8_oddsPart_7 : ∀ w ∈ u_ws RX7 TX7 17, w ∈ wsX8_oddsPart := by
  intro w h; unfold wsX8_oddsPart; simp only [List.mem_cons, List.mem_append]; simp only [h, true_or, or_true]
theorem lkX8_oddsPart_118 : Cond.fieldLink RX8 118 (TX7 12).1 (TX7 12).2.1 (TX7 12).2.2.1 ∈ wsX8_oddsPart := by decide +kernel
def fX8_oddsPart (x1 : Int32) (x2 : Int32) (x3 : Int32) (M : Mem) : Option (Int64) :=
  nq_lt (M 2 12) fun v1 =>
  (nq_rem v1 (10 : Int32)).bind fun v2 =>
  (fX8_power v2.toInt64 x2 M).bind fun v4 =>
  nq_lt (M 2 12) fun v5 =>
  (nq_dv v5 (10 : Int32)).bind fun v6 =>
  (fX8_power v6.toInt64 x2 M).bind fun v8 =>
  nq_lt ((v4 - v8)) fun v9 =>
  (fX8_lowest v9 v4 x3 M).bind fun v11 =>
  (fX8_power v11 x1 M).bind fun v13 =>
  some v13
set_option maxHeartbeats 4000000 in
theorem mX8_oddsPart {X : Cx} {E : Ev} {l : Launch} {K : List Sh} {x1 : Int32} {x2 : Int32} {x3 : Int32} {M : Mem} {r : Int64} (hL : nq_atNine E K) (hX : nq_OK X E l (nq_rm 3) cX8_oddsPart 8 RX8 wsX8_oddsPart) (hr : nq_RT X E (some .long) (some (.long r)) K M) (h : fX8_oddsPart x1 x2 x3 M = some r) : nq_G X E 8 0 [(0, .ref (nq_ad E 0)), (1, .int x1), (2, .int x2), (3, .int x3)] [] K M := by
  unfold fX8_oddsPart at h
  refine nq_aload_n hX rfl 0 rfl dX8_oddsPart_0 ?_
  refine nq_getr (v := .ref (nq_ad E 2)) hX inX8_oddsPart_8 (nq_Nine_0 hL) rfl 1 (by decide) lkX8_oddsPart_16 _ rfl rfl dX8_oddsPart_1 ?_
  obtain ⟨v1, e1, h⟩ := nq_ltE h
  refine nq_geti hX inX8_oddsPart_7 (nq_World_0 (nq_Nine_world hL)) rfl 12 (by decide) lkX8_oddsPart_118 rfl e1 dX8_oddsPart_4 ?_
  refine nq_bipush hX (v := 10) (by decide) dX8_oddsPart_7 ?_
  obtain ⟨v2, e2, hn2, h⟩ := nq_ifE h
  refine nq_irem hX hn2 e2 dX8_oddsPart_9 ?_
  refine nq_i2l hX dX8_oddsPart_10 ?_
  refine nq_iload_n hX rfl 2 rfl dX8_oddsPart_11 ?_
  obtain ⟨v4, hc3, h⟩ := nq_bE h
  refine nq_callSl hX (tX8_power  hc3) gX8_oddsPart_X8_power rfl rfl dsX8_power (by decide) rfl (Nat.le_of_ble_eq_true rfl) dX8_oddsPart_12 ?_
  refine nq_lstore hX (lv' := [(4, .long v4), (0, .ref (nq_ad E 0)), (1, .int x1), (2, .int x2), (3, .int x3)]) (by decide) rfl rfl dX8_oddsPart_15 ?_
  refine nq_lload hX 0 rfl dX8_oddsPart_17 ?_
  refine nq_aload_n hX rfl 1 rfl dX8_oddsPart_19 ?_
  refine nq_getr (v := .ref (nq_ad E 2)) hX inX8_oddsPart_8 (nq_Nine_0 hL) rfl 1 (by decide) lkX8_oddsPart_16 _ rfl rfl dX8_oddsPart_20 ?_
  obtain ⟨v5, e5, h⟩ := nq_ltE h
  refine nq_geti hX inX8_oddsPart_7 (nq_World_0 (nq_Nine_world hL)) rfl 12 (by decide) lkX8_oddsPart_118 rfl e5 dX8_oddsPart_23 ?_
  refine nq_bipush hX (v := 10) (by decide) dX8_oddsPart_26 ?_
  obtain ⟨v6, e6, hn6, h⟩ := nq_ifE h
  refine nq_idiv hX hn6 e6 dX8_oddsPart_28 ?_
  refine nq_i2l hX dX8_oddsPart_29 ?_
  refine nq_iload_n hX rfl 3 rfl dX8_oddsPart_30 ?_
  obtain ⟨v8, hc7, h⟩ := nq_bE h
  refine nq_callSl hX (tX8_power  hc7) gX8_oddsPart_X8_power rfl rfl dsX8_power (by decide) rfl (Nat.le_of_ble_eq_true rfl) dX8_oddsPart_31 ?_
  refine nq_lsub hX dX8_oddsPart_34 ?_
  obtain ⟨v9, e9, h⟩ := nq_ltE h
  refine nq_lstore hX (lv' := [(6, .long v9), (4, .long v4), (0, .ref (nq_ad E 0)), (1, .int x1), (2, .int x2), (3, .int x3)]) (by decide) e9 rfl dX8_oddsPart_35 ?_
  refine nq_lload hX 0 rfl dX8_oddsPart_37 ?_
  refine nq_lload hX 1 rfl dX8_oddsPart_39 ?_
  refine nq_iload_n hX rfl 5 rfl dX8_oddsPart_41 ?_
  obtain ⟨v11, hc10, h⟩ := nq_bE h
  refine nq_callSl hX (tX8_lowest  hc10) gX8_oddsPart_X8_lowest rfl rfl dsX8_lowest (by decide) rfl (Nat.le_of_ble_eq_true rfl) dX8_oddsPart_42 ?_
  refine nq_iload_n hX rfl 3 rfl dX8_oddsPart_45 ?_
  obtain ⟨v13, hc12, h⟩ := nq_bE h
  refine nq_callSl hX (tX8_power  hc12) gX8_oddsPart_X8_power rfl rfl dsX8_power (by decide) rfl (Nat.le_of_ble_eq_true rfl) dX8_oddsPart_46 ?_
  obtain rfl := nq_sE1 h; exact nq_lret hX hr dX8_oddsPart_49
theorem dsX8_oddsPart : yX8_oddsPart.cls ≠ "java/lang/invoke/MethodHandle" ∧ yX8_oddsPart.cls ≠ "java/lang/invoke/VarHandle" ∧ (parseMethodDescriptor yX8_oddsPart.desc).map (fun d => d.parameters.length) = some 3 := by decide +kernel
theorem tX8_oddsPart {l : Launch} {E : Ev} {K : List Sh} {x1 : Int32} {x2 : Int32} {x3 : Int32} {M : Mem} {r : Int64} (hL : nq_atNine E K) (h : fX8_oddsPart x1 x2 x3 M = some r) : nq_MA l E yX8_oddsPart wsX8_oddsPart (nq_rm 3) [.ref (nq_ad E 0), .int x1, .int x2, .int x3] K M (some (.long r)) K M :=
  nq_met (own := RX8) (cc := cX8_oddsPart) (maxL := 8) (ret := (some .long)) (by decide) rfl rfl (Nat.le_of_ble_eq_true rfl) (fun X hX hr => mX8_oddsPart hL hX hr h)

def fX8_odds (x1 : Int32) (x2 : Int32) (x3 : Int32) (M : Mem) : Option (Int64 × Mem) :=
  (fX8_isOutside x1 (1 : Int32) (4 : Int32) M).bind fun v2 =>
  if v2 = 0 then
  ((fX8_isOutside x2 (1 : Int32) (4 : Int32) M).bind fun v5 =>
  if v5 = 0 then
  ((fX8_isOutside x3 (0 : Int32) (1 : Int32) M).bind fun v8 =>
  if v8 = 0 then
  ((fX8_oddsPart x1 x2 x3 M).bind fun v11 =>
  some (v11, M))
  else
  (nq_b2 (fX8_refuse (1 : Int32) M) fun v13 M14 =>
  some (v13.toInt64, M14)))
  else
  (nq_b2 (fX8_refuse (1 : Int32) M) fun v16 M17 =>
  some (v16.toInt64, M17)))
  else
  (nq_b2 (fX8_refuse (1 : Int32) M) fun v19 M20 =>
  some (v19.toInt64, M20))
set_option maxHeartbeats 4000000 in
theorem mX8_odds {X : Cx} {E : Ev} {l : Launch} {K : List Sh} {x1 : Int32} {x2 : Int32} {x3 : Int32} {M : Mem} {r : Int64} {M' : Mem} (hL : nq_atNine E K) (hX : nq_OK X E l (nq_rm 4) cX8_odds 4 RX8 wsX8_odds) (hr : nq_RT X E (some .long) (some (.long r)) K M') (h : fX8_odds x1 x2 x3 M = some (r, M')) : nq_G X E 4 0 [(0, .ref (nq_ad E 0)), (1, .int x1), (2, .int x2), (3, .int x3)] [] K M := by
  unfold fX8_odds at h
  refine nq_iload_n hX rfl 1 rfl dX8_odds_0 ?_
  refine nq_iconst hX (v := 1) (by decide) dX8_odds_1 ?_
  refine nq_iconst hX (v := 4) (by decide) dX8_odds_2 ?_
  obtain ⟨v2, hc1, h⟩ := nq_bE h
  refine nq_callSi hX (tX8_isOutside  hc1) gX8_odds_X8_isOutside rfl rfl dsX8_isOutside (by decide) rfl (Nat.le_of_ble_eq_true rfl) dX8_odds_3 ?_
  refine nq_if_ne hX (tgt := 27) (by decide) dX8_odds_6 (fun c3 => ?_) (fun c3 => ?_)
  · rw [if_pos c3] at h
    refine nq_iload_n hX rfl 2 rfl dX8_odds_9 ?_
    refine nq_iconst hX (v := 1) (by decide) dX8_odds_10 ?_
    refine nq_iconst hX (v := 4) (by decide) dX8_odds_11 ?_
    obtain ⟨v5, hc4, h⟩ := nq_bE h
    refine nq_callSi hX (tX8_isOutside  hc4) gX8_odds_X8_isOutside rfl rfl dsX8_isOutside (by decide) rfl (Nat.le_of_ble_eq_true rfl) dX8_odds_12 ?_
    refine nq_if_ne hX (tgt := 27) (by decide) dX8_odds_15 (fun c6 => ?_) (fun c6 => ?_)
    · rw [if_pos c6] at h
      refine nq_iload_n hX rfl 3 rfl dX8_odds_18 ?_
      refine nq_iconst hX (v := 0) (by decide) dX8_odds_19 ?_
      refine nq_iconst hX (v := 1) (by decide) dX8_odds_20 ?_
      obtain ⟨v8, hc7, h⟩ := nq_bE h
      refine nq_callSi hX (tX8_isOutside  hc7) gX8_odds_X8_isOutside rfl rfl dsX8_isOutside (by decide) rfl (Nat.le_of_ble_eq_true rfl) dX8_odds_21 ?_
      refine nq_if_eq hX (tgt := 34) (by decide) dX8_odds_24 (fun c9 => ?_) (fun c9 => ?_)
      · rw [if_pos c9] at h
        refine nq_aload_n hX rfl 0 rfl dX8_odds_34 ?_
        refine nq_iload_n hX rfl 1 rfl dX8_odds_35 ?_
        refine nq_iload_n hX rfl 2 rfl dX8_odds_36 ?_
        refine nq_iload_n hX rfl 3 rfl dX8_odds_37 ?_
        obtain ⟨v11, hc10, h⟩ := nq_bE h
        refine nq_callVl hX (tX8_oddsPart hL hc10) gX8_odds_X8_oddsPart rfl rfl dsX8_oddsPart (by decide) (nq_Nine_0 hL) rfl rfl (Nat.le_of_ble_eq_true rfl) dX8_odds_38 ?_
        obtain ⟨rfl, rfl⟩ := nq_sE2 h; exact nq_lret hX hr dX8_odds_41
      · rw [if_neg c9] at h
        refine nq_aload_n hX rfl 0 rfl dX8_odds_27 ?_
        refine nq_iconst hX (v := 1) (by decide) dX8_odds_28 ?_
        obtain ⟨v13, M14, hc12, h⟩ := nq_b2E h
        refine nq_callVi hX (tX8_refuse hL hc12) gX8_odds_X8_refuse rfl rfl dsX8_refuse (by decide) (nq_Nine_0 hL) rfl rfl (Nat.le_of_ble_eq_true rfl) dX8_odds_29 ?_
        refine nq_i2l hX dX8_odds_32 ?_
        obtain ⟨rfl, rfl⟩ := nq_sE2 h; exact nq_lret hX hr dX8_odds_33
    · rw [if_neg c6] at h
      refine nq_aload_n hX rfl 0 rfl dX8_odds_27 ?_
      refine nq_iconst hX (v := 1) (by decide) dX8_odds_28 ?_
      obtain ⟨v16, M17, hc15, h⟩ := nq_b2E h
      refine nq_callVi hX (tX8_refuse hL hc15) gX8_odds_X8_refuse rfl rfl dsX8_refuse (by decide) (nq_Nine_0 hL) rfl rfl (Nat.le_of_ble_eq_true rfl) dX8_odds_29 ?_
      refine nq_i2l hX dX8_odds_32 ?_
      obtain ⟨rfl, rfl⟩ := nq_sE2 h; exact nq_lret hX hr dX8_odds_33
  · rw [if_neg c3] at h
    refine nq_aload_n hX rfl 0 rfl dX8_odds_27 ?_
    refine nq_iconst hX (v := 1) (by decide) dX8_odds_28 ?_
    obtain ⟨v19, M20, hc18, h⟩ := nq_b2E h
    refine nq_callVi hX (tX8_refuse hL hc18) gX8_odds_X8_refuse rfl rfl dsX8_refuse (by decide) (nq_Nine_0 hL) rfl rfl (Nat.le_of_ble_eq_true rfl) dX8_odds_29 ?_
    refine nq_i2l hX dX8_odds_32 ?_
    obtain ⟨rfl, rfl⟩ := nq_sE2 h; exact nq_lret hX hr dX8_odds_33
theorem dsX8_odds : yX8_odds.cls ≠ "java/lang/invoke/MethodHandle" ∧ yX8_odds.cls ≠ "java/lang/invoke/VarHandle" ∧ (parseMethodDescriptor yX8_odds.desc).map (fun d => d.parameters.length) = some 3 := by decide +kernel
theorem tX8_odds {l : Launch} {E : Ev} {K : List Sh} {x1 : Int32} {x2 : Int32} {x3 : Int32} {M : Mem} {r : Int64} {M' : Mem} (hL : nq_atNine E K) (h : fX8_odds x1 x2 x3 M = some (r, M')) : nq_MA l E yX8_odds wsX8_odds (nq_rm 4) [.ref (nq_ad E 0), .int x1, .int x2, .int x3] K M (some (.long r)) K M' :=
  nq_met (own := RX8) (cc := cX8_odds) (maxL := 4) (ret := (some .long)) (by decide) rfl rfl (Nat.le_of_ble_eq_true rfl) (fun X hX hr => mX8_odds hL hX hr h)

theorem mmX8_enough_c244 : Cond.constantLong RX8 244 (100) ∈ wsX8_enough := by decide +kernel
def fX8_enough_B27 (x1 : Int32) (x2 : Int32) (x3 : Int32) (M : Mem) : Option ((Int32) ⊕ ((Unit) ⊕ (Int32 × Mem))) :=
  if (4 : Int32) < x3 then
  (some (.inr (.inl ())))
  else
  ((fX8_oddsPart x1 x3 (0 : Int32) M).bind fun v9 =>
  (fX8_oddsPart x1 x3 (1 : Int32) M).bind fun v11 =>
  if (lg_cmp (v9 * (100 : Int64)) (v11 * x2.toInt64)) < 0 then
  (nq_lt (x3 + (1 : Int32)) fun v13 =>
  some (.inl v13))
  else
  (some (.inr (.inr (x3, M)))))
set_option maxHeartbeats 4000000 in
theorem mX8_enough_B27 {X : Cx} {E : Ev} {l : Launch} {K : List Sh} {x1 : Int32} {x2 : Int32} {x3 : Int32} {M : Mem} (hL : nq_atNine E K) (hX : nq_OK X E l (nq_rm 4) cX8_enough 4 RX8 wsX8_enough) {x : (Int32) ⊕ ((Unit) ⊕ (Int32 × Mem))} (hc : ∀ s' : Int32, x = .inl s' → nq_G X E 4 27 [(0, .ref (nq_ad E 0)), (1, .int x1), (2, .int x2), (3, .int s')] [] K M) (he : ∀ s' : Unit, x = .inr (.inl s') → nq_G X E 4 65 [(0, .ref (nq_ad E 0))] [] K M) (hret : ∀ r : Int32 × Mem, x = .inr (.inr r) → nq_RT X E (some .int) (some (.int r.1)) K r.2) (h : fX8_enough_B27 x1 x2 x3 M = some x) : nq_G X E 4 27 [(0, .ref (nq_ad E 0)), (1, .int x1), (2, .int x2), (3, .int x3)] [] K M := by
  unfold fX8_enough_B27 at h
  refine nq_iload_n hX rfl 3 rfl dX8_enough_27 ?_
  refine nq_iconst hX (v := 4) (by decide) dX8_enough_28 ?_
  refine nq_icmp_gt hX (tgt := 65) (by decide) dX8_enough_29 (fun c7 => ?_) (fun c7 => ?_)
  · rw [if_pos c7] at h
    refine nq_sub (lv' := [(0, .ref (nq_ad E 0))]) [0] rfl ?_
    exact he () (nq_sE h).symm
  · rw [if_neg c7] at h
    refine nq_aload_n hX rfl 0 rfl dX8_enough_32 ?_
    refine nq_iload_n hX rfl 1 rfl dX8_enough_33 ?_
    refine nq_iload_n hX rfl 3 rfl dX8_enough_34 ?_
    refine nq_iconst hX (v := 0) (by decide) dX8_enough_35 ?_
    obtain ⟨v9, hc8, h⟩ := nq_bE h
    refine nq_callVl hX (tX8_oddsPart hL hc8) gX8_enough_X8_oddsPart rfl rfl dsX8_oddsPart (by decide) (nq_Nine_0 hL) rfl rfl (Nat.le_of_ble_eq_true rfl) dX8_enough_36 ?_
    refine nq_ldc2 hX (v := 100) mmX8_enough_c244 dX8_enough_39 ?_
    refine nq_lmul hX dX8_enough_42 ?_
    refine nq_aload_n hX rfl 0 rfl dX8_enough_43 ?_
    refine nq_iload_n hX rfl 1 rfl dX8_enough_44 ?_
    refine nq_iload_n hX rfl 3 rfl dX8_enough_45 ?_
    refine nq_iconst hX (v := 1) (by decide) dX8_enough_46 ?_
    obtain ⟨v11, hc10, h⟩ := nq_bE h
    refine nq_callVl hX (tX8_oddsPart hL hc10) gX8_enough_X8_oddsPart rfl rfl dsX8_oddsPart (by decide) (nq_Nine_0 hL) rfl rfl (Nat.le_of_ble_eq_true rfl) dX8_enough_47 ?_
    refine nq_iload_n hX rfl 2 rfl dX8_enough_50 ?_
    refine nq_i2l hX dX8_enough_51 ?_
    refine nq_lmul hX dX8_enough_52 ?_
    refine nq_lcmp hX dX8_enough_53 ?_
    refine nq_if_lt hX (tgt := 59) (by decide) dX8_enough_54 (fun c12 => ?_) (fun c12 => ?_)
    · rw [if_pos c12] at h
      obtain ⟨v13, e13, h⟩ := nq_ltE h
      refine nq_iinc hX (lv' := [(3, .int v13), (0, .ref (nq_ad E 0)), (1, .int x1), (2, .int x2)]) (j := 3) rfl (e13.trans rfl) (by decide) rfl dX8_enough_59 ?_
      refine nq_goto hX (tgt := 27) (by decide) dX8_enough_62 ?_
      refine nq_sub (lv' := [(0, .ref (nq_ad E 0)), (1, .int x1), (2, .int x2), (3, .int v13)]) [1, 2, 3, 0] rfl ?_
      exact hc v13 (nq_sE h).symm
    · rw [if_neg c12] at h
      refine nq_iload_n hX rfl 3 rfl dX8_enough_57 ?_
      exact nq_iret hX (hret (x3, M) (nq_sE h).symm) dX8_enough_58
def fX8_enough_L65 (M : Mem) : Option (Int32 × Mem) :=
  nq_b2 (fX8_refuse (2 : Int32) M) fun v15 M16 =>
  some (v15, M16)
set_option maxHeartbeats 4000000 in
theorem mX8_enough_L65 {X : Cx} {E : Ev} {l : Launch} {K : List Sh} {M : Mem} {r : Int32} {M' : Mem} (hL : nq_atNine E K) (hX : nq_OK X E l (nq_rm 4) cX8_enough 4 RX8 wsX8_enough) (hr : nq_RT X E (some .int) (some (.int r)) K M') (h : fX8_enough_L65 M = some (r, M')) : nq_G X E 4 65 [(0, .ref (nq_ad E 0))] [] K M := by
  unfold fX8_enough_L65 at h
  refine nq_aload_n hX rfl 0 rfl dX8_enough_65 ?_
  refine nq_iconst hX (v := 2) (by decide) dX8_enough_66 ?_
  obtain ⟨v15, M16, hc14, h⟩ := nq_b2E h
  refine nq_callVi hX (tX8_refuse hL hc14) gX8_enough_X8_refuse rfl rfl dsX8_refuse (by decide) (nq_Nine_0 hL) rfl rfl (Nat.le_of_ble_eq_true rfl) dX8_enough_67 ?_
  obtain ⟨rfl, rfl⟩ := nq_sE2 h; exact nq_iret hX hr dX8_enough_70
def fX8_enough_L27 (x1 : Int32) (x2 : Int32) (x3 : Int32) (M : Mem) : Option (Int32 × Mem) :=
  (nq_lp (fun s : Int32 => fX8_enough_B27 x1 x2 s M) nq_fuel x3).bind (Sum.elim (fun e => fX8_enough_L65 M) (fun r1 => some r1))
set_option maxHeartbeats 4000000 in
theorem mX8_enough_L27 {X : Cx} {E : Ev} {l : Launch} {K : List Sh} {x1 : Int32} {x2 : Int32} {x3 : Int32} {M : Mem} {r : Int32} {M' : Mem} (hL : nq_atNine E K) (hX : nq_OK X E l (nq_rm 4) cX8_enough 4 RX8 wsX8_enough) (hr : nq_RT X E (some .int) (some (.int r)) K M') (h : fX8_enough_L27 x1 x2 x3 M = some (r, M')) : nq_G X E 4 27 [(0, .ref (nq_ad E 0)), (1, .int x1), (2, .int x2), (3, .int x3)] [] K M := by
  unfold fX8_enough_L27 at h
  obtain ⟨e, h1, h⟩ := nq_bE h
  have key : ∀ (ex : (Unit) ⊕ (Int32 × Mem)), nq_lp (fun s : Int32 => fX8_enough_B27 x1 x2 s M) nq_fuel x3 = some ex → (∀ e, ex = .inl e → nq_G X E 4 65 [(0, .ref (nq_ad E 0))] [] K M) → (∀ r, ex = .inr r → nq_RT X E (some .int) (some (.int r.1)) K r.2) → nq_G X E 4 27 [(0, .ref (nq_ad E 0)), (1, .int x1), (2, .int x2), (3, .int x3)] [] K M := by
    intro ex h1 hE hR
    refine nq_lpE (P := fun s : Int32 => nq_G X E 4 27 [(0, .ref (nq_ad E 0)), (1, .int x1), (2, .int x2), (3, .int s)] [] K M) (r := ex) ?_ nq_fuel x3 h1
    intro s xx hx1 hc1 he1
    exact mX8_enough_B27 hL hX hc1 (fun e q => hE e (he1 _ q).symm) (fun r q => hR r (he1 _ q).symm) hx1
  refine key e h1 (fun e q => ?_) (fun r1 q => ?_)
  · subst q
    have h : fX8_enough_L65 M = some (r, M') := h
    exact mX8_enough_L65 hL hX hr h
  · subst q
    have h : some r1 = some (r, M') := h
    obtain rfl := nq_sE1 h; exact hr
def fX8_enough (x1 : Int32) (x2 : Int32) (M : Mem) : Option (Int32 × Mem) :=
  (fX8_isOutside x1 (1 : Int32) (4 : Int32) M).bind fun v2 =>
  if v2 = 0 then
  ((fX8_isOutside x2 (0 : Int32) (100 : Int32) M).bind fun v5 =>
  if v5 = 0 then
  (fX8_enough_L27 x1 x2 (1 : Int32) M)
  else
  (nq_b2 (fX8_refuse (1 : Int32) M) fun v18 M19 =>
  some (v18, M19)))
  else
  (nq_b2 (fX8_refuse (1 : Int32) M) fun v21 M22 =>
  some (v21, M22))
set_option maxHeartbeats 4000000 in
theorem mX8_enough {X : Cx} {E : Ev} {l : Launch} {K : List Sh} {x1 : Int32} {x2 : Int32} {M : Mem} {r : Int32} {M' : Mem} (hL : nq_atNine E K) (hX : nq_OK X E l (nq_rm 4) cX8_enough 4 RX8 wsX8_enough) (hr : nq_RT X E (some .int) (some (.int r)) K M') (h : fX8_enough x1 x2 M = some (r, M')) : nq_G X E 4 0 [(0, .ref (nq_ad E 0)), (1, .int x1), (2, .int x2)] [] K M := by
  unfold fX8_enough at h
  refine nq_iload_n hX rfl 1 rfl dX8_enough_0 ?_
  refine nq_iconst hX (v := 1) (by decide) dX8_enough_1 ?_
  refine nq_iconst hX (v := 4) (by decide) dX8_enough_2 ?_
  obtain ⟨v2, hc1, h⟩ := nq_bE h
  refine nq_callSi hX (tX8_isOutside  hc1) gX8_enough_X8_isOutside rfl rfl dsX8_isOutside (by decide) rfl (Nat.le_of_ble_eq_true rfl) dX8_enough_3 ?_
  refine nq_if_ne hX (tgt := 19) (by decide) dX8_enough_6 (fun c3 => ?_) (fun c3 => ?_)
  · rw [if_pos c3] at h
    refine nq_iload_n hX rfl 2 rfl dX8_enough_9 ?_
    refine nq_iconst hX (v := 0) (by decide) dX8_enough_10 ?_
    refine nq_bipush hX (v := 100) (by decide) dX8_enough_11 ?_
    obtain ⟨v5, hc4, h⟩ := nq_bE h
    refine nq_callSi hX (tX8_isOutside  hc4) gX8_enough_X8_isOutside rfl rfl dsX8_isOutside (by decide) rfl (Nat.le_of_ble_eq_true rfl) dX8_enough_13 ?_
    refine nq_if_eq hX (tgt := 25) (by decide) dX8_enough_16 (fun c6 => ?_) (fun c6 => ?_)
    · rw [if_pos c6] at h
      refine nq_iconst hX (v := 1) (by decide) dX8_enough_25 ?_
      refine nq_istore_n hX (lv' := [(3, .int (1 : Int32)), (0, .ref (nq_ad E 0)), (1, .int x1), (2, .int x2)]) rfl (by decide) rfl rfl dX8_enough_26 ?_
      refine nq_sub (lv' := [(0, .ref (nq_ad E 0)), (1, .int x1), (2, .int x2), (3, .int (1 : Int32))]) [1, 2, 3, 0] rfl ?_
      exact mX8_enough_L27 hL hX hr h
    · rw [if_neg c6] at h
      refine nq_aload_n hX rfl 0 rfl dX8_enough_19 ?_
      refine nq_iconst hX (v := 1) (by decide) dX8_enough_20 ?_
      obtain ⟨v18, M19, hc17, h⟩ := nq_b2E h
      refine nq_callVi hX (tX8_refuse hL hc17) gX8_enough_X8_refuse rfl rfl dsX8_refuse (by decide) (nq_Nine_0 hL) rfl rfl (Nat.le_of_ble_eq_true rfl) dX8_enough_21 ?_
      obtain ⟨rfl, rfl⟩ := nq_sE2 h; exact nq_iret hX hr dX8_enough_24
  · rw [if_neg c3] at h
    refine nq_aload_n hX rfl 0 rfl dX8_enough_19 ?_
    refine nq_iconst hX (v := 1) (by decide) dX8_enough_20 ?_
    obtain ⟨v21, M22, hc20, h⟩ := nq_b2E h
    refine nq_callVi hX (tX8_refuse hL hc20) gX8_enough_X8_refuse rfl rfl dsX8_refuse (by decide) (nq_Nine_0 hL) rfl rfl (Nat.le_of_ble_eq_true rfl) dX8_enough_21 ?_
    obtain ⟨rfl, rfl⟩ := nq_sE2 h; exact nq_iret hX hr dX8_enough_24
theorem dsX8_enough : yX8_enough.cls ≠ "java/lang/invoke/MethodHandle" ∧ yX8_enough.cls ≠ "java/lang/invoke/VarHandle" ∧ (parseMethodDescriptor yX8_enough.desc).map (fun d => d.parameters.length) = some 2 := by decide +kernel
theorem tX8_enough {l : Launch} {E : Ev} {K : List Sh} {x1 : Int32} {x2 : Int32} {M : Mem} {r : Int32} {M' : Mem} (hL : nq_atNine E K) (h : fX8_enough x1 x2 M = some (r, M')) : nq_MA l E yX8_enough wsX8_enough (nq_rm 4) [.ref (nq_ad E 0), .int x1, .int x2] K M (some (.int r)) K M' :=
  nq_met (own := RX8) (cc := cX8_enough) (maxL := 4) (ret := (some .int)) (by decide) rfl rfl (Nat.le_of_ble_eq_true rfl) (fun X hX hr => mX8_enough hL hX hr h)

def fX8_payAt (x0 : Int32) (x1 : Int32) (x2 : Int32) (M : Mem) : Option (Int32) :=
  some ((((8 : Int32) * x0) + ((4 : Int32) * x1)) + x2)
set_option maxHeartbeats 4000000 in
theorem mX8_payAt {X : Cx} {E : Ev} {l : Launch} {K : List Sh} {x0 : Int32} {x1 : Int32} {x2 : Int32} {M : Mem} {r : Int32}  (hX : nq_OK X E l (nq_rm 1) cX8_payAt 3 RX8 wsX8_payAt) (hr : nq_RT X E (some .int) (some (.int r)) K M) (h : fX8_payAt x0 x1 x2 M = some r) : nq_G X E 3 0 [(0, .int x0), (1, .int x1), (2, .int x2)] [] K M := by
  unfold fX8_payAt at h
  refine nq_bipush hX (v := 8) (by decide) dX8_payAt_0 ?_
  refine nq_iload_n hX rfl 0 rfl dX8_payAt_2 ?_
  refine nq_imul hX dX8_payAt_3 ?_
  refine nq_iconst hX (v := 4) (by decide) dX8_payAt_4 ?_
  refine nq_iload_n hX rfl 1 rfl dX8_payAt_5 ?_
  refine nq_imul hX dX8_payAt_6 ?_
  refine nq_iadd hX dX8_payAt_7 ?_
  refine nq_iload_n hX rfl 2 rfl dX8_payAt_8 ?_
  refine nq_iadd hX dX8_payAt_9 ?_
  obtain rfl := nq_sE1 h; exact nq_iret hX hr dX8_payAt_10
theorem dsX8_payAt : yX8_payAt.cls ≠ "java/lang/invoke/MethodHandle" ∧ yX8_payAt.cls ≠ "java/lang/invoke/VarHandle" ∧ (parseMethodDescriptor yX8_payAt.desc).map (fun d => d.parameters.length) = some 3 := by decide +kernel
theorem tX8_payAt {l : Launch} {E : Ev} {K : List Sh} {x0 : Int32} {x1 : Int32} {x2 : Int32} {M : Mem} {r : Int32}  (h : fX8_payAt x0 x1 x2 M = some r) : nq_MA l E yX8_payAt wsX8_payAt (nq_rm 1) [.int x0, .int x1, .int x2] K M (some (.int r)) K M :=
  nq_met (own := RX8) (cc := cX8_payAt) (maxL := 3) (ret := (some .int)) (by decide) rfl rfl (Nat.le_of_ble_eq_true rfl) (fun X hX hr => mX8_payAt  hX hr h)

