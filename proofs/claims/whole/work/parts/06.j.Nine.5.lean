/-! printed by dec.py: Nine 5 -/
theorem inX8_move_8 : ∀ w ∈ u_ws RX8 TX8 11, w ∈ wsX8_move := by
  intro w h; unfold wsX8_move; simp only [List.mem_cons, List.mem_append]; simp only [h, true_or, or_true]
theorem lkX8_move_65 : Cond.fieldLink RX8 65 (TX8 10).1 (TX8 10).2.1 (TX8 10).2.2.1 ∈ wsX8_move := by decide +kernel
theorem inX8_move_3 : ∀ w ∈ u_ws RX3 TX3 3, w ∈ wsX8_move := by
  intro w h; unfold wsX8_move; simp only [List.mem_cons, List.mem_append]; simp only [h, true_or, or_true]
theorem lkX8_move_169 : Cond.fieldLink RX8 169 (TX3 0).1 (TX3 0).2.1 (TX3 0).2.2.1 ∈ wsX8_move := by decide +kernel
theorem lkX8_move_175 : Cond.fieldLink RX8 175 (TX3 2).1 (TX3 2).2.1 (TX3 2).2.2.1 ∈ wsX8_move := by decide +kernel
theorem mmX8_move_k307 : Cond.methodLink RX8 307 arraycopyName ∈ wsX8_move := by decide +kernel
theorem mmX8_move_nacp : Cond.native arraycopyName ∈ wsX8_move := by decide +kernel
theorem mmX8_move_stcp : Cond.static arraycopyName ∈ wsX8_move := by decide +kernel
theorem mmX8_move_isy : Cond.initialized "java/lang/System" ∈ wsX8_move := by decide +kernel
def fX8_move (x1 : Int32) (x2 : Int32) (x3 : Int32) (x4 : Int32) (x5 : Int32) (M : Mem) : Option (Int32 × Mem) :=
  (fX8_isSheet x1 M).bind fun v2 =>
  if v2 = 0 then
  (nq_b2 (fX8_refuse (1 : Int32) M) fun v5 M6 =>
  some (v5, M6))
  else
  ((fX8_isSheet x3 M).bind fun v8 =>
  if v8 = 0 then
  (nq_b2 (fX8_refuse (1 : Int32) M) fun v11 M12 =>
  some (v11, M12))
  else
  ((nq_ar 87 4 x1).bind fun q13 =>
  (nq_ar 87 4 x3).bind fun q14 =>
  nq_lt (M q13 0) fun v15 =>
  if v15 = 0 then
  (nq_b2 (fX8_refuse (2 : Int32) M) fun v18 M19 =>
  some (v18, M19))
  else
  (nq_lt (M q14 0) fun v20 =>
  if v20 = 0 then
  (nq_b2 (fX8_refuse (2 : Int32) M) fun v23 M24 =>
  some (v23, M24))
  else
  (nq_lt (M q13 0) fun v25 =>
  nq_lt (M q14 0) fun v26 =>
  if v25 = v26 then
  ((fX3_holds q13 x2 x5 M).bind fun v29 =>
  if v29 = 0 then
  (nq_b2 (fX8_refuse (1 : Int32) M) fun v32 M33 =>
  some (v32, M33))
  else
  ((fX3_holds q14 x4 x5 M).bind fun v35 =>
  if v35 = 0 then
  (nq_b2 (fX8_refuse (1 : Int32) M) fun v38 M39 =>
  some (v38, M39))
  else
  ((nq_cp M (q13 + 1) 40 x2 (q14 + 1) 40 x4 x5).bind fun M40 =>
  some (x5, M40))))
  else
  (nq_b2 (fX8_refuse (5 : Int32) M) fun v42 M43 =>
  some (v42, M43))))))
set_option maxHeartbeats 4000000 in
theorem mX8_move {X : Cx} {E : Ev} {l : Launch} {K : List Sh} {x1 : Int32} {x2 : Int32} {x3 : Int32} {x4 : Int32} {x5 : Int32} {M : Mem} {r : Int32} {M' : Mem} (hL : nq_atNine E K) (hX : nq_OK X E l (nq_rm 3) cX8_move 8 RX8 wsX8_move) (hr : nq_RT X E (some .int) (some (.int r)) K M') (h : fX8_move x1 x2 x3 x4 x5 M = some (r, M')) : nq_G X E 8 0 [(0, .ref (nq_ad E 0)), (1, .int x1), (2, .int x2), (3, .int x3), (4, .int x4), (5, .int x5)] [] K M := by
  unfold fX8_move at h
  refine nq_iload_n hX rfl 1 rfl dX8_move_0 ?_
  obtain ⟨v2, hc1, h⟩ := nq_bE h
  refine nq_callSi hX (tX8_isSheet  hc1) gX8_move_X8_isSheet rfl rfl dsX8_isSheet (by decide) rfl (Nat.le_of_ble_eq_true rfl) dX8_move_1 ?_
  refine nq_if_eq hX (tgt := 14) (by decide) dX8_move_4 (fun c3 => ?_) (fun c3 => ?_)
  · rw [if_pos c3] at h
    refine nq_aload_n hX rfl 0 rfl dX8_move_14 ?_
    refine nq_iconst hX (v := 1) (by decide) dX8_move_15 ?_
    obtain ⟨v5, M6, hc4, h⟩ := nq_b2E h
    refine nq_callVi hX (tX8_refuse hL hc4) gX8_move_X8_refuse rfl rfl dsX8_refuse (by decide) (nq_Nine_0 hL) rfl rfl (Nat.le_of_ble_eq_true rfl) dX8_move_16 ?_
    obtain ⟨rfl, rfl⟩ := nq_sE2 h; exact nq_iret hX hr dX8_move_19
  · rw [if_neg c3] at h
    refine nq_iload_n hX rfl 3 rfl dX8_move_7 ?_
    obtain ⟨v8, hc7, h⟩ := nq_bE h
    refine nq_callSi hX (tX8_isSheet  hc7) gX8_move_X8_isSheet rfl rfl dsX8_isSheet (by decide) rfl (Nat.le_of_ble_eq_true rfl) dX8_move_8 ?_
    refine nq_if_ne hX (tgt := 20) (by decide) dX8_move_11 (fun c9 => ?_) (fun c9 => ?_)
    · rw [if_pos c9] at h
      refine nq_aload_n hX rfl 0 rfl dX8_move_14 ?_
      refine nq_iconst hX (v := 1) (by decide) dX8_move_15 ?_
      obtain ⟨v11, M12, hc10, h⟩ := nq_b2E h
      refine nq_callVi hX (tX8_refuse hL hc10) gX8_move_X8_refuse rfl rfl dsX8_refuse (by decide) (nq_Nine_0 hL) rfl rfl (Nat.le_of_ble_eq_true rfl) dX8_move_16 ?_
      obtain ⟨rfl, rfl⟩ := nq_sE2 h; exact nq_iret hX hr dX8_move_19
    · rw [if_neg c9] at h
      refine nq_aload_n hX rfl 0 rfl dX8_move_20 ?_
      refine nq_getr (v := .ref (nq_ad E 86)) hX inX8_move_8 (nq_Nine_0 hL) rfl 10 (by decide) lkX8_move_65 _ rfl rfl dX8_move_21 ?_
      refine nq_iload_n hX rfl 1 rfl dX8_move_24 ?_
      obtain ⟨q13, e13, hi13, h⟩ := nq_arE h
      have hq13 : nq_atSheet E K q13 := by rw [e13]; exact nq_Nine_sheetsT hL _ (nq_inLt hi13)
      refine nq_aald hX (q := q13) (nq_Nine_sheets hL) rfl hi13 (by rw [e13]; exact nq_Nine_sheetsQ _ (nq_inLt hi13)) dX8_move_25 ?_
      refine nq_astore hX (lv' := [(6, .ref (nq_ad E q13)), (0, .ref (nq_ad E 0)), (1, .int x1), (2, .int x2), (3, .int x3), (4, .int x4), (5, .int x5)]) (by decide) rfl rfl dX8_move_26 ?_
      refine nq_aload_n hX rfl 1 rfl dX8_move_28 ?_
      refine nq_getr (v := .ref (nq_ad E 86)) hX inX8_move_8 (nq_Nine_0 hL) rfl 10 (by decide) lkX8_move_65 _ rfl rfl dX8_move_29 ?_
      refine nq_iload_n hX rfl 4 rfl dX8_move_32 ?_
      obtain ⟨q14, e14, hi14, h⟩ := nq_arE h
      have hq14 : nq_atSheet E K q14 := by rw [e14]; exact nq_Nine_sheetsT hL _ (nq_inLt hi14)
      refine nq_aald hX (q := q14) (nq_Nine_sheets hL) rfl hi14 (by rw [e14]; exact nq_Nine_sheetsQ _ (nq_inLt hi14)) dX8_move_33 ?_
      refine nq_astore hX (lv' := [(7, .ref (nq_ad E q14)), (6, .ref (nq_ad E q13)), (0, .ref (nq_ad E 0)), (1, .int x1), (2, .int x2), (3, .int x3), (4, .int x4), (5, .int x5)]) (by decide) rfl rfl dX8_move_34 ?_
      refine nq_aload hX 1 rfl dX8_move_36 ?_
      obtain ⟨v15, e15, h⟩ := nq_ltE h
      refine nq_geti hX inX8_move_3 (nq_Sheet_0 hq13) rfl 0 (by decide) lkX8_move_169 rfl e15 dX8_move_38 ?_
      refine nq_if_eq hX (tgt := 52) (by decide) dX8_move_41 (fun c16 => ?_) (fun c16 => ?_)
      · rw [if_pos c16] at h
        refine nq_aload_n hX rfl 2 rfl dX8_move_52 ?_
        refine nq_iconst hX (v := 2) (by decide) dX8_move_53 ?_
        obtain ⟨v18, M19, hc17, h⟩ := nq_b2E h
        refine nq_callVi hX (tX8_refuse hL hc17) gX8_move_X8_refuse rfl rfl dsX8_refuse (by decide) (nq_Nine_0 hL) rfl rfl (Nat.le_of_ble_eq_true rfl) dX8_move_54 ?_
        obtain ⟨rfl, rfl⟩ := nq_sE2 h; exact nq_iret hX hr dX8_move_57
      · rw [if_neg c16] at h
        refine nq_aload hX 0 rfl dX8_move_44 ?_
        obtain ⟨v20, e20, h⟩ := nq_ltE h
        refine nq_geti hX inX8_move_3 (nq_Sheet_0 hq14) rfl 0 (by decide) lkX8_move_169 rfl e20 dX8_move_46 ?_
        refine nq_if_ne hX (tgt := 58) (by decide) dX8_move_49 (fun c21 => ?_) (fun c21 => ?_)
        · rw [if_pos c21] at h
          refine nq_aload_n hX rfl 2 rfl dX8_move_52 ?_
          refine nq_iconst hX (v := 2) (by decide) dX8_move_53 ?_
          obtain ⟨v23, M24, hc22, h⟩ := nq_b2E h
          refine nq_callVi hX (tX8_refuse hL hc22) gX8_move_X8_refuse rfl rfl dsX8_refuse (by decide) (nq_Nine_0 hL) rfl rfl (Nat.le_of_ble_eq_true rfl) dX8_move_54 ?_
          obtain ⟨rfl, rfl⟩ := nq_sE2 h; exact nq_iret hX hr dX8_move_57
        · rw [if_neg c21] at h
          refine nq_aload hX 1 rfl dX8_move_58 ?_
          obtain ⟨v25, e25, h⟩ := nq_ltE h
          refine nq_geti hX inX8_move_3 (nq_Sheet_0 hq13) rfl 0 (by decide) lkX8_move_169 rfl e25 dX8_move_60 ?_
          refine nq_aload hX 0 rfl dX8_move_63 ?_
          obtain ⟨v26, e26, h⟩ := nq_ltE h
          refine nq_geti hX inX8_move_3 (nq_Sheet_0 hq14) rfl 0 (by decide) lkX8_move_169 rfl e26 dX8_move_65 ?_
          refine nq_icmp_eq hX (tgt := 77) (by decide) dX8_move_68 (fun c27 => ?_) (fun c27 => ?_)
          · rw [if_pos c27] at h
            refine nq_aload hX 1 rfl dX8_move_77 ?_
            refine nq_iload_n hX rfl 4 rfl dX8_move_79 ?_
            refine nq_iload hX 7 rfl dX8_move_80 ?_
            obtain ⟨v29, hc28, h⟩ := nq_bE h
            refine nq_callVi hX (tX3_holds hq13 hc28) gX8_move_X3_holds rfl rfl dsX3_holds (by decide) (nq_Sheet_0 hq13) rfl rfl (Nat.le_of_ble_eq_true rfl) dX8_move_82 ?_
            refine nq_if_eq hX (tgt := 100) (by decide) dX8_move_85 (fun c30 => ?_) (fun c30 => ?_)
            · rw [if_pos c30] at h
              refine nq_aload_n hX rfl 2 rfl dX8_move_100 ?_
              refine nq_iconst hX (v := 1) (by decide) dX8_move_101 ?_
              obtain ⟨v32, M33, hc31, h⟩ := nq_b2E h
              refine nq_callVi hX (tX8_refuse hL hc31) gX8_move_X8_refuse rfl rfl dsX8_refuse (by decide) (nq_Nine_0 hL) rfl rfl (Nat.le_of_ble_eq_true rfl) dX8_move_102 ?_
              obtain ⟨rfl, rfl⟩ := nq_sE2 h; exact nq_iret hX hr dX8_move_105
            · rw [if_neg c30] at h
              refine nq_aload hX 0 rfl dX8_move_88 ?_
              refine nq_iload hX 6 rfl dX8_move_90 ?_
              refine nq_iload hX 7 rfl dX8_move_92 ?_
              obtain ⟨v35, hc34, h⟩ := nq_bE h
              refine nq_callVi hX (tX3_holds hq14 hc34) gX8_move_X3_holds rfl rfl dsX3_holds (by decide) (nq_Sheet_0 hq14) rfl rfl (Nat.le_of_ble_eq_true rfl) dX8_move_94 ?_
              refine nq_if_ne hX (tgt := 106) (by decide) dX8_move_97 (fun c36 => ?_) (fun c36 => ?_)
              · rw [if_pos c36] at h
                refine nq_aload_n hX rfl 2 rfl dX8_move_100 ?_
                refine nq_iconst hX (v := 1) (by decide) dX8_move_101 ?_
                obtain ⟨v38, M39, hc37, h⟩ := nq_b2E h
                refine nq_callVi hX (tX8_refuse hL hc37) gX8_move_X8_refuse rfl rfl dsX8_refuse (by decide) (nq_Nine_0 hL) rfl rfl (Nat.le_of_ble_eq_true rfl) dX8_move_102 ?_
                obtain ⟨rfl, rfl⟩ := nq_sE2 h; exact nq_iret hX hr dX8_move_105
              · rw [if_neg c36] at h
                refine nq_aload hX 1 rfl dX8_move_106 ?_
                refine nq_getr (v := .ref (nq_ad E (q13 + 1))) hX inX8_move_3 (nq_Sheet_0 hq13) rfl 2 (by decide) lkX8_move_175 _ rfl rfl dX8_move_108 ?_
                refine nq_iload_n hX rfl 4 rfl dX8_move_111 ?_
                refine nq_aload hX 0 rfl dX8_move_112 ?_
                refine nq_getr (v := .ref (nq_ad E (q14 + 1))) hX inX8_move_3 (nq_Sheet_0 hq14) rfl 2 (by decide) lkX8_move_175 _ rfl rfl dX8_move_114 ?_
                refine nq_iload hX 6 rfl dX8_move_117 ?_
                refine nq_iload hX 7 rfl dX8_move_119 ?_
                obtain ⟨M40, e40, hi40, h⟩ := nq_cpE h
                refine nq_acopy hX mmX8_move_k307 mmX8_move_nacp mmX8_move_stcp mmX8_move_isy (nq_Sheet_numbers hq13) (nq_Sheet_numbers hq14) e40 hi40 (by decide) (Nat.le_of_ble_eq_true rfl) dX8_move_121 ?_
                refine nq_iload hX 7 rfl dX8_move_124 ?_
                obtain ⟨rfl, rfl⟩ := nq_sE2 h; exact nq_iret hX hr dX8_move_126
          · rw [if_neg c27] at h
            refine nq_aload_n hX rfl 2 rfl dX8_move_71 ?_
            refine nq_iconst hX (v := 5) (by decide) dX8_move_72 ?_
            obtain ⟨v42, M43, hc41, h⟩ := nq_b2E h
            refine nq_callVi hX (tX8_refuse hL hc41) gX8_move_X8_refuse rfl rfl dsX8_refuse (by decide) (nq_Nine_0 hL) rfl rfl (Nat.le_of_ble_eq_true rfl) dX8_move_73 ?_
            obtain ⟨rfl, rfl⟩ := nq_sE2 h; exact nq_iret hX hr dX8_move_76
theorem dsX8_move : yX8_move.cls ≠ "java/lang/invoke/MethodHandle" ∧ yX8_move.cls ≠ "java/lang/invoke/VarHandle" ∧ (parseMethodDescriptor yX8_move.desc).map (fun d => d.parameters.length) = some 5 := by decide +kernel
theorem tX8_move {l : Launch} {E : Ev} {K : List Sh} {x1 : Int32} {x2 : Int32} {x3 : Int32} {x4 : Int32} {x5 : Int32} {M : Mem} {r : Int32} {M' : Mem} (hL : nq_atNine E K) (h : fX8_move x1 x2 x3 x4 x5 M = some (r, M')) : nq_MA l E yX8_move wsX8_move (nq_rm 3) [.ref (nq_ad E 0), .int x1, .int x2, .int x3, .int x4, .int x5] K M (some (.int r)) K M' :=
  nq_met (own := RX8) (cc := cX8_move) (maxL := 8) (ret := (some .int)) (by decide) rfl rfl (Nat.le_of_ble_eq_true rfl) (fun X hX hr => mX8_move hL hX hr h)

theorem inX8_image_8 : ∀ w ∈ u_ws RX8 TX8 11, w ∈ wsX8_image := by
  intro w h; unfold wsX8_image; simp only [List.mem_cons, List.mem_append]; simp only [h, true_or, or_true]
theorem lkX8_image_20 : Cond.fieldLink RX8 20 (TX8 2).1 (TX8 2).2.1 (TX8 2).2.2.1 ∈ wsX8_image := by decide +kernel
theorem lkX8_image_16 : Cond.fieldLink RX8 16 (TX8 1).1 (TX8 1).2.1 (TX8 1).2.2.1 ∈ wsX8_image := by decide +kernel
theorem lkX8_image_23 : Cond.fieldLink RX8 23 (TX8 3).1 (TX8 3).2.1 (TX8 3).2.2.1 ∈ wsX8_image := by decide +kernel
def fX8_image (M : Mem) : Option (Int32 × Mem) :=
  (fX7_become 39 2 M).bind fun M2 =>
  nq_lt (M2 0 3) fun v3 =>
  nq_lt (nq_wr M2 0 3 (v3 + (1 : Int32))) fun M4 =>
  nq_lt (M4 0 3) fun v5 =>
  some (v5, M4)
set_option maxHeartbeats 4000000 in
theorem mX8_image {X : Cx} {E : Ev} {l : Launch} {K : List Sh} {M : Mem} {r : Int32} {M' : Mem} (hL : nq_atNine E K) (hX : nq_OK X E l (nq_rm 4) cX8_image 1 RX8 wsX8_image) (hr : nq_RT X E (some .int) (some (.int r)) K M') (h : fX8_image M = some (r, M')) : nq_G X E 1 0 [(0, .ref (nq_ad E 0))] [] K M := by
  unfold fX8_image at h
  refine nq_aload_n hX rfl 0 rfl dX8_image_0 ?_
  refine nq_getr (v := .ref (nq_ad E 39)) hX inX8_image_8 (nq_Nine_0 hL) rfl 2 (by decide) lkX8_image_20 _ rfl rfl dX8_image_1 ?_
  refine nq_aload_n hX rfl 0 rfl dX8_image_4 ?_
  refine nq_getr (v := .ref (nq_ad E 2)) hX inX8_image_8 (nq_Nine_0 hL) rfl 1 (by decide) lkX8_image_16 _ rfl rfl dX8_image_5 ?_
  obtain ⟨M2, hc1, h⟩ := nq_bE h
  refine nq_callVv hX (tX7_become (nq_Nine_kept hL) (nq_Nine_world hL) hc1) gX8_image_X7_become rfl rfl dsX7_become (by decide) (nq_World_0 (nq_Nine_kept hL)) rfl rfl (Nat.le_of_ble_eq_true rfl) dX8_image_8 ?_
  refine nq_aload_n hX rfl 0 rfl dX8_image_11 ?_
  refine nq_dup hX rfl dX8_image_12 ?_
  obtain ⟨v3, e3, h⟩ := nq_ltE h
  refine nq_geti hX inX8_image_8 (nq_Nine_0 hL) rfl 3 (by decide) lkX8_image_23 rfl e3 dX8_image_13 ?_
  refine nq_iconst hX (v := 1) (by decide) dX8_image_16 ?_
  refine nq_iadd hX dX8_image_17 ?_
  obtain ⟨M4, eM4, h⟩ := nq_ltE h
  refine nq_puti hX inX8_image_8 tyX8 tyX8_ok nmX8 (nq_Nine_0 hL) rfl 3 (by decide) lkX8_image_23 rfl rfl rfl rfl rfl eM4 dX8_image_18 ?_
  refine nq_aload_n hX rfl 0 rfl dX8_image_21 ?_
  obtain ⟨v5, e5, h⟩ := nq_ltE h
  refine nq_geti hX inX8_image_8 (nq_Nine_0 hL) rfl 3 (by decide) lkX8_image_23 rfl e5 dX8_image_22 ?_
  obtain ⟨rfl, rfl⟩ := nq_sE2 h; exact nq_iret hX hr dX8_image_25
theorem dsX8_image : yX8_image.cls ≠ "java/lang/invoke/MethodHandle" ∧ yX8_image.cls ≠ "java/lang/invoke/VarHandle" ∧ (parseMethodDescriptor yX8_image.desc).map (fun d => d.parameters.length) = some 0 := by decide +kernel
theorem tX8_image {l : Launch} {E : Ev} {K : List Sh} {M : Mem} {r : Int32} {M' : Mem} (hL : nq_atNine E K) (h : fX8_image M = some (r, M')) : nq_MA l E yX8_image wsX8_image (nq_rm 4) [.ref (nq_ad E 0)] K M (some (.int r)) K M' :=
  nq_met (own := RX8) (cc := cX8_image) (maxL := 1) (ret := (some .int)) (by decide) rfl rfl (Nat.le_of_ble_eq_true rfl) (fun X hX hr => mX8_image hL hX hr h)

theorem inX8_restore_8 : ∀ w ∈ u_ws RX8 TX8 11, w ∈ wsX8_restore := by
  intro w h; unfold wsX8_restore; simp only [List.mem_cons, List.mem_append]; simp only [h, true_or, or_true]
theorem lkX8_restore_23 : Cond.fieldLink RX8 23 (TX8 3).1 (TX8 3).2.1 (TX8 3).2.2.1 ∈ wsX8_restore := by decide +kernel
theorem lkX8_restore_16 : Cond.fieldLink RX8 16 (TX8 1).1 (TX8 1).2.1 (TX8 1).2.2.1 ∈ wsX8_restore := by decide +kernel
theorem lkX8_restore_20 : Cond.fieldLink RX8 20 (TX8 2).1 (TX8 2).2.1 (TX8 2).2.2.1 ∈ wsX8_restore := by decide +kernel
theorem inX8_restore_7 : ∀ w ∈ u_ws RX7 TX7 17, w ∈ wsX8_restore := by
  intro w h; unfold wsX8_restore; simp only [List.mem_cons, List.mem_append]; simp only [h, true_or, or_true]
theorem lkX8_restore_156 : Cond.fieldLink RX8 156 (TX7 9).1 (TX7 9).2.1 (TX7 9).2.2.1 ∈ wsX8_restore := by decide +kernel
def fX8_restore (M : Mem) : Option (Int32 × Mem) :=
  nq_lt (M 0 3) fun v1 =>
  if v1 = 0 then
  (nq_b2 (fX8_refuse (2 : Int32) M) fun v4 M5 =>
  some (v4, M5))
  else
  ((fX7_become 2 39 M).bind fun M7 =>
  nq_lt (M7 2 9) fun v8 =>
  some (v8, M7))
set_option maxHeartbeats 4000000 in
theorem mX8_restore {X : Cx} {E : Ev} {l : Launch} {K : List Sh} {M : Mem} {r : Int32} {M' : Mem} (hL : nq_atNine E K) (hX : nq_OK X E l (nq_rm 4) cX8_restore 1 RX8 wsX8_restore) (hr : nq_RT X E (some .int) (some (.int r)) K M') (h : fX8_restore M = some (r, M')) : nq_G X E 1 0 [(0, .ref (nq_ad E 0))] [] K M := by
  unfold fX8_restore at h
  refine nq_aload_n hX rfl 0 rfl dX8_restore_0 ?_
  obtain ⟨v1, e1, h⟩ := nq_ltE h
  refine nq_geti hX inX8_restore_8 (nq_Nine_0 hL) rfl 3 (by decide) lkX8_restore_23 rfl e1 dX8_restore_1 ?_
  refine nq_if_ne hX (tgt := 13) (by decide) dX8_restore_4 (fun c2 => ?_) (fun c2 => ?_)
  · rw [if_pos c2] at h
    refine nq_aload_n hX rfl 0 rfl dX8_restore_7 ?_
    refine nq_iconst hX (v := 2) (by decide) dX8_restore_8 ?_
    obtain ⟨v4, M5, hc3, h⟩ := nq_b2E h
    refine nq_callVi hX (tX8_refuse hL hc3) gX8_restore_X8_refuse rfl rfl dsX8_refuse (by decide) (nq_Nine_0 hL) rfl rfl (Nat.le_of_ble_eq_true rfl) dX8_restore_9 ?_
    obtain ⟨rfl, rfl⟩ := nq_sE2 h; exact nq_iret hX hr dX8_restore_12
  · rw [if_neg c2] at h
    refine nq_aload_n hX rfl 0 rfl dX8_restore_13 ?_
    refine nq_getr (v := .ref (nq_ad E 2)) hX inX8_restore_8 (nq_Nine_0 hL) rfl 1 (by decide) lkX8_restore_16 _ rfl rfl dX8_restore_14 ?_
    refine nq_aload_n hX rfl 0 rfl dX8_restore_17 ?_
    refine nq_getr (v := .ref (nq_ad E 39)) hX inX8_restore_8 (nq_Nine_0 hL) rfl 2 (by decide) lkX8_restore_20 _ rfl rfl dX8_restore_18 ?_
    obtain ⟨M7, hc6, h⟩ := nq_bE h
    refine nq_callVv hX (tX7_become (nq_Nine_world hL) (nq_Nine_kept hL) hc6) gX8_restore_X7_become rfl rfl dsX7_become (by decide) (nq_World_0 (nq_Nine_world hL)) rfl rfl (Nat.le_of_ble_eq_true rfl) dX8_restore_21 ?_
    refine nq_aload_n hX rfl 0 rfl dX8_restore_24 ?_
    refine nq_getr (v := .ref (nq_ad E 2)) hX inX8_restore_8 (nq_Nine_0 hL) rfl 1 (by decide) lkX8_restore_16 _ rfl rfl dX8_restore_25 ?_
    obtain ⟨v8, e8, h⟩ := nq_ltE h
    refine nq_geti hX inX8_restore_7 (nq_World_0 (nq_Nine_world hL)) rfl 9 (by decide) lkX8_restore_156 rfl e8 dX8_restore_28 ?_
    obtain ⟨rfl, rfl⟩ := nq_sE2 h; exact nq_iret hX hr dX8_restore_31
theorem dsX8_restore : yX8_restore.cls ≠ "java/lang/invoke/MethodHandle" ∧ yX8_restore.cls ≠ "java/lang/invoke/VarHandle" ∧ (parseMethodDescriptor yX8_restore.desc).map (fun d => d.parameters.length) = some 0 := by decide +kernel
theorem tX8_restore {l : Launch} {E : Ev} {K : List Sh} {M : Mem} {r : Int32} {M' : Mem} (hL : nq_atNine E K) (h : fX8_restore M = some (r, M')) : nq_MA l E yX8_restore wsX8_restore (nq_rm 4) [.ref (nq_ad E 0)] K M (some (.int r)) K M' :=
  nq_met (own := RX8) (cc := cX8_restore) (maxL := 1) (ret := (some .int)) (by decide) rfl rfl (Nat.le_of_ble_eq_true rfl) (fun X hX hr => mX8_restore hL hX hr h)

theorem inX8_tell_8 : ∀ w ∈ u_ws RX8 TX8 11, w ∈ wsX8_tell := by
  intro w h; unfold wsX8_tell; simp only [List.mem_cons, List.mem_append]; simp only [h, true_or, or_true]
theorem lkX8_tell_16 : Cond.fieldLink RX8 16 (TX8 1).1 (TX8 1).2.1 (TX8 1).2.2.1 ∈ wsX8_tell := by decide +kernel
theorem inX8_tell_7 : ∀ w ∈ u_ws RX7 TX7 17, w ∈ wsX8_tell := by
  intro w h; unfold wsX8_tell; simp only [List.mem_cons, List.mem_append]; simp only [h, true_or, or_true]
theorem lkX8_tell_316 : Cond.fieldLink RX8 316 (TX7 16).1 (TX7 16).2.1 (TX7 16).2.2.1 ∈ wsX8_tell := by decide +kernel
theorem lkX8_tell_319 : Cond.fieldLink RX8 319 (TX7 8).1 (TX7 8).2.1 (TX7 8).2.2.1 ∈ wsX8_tell := by decide +kernel
def fX8_tell (x1 : Int32) (M : Mem) : Option (Int32 × Mem) :=
  nq_lt (M 2 16) fun v1 =>
  if v1 < (20 : Int32) then
  (nq_lt (M 2 16) fun v3 =>
  (nq_as M 22 20 v3 x1).bind fun M4 =>
  nq_lt (M4 2 16) fun v5 =>
  nq_lt (nq_wr M4 2 16 (v5 + (1 : Int32))) fun M6 =>
  nq_lt (M6 2 16) fun v7 =>
  some (v7, M6))
  else
  (nq_b2 (fX8_refuse (4 : Int32) M) fun v9 M10 =>
  some (v9, M10))
set_option maxHeartbeats 4000000 in
theorem mX8_tell {X : Cx} {E : Ev} {l : Launch} {K : List Sh} {x1 : Int32} {M : Mem} {r : Int32} {M' : Mem} (hL : nq_atNine E K) (hX : nq_OK X E l (nq_rm 2) cX8_tell 2 RX8 wsX8_tell) (hr : nq_RT X E (some .int) (some (.int r)) K M') (h : fX8_tell x1 M = some (r, M')) : nq_G X E 2 0 [(0, .ref (nq_ad E 0)), (1, .int x1)] [] K M := by
  unfold fX8_tell at h
  refine nq_aload_n hX rfl 0 rfl dX8_tell_0 ?_
  refine nq_getr (v := .ref (nq_ad E 2)) hX inX8_tell_8 (nq_Nine_0 hL) rfl 1 (by decide) lkX8_tell_16 _ rfl rfl dX8_tell_1 ?_
  obtain ⟨v1, e1, h⟩ := nq_ltE h
  refine nq_geti hX inX8_tell_7 (nq_World_0 (nq_Nine_world hL)) rfl 16 (by decide) lkX8_tell_316 rfl e1 dX8_tell_4 ?_
  refine nq_bipush hX (v := 20) (by decide) dX8_tell_7 ?_
  refine nq_icmp_lt hX (tgt := 18) (by decide) dX8_tell_9 (fun c2 => ?_) (fun c2 => ?_)
  · rw [if_pos c2] at h
    refine nq_aload_n hX rfl 0 rfl dX8_tell_18 ?_
    refine nq_getr (v := .ref (nq_ad E 2)) hX inX8_tell_8 (nq_Nine_0 hL) rfl 1 (by decide) lkX8_tell_16 _ rfl rfl dX8_tell_19 ?_
    refine nq_getr (v := .ref (nq_ad E 22)) hX inX8_tell_7 (nq_World_0 (nq_Nine_world hL)) rfl 8 (by decide) lkX8_tell_319 _ rfl rfl dX8_tell_22 ?_
    refine nq_aload_n hX rfl 0 rfl dX8_tell_25 ?_
    refine nq_getr (v := .ref (nq_ad E 2)) hX inX8_tell_8 (nq_Nine_0 hL) rfl 1 (by decide) lkX8_tell_16 _ rfl rfl dX8_tell_26 ?_
    obtain ⟨v3, e3, h⟩ := nq_ltE h
    refine nq_geti hX inX8_tell_7 (nq_World_0 (nq_Nine_world hL)) rfl 16 (by decide) lkX8_tell_316 rfl e3 dX8_tell_29 ?_
    refine nq_iload_n hX rfl 1 rfl dX8_tell_32 ?_
    obtain ⟨M4, e4, hi4, h⟩ := nq_asE h
    refine nq_iast hX (nq_World_waiting (nq_Nine_world hL)) e4 hi4 dX8_tell_33 ?_
    refine nq_aload_n hX rfl 0 rfl dX8_tell_34 ?_
    refine nq_getr (v := .ref (nq_ad E 2)) hX inX8_tell_8 (nq_Nine_0 hL) rfl 1 (by decide) lkX8_tell_16 _ rfl rfl dX8_tell_35 ?_
    refine nq_dup hX rfl dX8_tell_38 ?_
    obtain ⟨v5, e5, h⟩ := nq_ltE h
    refine nq_geti hX inX8_tell_7 (nq_World_0 (nq_Nine_world hL)) rfl 16 (by decide) lkX8_tell_316 rfl e5 dX8_tell_39 ?_
    refine nq_iconst hX (v := 1) (by decide) dX8_tell_42 ?_
    refine nq_iadd hX dX8_tell_43 ?_
    obtain ⟨M6, eM6, h⟩ := nq_ltE h
    refine nq_puti hX inX8_tell_7 tyX7 tyX7_ok nmX7 (nq_World_0 (nq_Nine_world hL)) rfl 16 (by decide) lkX8_tell_316 rfl rfl rfl rfl rfl eM6 dX8_tell_44 ?_
    refine nq_aload_n hX rfl 0 rfl dX8_tell_47 ?_
    refine nq_getr (v := .ref (nq_ad E 2)) hX inX8_tell_8 (nq_Nine_0 hL) rfl 1 (by decide) lkX8_tell_16 _ rfl rfl dX8_tell_48 ?_
    obtain ⟨v7, e7, h⟩ := nq_ltE h
    refine nq_geti hX inX8_tell_7 (nq_World_0 (nq_Nine_world hL)) rfl 16 (by decide) lkX8_tell_316 rfl e7 dX8_tell_51 ?_
    obtain ⟨rfl, rfl⟩ := nq_sE2 h; exact nq_iret hX hr dX8_tell_54
  · rw [if_neg c2] at h
    refine nq_aload_n hX rfl 0 rfl dX8_tell_12 ?_
    refine nq_iconst hX (v := 4) (by decide) dX8_tell_13 ?_
    obtain ⟨v9, M10, hc8, h⟩ := nq_b2E h
    refine nq_callVi hX (tX8_refuse hL hc8) gX8_tell_X8_refuse rfl rfl dsX8_refuse (by decide) (nq_Nine_0 hL) rfl rfl (Nat.le_of_ble_eq_true rfl) dX8_tell_14 ?_
    obtain ⟨rfl, rfl⟩ := nq_sE2 h; exact nq_iret hX hr dX8_tell_17
theorem dsX8_tell : yX8_tell.cls ≠ "java/lang/invoke/MethodHandle" ∧ yX8_tell.cls ≠ "java/lang/invoke/VarHandle" ∧ (parseMethodDescriptor yX8_tell.desc).map (fun d => d.parameters.length) = some 1 := by decide +kernel
theorem tX8_tell {l : Launch} {E : Ev} {K : List Sh} {x1 : Int32} {M : Mem} {r : Int32} {M' : Mem} (hL : nq_atNine E K) (h : fX8_tell x1 M = some (r, M')) : nq_MA l E yX8_tell wsX8_tell (nq_rm 2) [.ref (nq_ad E 0), .int x1] K M (some (.int r)) K M' :=
  nq_met (own := RX8) (cc := cX8_tell) (maxL := 2) (ret := (some .int)) (by decide) rfl rfl (Nat.le_of_ble_eq_true rfl) (fun X hX hr => mX8_tell hL hX hr h)

theorem inX8_firstUnlike_8 : ∀ w ∈ u_ws RX8 TX8 11, w ∈ wsX8_firstUnlike := by
  intro w h; unfold wsX8_firstUnlike; simp only [List.mem_cons, List.mem_append]; simp only [h, true_or, or_true]
theorem lkX8_firstUnlike_16 : Cond.fieldLink RX8 16 (TX8 1).1 (TX8 1).2.1 (TX8 1).2.2.1 ∈ wsX8_firstUnlike := by decide +kernel
theorem inX8_firstUnlike_7 : ∀ w ∈ u_ws RX7 TX7 17, w ∈ wsX8_firstUnlike := by
  intro w h; unfold wsX8_firstUnlike; simp only [List.mem_cons, List.mem_append]; simp only [h, true_or, or_true]
theorem lkX8_firstUnlike_29 : Cond.fieldLink RX8 29 (TX7 1).1 (TX7 1).2.1 (TX7 1).2.2.1 ∈ wsX8_firstUnlike := by decide +kernel
theorem inX8_firstUnlike_0 : ∀ w ∈ u_ws RX0 TX0 11, w ∈ wsX8_firstUnlike := by
  intro w h; unfold wsX8_firstUnlike; simp only [List.mem_cons, List.mem_append]; simp only [h, true_or, or_true]
theorem lkX8_firstUnlike_328 : Cond.fieldLink RX8 328 (TX0 9).1 (TX0 9).2.1 (TX0 9).2.2.1 ∈ wsX8_firstUnlike := by decide +kernel
theorem lkX8_firstUnlike_364 : Cond.fieldLink RX8 364 (TX0 10).1 (TX0 10).2.1 (TX0 10).2.2.1 ∈ wsX8_firstUnlike := by decide +kernel
theorem lkX8_firstUnlike_147 : Cond.fieldLink RX8 147 (TX0 6).1 (TX0 6).2.1 (TX0 6).2.2.1 ∈ wsX8_firstUnlike := by decide +kernel
theorem lkX8_firstUnlike_156 : Cond.fieldLink RX8 156 (TX7 9).1 (TX7 9).2.1 (TX7 9).2.2.1 ∈ wsX8_firstUnlike := by decide +kernel
theorem lkX8_firstUnlike_319 : Cond.fieldLink RX8 319 (TX7 8).1 (TX7 8).2.1 (TX7 8).2.2.1 ∈ wsX8_firstUnlike := by decide +kernel
def fX8_firstUnlike_B15 (x1 : Int32) (x2 : Int32) (x3 : Int32) (x5 : Int32) (x6 : Int32) (M : Mem) : Option ((Int32 × Int32) ⊕ ((Int32) ⊕ (Int32))) :=
  nq_lt (M 6 9) fun v1 =>
  if v1 ≤ x6 then
  (some (.inr (.inl x5)))
  else
  ((nq_ag (M 15) 80 x6).bind fun v3 =>
  (nq_ag (M 12) 80 v3).bind fun v4 =>
  nq_lt (M 2 9) fun v5 =>
  if v4 ≤ v5 then
  ((fX0_isFor 6 v3 x1 x2 M).bind fun v8 =>
  if v8 = 0 then
  (nq_lt (x6 + (1 : Int32)) fun v10 =>
  some (.inl (x5, v10)))
  else
  (if x3 ≤ x5 then
  (some (.inr (.inr ((1 : Int32) + x5))))
  else
  ((nq_ag (M 22) 20 x5).bind fun v12 =>
  if v12 = v3 then
  (nq_lt (x5 + (1 : Int32)) fun v14 =>
  nq_lt (x6 + (1 : Int32)) fun v15 =>
  some (.inl (v14, v15)))
  else
  (some (.inr (.inr ((1 : Int32) + x5)))))))
  else
  (some (.inr (.inl x5))))
set_option maxHeartbeats 4000000 in
theorem mX8_firstUnlike_B15 {X : Cx} {E : Ev} {l : Launch} {K : List Sh} {x1 : Int32} {x2 : Int32} {x3 : Int32} {x5 : Int32} {x6 : Int32} {M : Mem} (hL : nq_atNine E K) (hX : nq_OK X E l (nq_rm 2) cX8_firstUnlike 8 RX8 wsX8_firstUnlike) {x : (Int32 × Int32) ⊕ ((Int32) ⊕ (Int32))} (hc : ∀ s' : Int32 × Int32, x = .inl s' → nq_G X E 8 15 [(0, .ref (nq_ad E 0)), (1, .int x1), (2, .int x2), (3, .int x3), (4, .ref (nq_ad E 6)), (5, .int s'.1), (6, .int s'.2)] [] K M) (he : ∀ s' : Int32, x = .inr (.inl s') → nq_G X E 8 103 [(3, .int x3), (5, .int s')] [] K M) (hret : ∀ r : Int32, x = .inr (.inr r) → nq_RT X E (some .int) (some (.int r)) K M) (h : fX8_firstUnlike_B15 x1 x2 x3 x5 x6 M = some x) : nq_G X E 8 15 [(0, .ref (nq_ad E 0)), (1, .int x1), (2, .int x2), (3, .int x3), (4, .ref (nq_ad E 6)), (5, .int x5), (6, .int x6)] [] K M := by
  unfold fX8_firstUnlike_B15 at h
  refine nq_iload hX 6 rfl dX8_firstUnlike_15 ?_
  refine nq_aload hX 4 rfl dX8_firstUnlike_17 ?_
  obtain ⟨v1, e1, h⟩ := nq_ltE h
  refine nq_geti hX inX8_firstUnlike_0 (nq_Letters_0 (nq_World_letters (nq_Nine_world hL))) rfl 9 (by decide) lkX8_firstUnlike_328 rfl e1 dX8_firstUnlike_19 ?_
  refine nq_icmp_ge hX (tgt := 103) (by decide) dX8_firstUnlike_22 (fun c2 => ?_) (fun c2 => ?_)
  · rw [if_pos c2] at h
    refine nq_sub (lv' := [(3, .int x3), (5, .int x5)]) [3, 5] rfl ?_
    exact he x5 (nq_sE h).symm
  · rw [if_neg c2] at h
    refine nq_aload hX 4 rfl dX8_firstUnlike_25 ?_
    refine nq_getr (v := .ref (nq_ad E 15)) hX inX8_firstUnlike_0 (nq_Letters_0 (nq_World_letters (nq_Nine_world hL))) rfl 10 (by decide) lkX8_firstUnlike_364 _ rfl rfl dX8_firstUnlike_27 ?_
    refine nq_iload hX 6 rfl dX8_firstUnlike_30 ?_
    obtain ⟨v3, e3, hi3, h⟩ := nq_agE h
    refine nq_iald hX (nq_Letters_arriving (nq_World_letters (nq_Nine_world hL))) e3 hi3 dX8_firstUnlike_32 ?_
    refine nq_istore hX (lv' := [(7, .int v3), (0, .ref (nq_ad E 0)), (1, .int x1), (2, .int x2), (3, .int x3), (4, .ref (nq_ad E 6)), (5, .int x5), (6, .int x6)]) (by decide) rfl rfl dX8_firstUnlike_33 ?_
    refine nq_aload hX 5 rfl dX8_firstUnlike_35 ?_
    refine nq_getr (v := .ref (nq_ad E 12)) hX inX8_firstUnlike_0 (nq_Letters_0 (nq_World_letters (nq_Nine_world hL))) rfl 6 (by decide) lkX8_firstUnlike_147 _ rfl rfl dX8_firstUnlike_37 ?_
    refine nq_iload hX 0 rfl dX8_firstUnlike_40 ?_
    obtain ⟨v4, e4, hi4, h⟩ := nq_agE h
    refine nq_iald hX (nq_Letters_comes (nq_World_letters (nq_Nine_world hL))) e4 hi4 dX8_firstUnlike_42 ?_
    refine nq_aload_n hX rfl 1 rfl dX8_firstUnlike_43 ?_
    refine nq_getr (v := .ref (nq_ad E 2)) hX inX8_firstUnlike_8 (nq_Nine_0 hL) rfl 1 (by decide) lkX8_firstUnlike_16 _ rfl rfl dX8_firstUnlike_44 ?_
    obtain ⟨v5, e5, h⟩ := nq_ltE h
    refine nq_geti hX inX8_firstUnlike_7 (nq_World_0 (nq_Nine_world hL)) rfl 9 (by decide) lkX8_firstUnlike_156 rfl e5 dX8_firstUnlike_47 ?_
    refine nq_icmp_le hX (tgt := 56) (by decide) dX8_firstUnlike_50 (fun c6 => ?_) (fun c6 => ?_)
    · rw [if_pos c6] at h
      refine nq_aload hX 5 rfl dX8_firstUnlike_56 ?_
      refine nq_iload hX 0 rfl dX8_firstUnlike_58 ?_
      refine nq_iload_n hX rfl 2 rfl dX8_firstUnlike_60 ?_
      refine nq_iload_n hX rfl 3 rfl dX8_firstUnlike_61 ?_
      obtain ⟨v8, hc7, h⟩ := nq_bE h
      refine nq_callVi hX (tX0_isFor (nq_World_letters (nq_Nine_world hL)) hc7) gX8_firstUnlike_X0_isFor rfl rfl dsX0_isFor (by decide) (nq_Letters_0 (nq_World_letters (nq_Nine_world hL))) rfl rfl (Nat.le_of_ble_eq_true rfl) dX8_firstUnlike_62 ?_
      refine nq_if_eq hX (tgt := 97) (by decide) dX8_firstUnlike_65 (fun c9 => ?_) (fun c9 => ?_)
      · rw [if_pos c9] at h
        obtain ⟨v10, e10, h⟩ := nq_ltE h
        refine nq_iinc hX (lv' := [(6, .int v10), (7, .int v3), (0, .ref (nq_ad E 0)), (1, .int x1), (2, .int x2), (3, .int x3), (4, .ref (nq_ad E 6)), (5, .int x5)]) (j := 7) rfl (e10.trans rfl) (by decide) rfl dX8_firstUnlike_97 ?_
        refine nq_goto hX (tgt := 15) (by decide) dX8_firstUnlike_100 ?_
        refine nq_sub (lv' := [(0, .ref (nq_ad E 0)), (1, .int x1), (2, .int x2), (3, .int x3), (4, .ref (nq_ad E 6)), (5, .int x5), (6, .int v10)]) [2, 3, 4, 5, 6, 7, 0] rfl ?_
        exact hc (x5, v10) (nq_sE h).symm
      · rw [if_neg c9] at h
        refine nq_iload hX 6 rfl dX8_firstUnlike_68 ?_
        refine nq_iload_n hX rfl 4 rfl dX8_firstUnlike_70 ?_
        refine nq_icmp_ge hX (tgt := 89) (by decide) dX8_firstUnlike_71 (fun c11 => ?_) (fun c11 => ?_)
        · rw [if_pos c11] at h
          refine nq_iconst hX (v := 1) (by decide) dX8_firstUnlike_89 ?_
          refine nq_iload hX 6 rfl dX8_firstUnlike_90 ?_
          refine nq_iadd hX dX8_firstUnlike_92 ?_
          exact nq_iret hX (hret ((1 : Int32) + x5) (nq_sE h).symm) dX8_firstUnlike_93
        · rw [if_neg c11] at h
          refine nq_aload_n hX rfl 1 rfl dX8_firstUnlike_74 ?_
          refine nq_getr (v := .ref (nq_ad E 2)) hX inX8_firstUnlike_8 (nq_Nine_0 hL) rfl 1 (by decide) lkX8_firstUnlike_16 _ rfl rfl dX8_firstUnlike_75 ?_
          refine nq_getr (v := .ref (nq_ad E 22)) hX inX8_firstUnlike_7 (nq_World_0 (nq_Nine_world hL)) rfl 8 (by decide) lkX8_firstUnlike_319 _ rfl rfl dX8_firstUnlike_78 ?_
          refine nq_iload hX 6 rfl dX8_firstUnlike_81 ?_
          obtain ⟨v12, e12, hi12, h⟩ := nq_agE h
          refine nq_iald hX (nq_World_waiting (nq_Nine_world hL)) e12 hi12 dX8_firstUnlike_83 ?_
          refine nq_iload hX 0 rfl dX8_firstUnlike_84 ?_
          refine nq_icmp_eq hX (tgt := 94) (by decide) dX8_firstUnlike_86 (fun c13 => ?_) (fun c13 => ?_)
          · rw [if_pos c13] at h
            obtain ⟨v14, e14, h⟩ := nq_ltE h
            refine nq_iinc hX (lv' := [(5, .int v14), (7, .int v3), (0, .ref (nq_ad E 0)), (1, .int x1), (2, .int x2), (3, .int x3), (4, .ref (nq_ad E 6)), (6, .int x6)]) (j := 6) rfl (e14.trans rfl) (by decide) rfl dX8_firstUnlike_94 ?_
            obtain ⟨v15, e15, h⟩ := nq_ltE h
            refine nq_iinc hX (lv' := [(6, .int v15), (5, .int v14), (7, .int v3), (0, .ref (nq_ad E 0)), (1, .int x1), (2, .int x2), (3, .int x3), (4, .ref (nq_ad E 6))]) (j := 7) rfl (e15.trans rfl) (by decide) rfl dX8_firstUnlike_97 ?_
            refine nq_goto hX (tgt := 15) (by decide) dX8_firstUnlike_100 ?_
            refine nq_sub (lv' := [(0, .ref (nq_ad E 0)), (1, .int x1), (2, .int x2), (3, .int x3), (4, .ref (nq_ad E 6)), (5, .int v14), (6, .int v15)]) [3, 4, 5, 6, 7, 1, 0] rfl ?_
            exact hc (v14, v15) (nq_sE h).symm
          · rw [if_neg c13] at h
            refine nq_iconst hX (v := 1) (by decide) dX8_firstUnlike_89 ?_
            refine nq_iload hX 6 rfl dX8_firstUnlike_90 ?_
            refine nq_iadd hX dX8_firstUnlike_92 ?_
            exact nq_iret hX (hret ((1 : Int32) + x5) (nq_sE h).symm) dX8_firstUnlike_93
    · rw [if_neg c6] at h
      refine nq_goto hX (tgt := 103) (by decide) dX8_firstUnlike_53 ?_
      refine nq_sub (lv' := [(3, .int x3), (5, .int x5)]) [4, 6] rfl ?_
      exact he x5 (nq_sE h).symm
def fX8_firstUnlike_L103 (x3 : Int32) (x5 : Int32) (M : Mem) : Option (Int32) :=
  if x3 ≤ x5 then
  (some (0 : Int32))
  else
  (some ((1 : Int32) + x5))
set_option maxHeartbeats 4000000 in
theorem mX8_firstUnlike_L103 {X : Cx} {E : Ev} {l : Launch} {K : List Sh} {x3 : Int32} {x5 : Int32} {M : Mem} {r : Int32} (hL : nq_atNine E K) (hX : nq_OK X E l (nq_rm 2) cX8_firstUnlike 8 RX8 wsX8_firstUnlike) (hr : nq_RT X E (some .int) (some (.int r)) K M) (h : fX8_firstUnlike_L103 x3 x5 M = some r) : nq_G X E 8 103 [(3, .int x3), (5, .int x5)] [] K M := by
  unfold fX8_firstUnlike_L103 at h
  refine nq_iload_n hX rfl 0 rfl dX8_firstUnlike_103 ?_
  refine nq_iload hX 1 rfl dX8_firstUnlike_104 ?_
  refine nq_icmp_le hX (tgt := 116) (by decide) dX8_firstUnlike_106 (fun c16 => ?_) (fun c16 => ?_)
  · rw [if_pos c16] at h
    refine nq_iconst hX (v := 0) (by decide) dX8_firstUnlike_116 ?_
    obtain rfl := nq_sE1 h; exact nq_iret hX hr dX8_firstUnlike_117
  · rw [if_neg c16] at h
    refine nq_iconst hX (v := 1) (by decide) dX8_firstUnlike_109 ?_
    refine nq_iload hX 1 rfl dX8_firstUnlike_110 ?_
    refine nq_iadd hX dX8_firstUnlike_112 ?_
    refine nq_goto hX (tgt := 117) (by decide) dX8_firstUnlike_113 ?_
    obtain rfl := nq_sE1 h; exact nq_iret hX hr dX8_firstUnlike_117
def fX8_firstUnlike_L15 (x1 : Int32) (x2 : Int32) (x3 : Int32) (x5 : Int32) (x6 : Int32) (M : Mem) : Option (Int32) :=
  (nq_lp (fun s : Int32 × Int32 => fX8_firstUnlike_B15 x1 x2 x3 s.1 s.2 M) nq_fuel (x5, x6)).bind (Sum.elim (fun e => fX8_firstUnlike_L103 x3 e M) (fun r1 => some r1))
set_option maxHeartbeats 4000000 in
theorem mX8_firstUnlike_L15 {X : Cx} {E : Ev} {l : Launch} {K : List Sh} {x1 : Int32} {x2 : Int32} {x3 : Int32} {x5 : Int32} {x6 : Int32} {M : Mem} {r : Int32} (hL : nq_atNine E K) (hX : nq_OK X E l (nq_rm 2) cX8_firstUnlike 8 RX8 wsX8_firstUnlike) (hr : nq_RT X E (some .int) (some (.int r)) K M) (h : fX8_firstUnlike_L15 x1 x2 x3 x5 x6 M = some r) : nq_G X E 8 15 [(0, .ref (nq_ad E 0)), (1, .int x1), (2, .int x2), (3, .int x3), (4, .ref (nq_ad E 6)), (5, .int x5), (6, .int x6)] [] K M := by
  unfold fX8_firstUnlike_L15 at h
  obtain ⟨e, h1, h⟩ := nq_bE h
  have key : ∀ (ex : (Int32) ⊕ (Int32)), nq_lp (fun s : Int32 × Int32 => fX8_firstUnlike_B15 x1 x2 x3 s.1 s.2 M) nq_fuel (x5, x6) = some ex → (∀ e, ex = .inl e → nq_G X E 8 103 [(3, .int x3), (5, .int e)] [] K M) → (∀ r, ex = .inr r → nq_RT X E (some .int) (some (.int r)) K M) → nq_G X E 8 15 [(0, .ref (nq_ad E 0)), (1, .int x1), (2, .int x2), (3, .int x3), (4, .ref (nq_ad E 6)), (5, .int ((x5, x6).1)), (6, .int ((x5, x6).2))] [] K M := by
    intro ex h1 hE hR
    refine nq_lpE (P := fun s : Int32 × Int32 => nq_G X E 8 15 [(0, .ref (nq_ad E 0)), (1, .int x1), (2, .int x2), (3, .int x3), (4, .ref (nq_ad E 6)), (5, .int s.1), (6, .int s.2)] [] K M) (r := ex) ?_ nq_fuel (x5, x6) h1
    intro s xx hx1 hc1 he1
    exact mX8_firstUnlike_B15 hL hX hc1 (fun e q => hE e (he1 _ q).symm) (fun r q => hR r (he1 _ q).symm) hx1
  refine key e h1 (fun e q => ?_) (fun r1 q => ?_)
  · subst q
    have h : fX8_firstUnlike_L103 x3 e M = some r := h
    exact mX8_firstUnlike_L103 hL hX hr h
  · subst q
    have h : some r1 = some r := h
    obtain rfl := nq_sE1 h; exact hr
def fX8_firstUnlike (x1 : Int32) (x2 : Int32) (x3 : Int32) (M : Mem) : Option (Int32) :=
  fX8_firstUnlike_L15 x1 x2 x3 (0 : Int32) (0 : Int32) M
set_option maxHeartbeats 4000000 in
theorem mX8_firstUnlike {X : Cx} {E : Ev} {l : Launch} {K : List Sh} {x1 : Int32} {x2 : Int32} {x3 : Int32} {M : Mem} {r : Int32} (hL : nq_atNine E K) (hX : nq_OK X E l (nq_rm 2) cX8_firstUnlike 8 RX8 wsX8_firstUnlike) (hr : nq_RT X E (some .int) (some (.int r)) K M) (h : fX8_firstUnlike x1 x2 x3 M = some r) : nq_G X E 8 0 [(0, .ref (nq_ad E 0)), (1, .int x1), (2, .int x2), (3, .int x3)] [] K M := by
  unfold fX8_firstUnlike at h
  refine nq_aload_n hX rfl 0 rfl dX8_firstUnlike_0 ?_
  refine nq_getr (v := .ref (nq_ad E 2)) hX inX8_firstUnlike_8 (nq_Nine_0 hL) rfl 1 (by decide) lkX8_firstUnlike_16 _ rfl rfl dX8_firstUnlike_1 ?_
  refine nq_getr (v := .ref (nq_ad E 6)) hX inX8_firstUnlike_7 (nq_World_0 (nq_Nine_world hL)) rfl 1 (by decide) lkX8_firstUnlike_29 _ rfl rfl dX8_firstUnlike_4 ?_
  refine nq_astore hX (lv' := [(4, .ref (nq_ad E 6)), (0, .ref (nq_ad E 0)), (1, .int x1), (2, .int x2), (3, .int x3)]) (by decide) rfl rfl dX8_firstUnlike_7 ?_
  refine nq_iconst hX (v := 0) (by decide) dX8_firstUnlike_9 ?_
  refine nq_istore hX (lv' := [(5, .int (0 : Int32)), (4, .ref (nq_ad E 6)), (0, .ref (nq_ad E 0)), (1, .int x1), (2, .int x2), (3, .int x3)]) (by decide) rfl rfl dX8_firstUnlike_10 ?_
  refine nq_iconst hX (v := 0) (by decide) dX8_firstUnlike_12 ?_
  refine nq_istore hX (lv' := [(6, .int (0 : Int32)), (5, .int (0 : Int32)), (4, .ref (nq_ad E 6)), (0, .ref (nq_ad E 0)), (1, .int x1), (2, .int x2), (3, .int x3)]) (by decide) rfl rfl dX8_firstUnlike_13 ?_
  refine nq_sub (lv' := [(0, .ref (nq_ad E 0)), (1, .int x1), (2, .int x2), (3, .int x3), (4, .ref (nq_ad E 6)), (5, .int (0 : Int32)), (6, .int (0 : Int32))]) [3, 4, 5, 6, 2, 1, 0] rfl ?_
  exact mX8_firstUnlike_L15 hL hX hr h
theorem dsX8_firstUnlike : yX8_firstUnlike.cls ≠ "java/lang/invoke/MethodHandle" ∧ yX8_firstUnlike.cls ≠ "java/lang/invoke/VarHandle" ∧ (parseMethodDescriptor yX8_firstUnlike.desc).map (fun d => d.parameters.length) = some 3 := by decide +kernel
theorem tX8_firstUnlike {l : Launch} {E : Ev} {K : List Sh} {x1 : Int32} {x2 : Int32} {x3 : Int32} {M : Mem} {r : Int32} (hL : nq_atNine E K) (h : fX8_firstUnlike x1 x2 x3 M = some r) : nq_MA l E yX8_firstUnlike wsX8_firstUnlike (nq_rm 2) [.ref (nq_ad E 0), .int x1, .int x2, .int x3] K M (some (.int r)) K M :=
  nq_met (own := RX8) (cc := cX8_firstUnlike) (maxL := 8) (ret := (some .int)) (by decide) rfl rfl (Nat.le_of_ble_eq_true rfl) (fun X hX hr => mX8_firstUnlike hL hX hr h)

theorem inX8_check_8 : ∀ w ∈ u_ws RX8 TX8 11, w ∈ wsX8_check := by
  intro w h; unfold wsX8_check; simp only [List.mem_cons, List.mem_append]; simp only [h, true_or, or_true]
theorem lkX8_check_16 : Cond.fieldLink RX8 16 (TX8 1).1 (TX8 1).2.1 (TX8 1).2.2.1 ∈ wsX8_check := by decide +kernel
theorem inX8_check_7 : ∀ w ∈ u_ws RX7 TX7 17, w ∈ wsX8_check := by
  intro w h; unfold wsX8_check; simp only [List.mem_cons, List.mem_append]; simp only [h, true_or, or_true]
theorem lkX8_check_316 : Cond.fieldLink RX8 316 (TX7 16).1 (TX7 16).2.1 (TX7 16).2.2.1 ∈ wsX8_check := by decide +kernel
def fX8_check (x1 : Int32) (x2 : Int32) (M : Mem) : Option (Int32 × Mem) :=
  nq_lt (M 2 16) fun v1 =>
  nq_lt (nq_wr M 2 16 (0 : Int32)) fun M2 =>
  (fX8_isPlace x1 M2).bind fun v4 =>
  if v4 = 0 then
  (nq_b2 (fX8_refuse (1 : Int32) M2) fun v7 M8 =>
  some (v7, M8))
  else
  ((fX8_isPact x2 M2).bind fun v10 =>
  if v10 = 0 then
  (nq_b2 (fX8_refuse (1 : Int32) M2) fun v13 M14 =>
  some (v13, M14))
  else
  ((fX8_firstUnlike x1 x2 v1 M2).bind fun v16 =>
  some (v16, M2)))
set_option maxHeartbeats 4000000 in
theorem mX8_check {X : Cx} {E : Ev} {l : Launch} {K : List Sh} {x1 : Int32} {x2 : Int32} {M : Mem} {r : Int32} {M' : Mem} (hL : nq_atNine E K) (hX : nq_OK X E l (nq_rm 3) cX8_check 4 RX8 wsX8_check) (hr : nq_RT X E (some .int) (some (.int r)) K M') (h : fX8_check x1 x2 M = some (r, M')) : nq_G X E 4 0 [(0, .ref (nq_ad E 0)), (1, .int x1), (2, .int x2)] [] K M := by
  unfold fX8_check at h
  refine nq_aload_n hX rfl 0 rfl dX8_check_0 ?_
  refine nq_getr (v := .ref (nq_ad E 2)) hX inX8_check_8 (nq_Nine_0 hL) rfl 1 (by decide) lkX8_check_16 _ rfl rfl dX8_check_1 ?_
  obtain ⟨v1, e1, h⟩ := nq_ltE h
  refine nq_geti hX inX8_check_7 (nq_World_0 (nq_Nine_world hL)) rfl 16 (by decide) lkX8_check_316 rfl e1 dX8_check_4 ?_
  refine nq_istore_n hX (lv' := [(3, .int v1), (0, .ref (nq_ad E 0)), (1, .int x1), (2, .int x2)]) rfl (by decide) rfl rfl dX8_check_7 ?_
  refine nq_aload_n hX rfl 1 rfl dX8_check_8 ?_
  refine nq_getr (v := .ref (nq_ad E 2)) hX inX8_check_8 (nq_Nine_0 hL) rfl 1 (by decide) lkX8_check_16 _ rfl rfl dX8_check_9 ?_
  refine nq_iconst hX (v := 0) (by decide) dX8_check_12 ?_
  obtain ⟨M2, eM2, h⟩ := nq_ltE h
  refine nq_puti hX inX8_check_7 tyX7 tyX7_ok nmX7 (nq_World_0 (nq_Nine_world hL)) rfl 16 (by decide) lkX8_check_316 rfl rfl rfl rfl rfl eM2 dX8_check_13 ?_
  refine nq_aload_n hX rfl 1 rfl dX8_check_16 ?_
  refine nq_iload_n hX rfl 2 rfl dX8_check_17 ?_
  obtain ⟨v4, hc3, h⟩ := nq_bE h
  refine nq_callVi hX (tX8_isPlace hL hc3) gX8_check_X8_isPlace rfl rfl dsX8_isPlace (by decide) (nq_Nine_0 hL) rfl rfl (Nat.le_of_ble_eq_true rfl) dX8_check_18 ?_
  refine nq_if_eq hX (tgt := 31) (by decide) dX8_check_21 (fun c5 => ?_) (fun c5 => ?_)
  · rw [if_pos c5] at h
    refine nq_aload_n hX rfl 1 rfl dX8_check_31 ?_
    refine nq_iconst hX (v := 1) (by decide) dX8_check_32 ?_
    obtain ⟨v7, M8, hc6, h⟩ := nq_b2E h
    refine nq_callVi hX (tX8_refuse hL hc6) gX8_check_X8_refuse rfl rfl dsX8_refuse (by decide) (nq_Nine_0 hL) rfl rfl (Nat.le_of_ble_eq_true rfl) dX8_check_33 ?_
    obtain ⟨rfl, rfl⟩ := nq_sE2 h; exact nq_iret hX hr dX8_check_36
  · rw [if_neg c5] at h
    refine nq_iload_n hX rfl 3 rfl dX8_check_24 ?_
    obtain ⟨v10, hc9, h⟩ := nq_bE h
    refine nq_callSi hX (tX8_isPact  hc9) gX8_check_X8_isPact rfl rfl dsX8_isPact (by decide) rfl (Nat.le_of_ble_eq_true rfl) dX8_check_25 ?_
    refine nq_if_ne hX (tgt := 37) (by decide) dX8_check_28 (fun c11 => ?_) (fun c11 => ?_)
    · rw [if_pos c11] at h
      refine nq_aload_n hX rfl 1 rfl dX8_check_31 ?_
      refine nq_iconst hX (v := 1) (by decide) dX8_check_32 ?_
      obtain ⟨v13, M14, hc12, h⟩ := nq_b2E h
      refine nq_callVi hX (tX8_refuse hL hc12) gX8_check_X8_refuse rfl rfl dsX8_refuse (by decide) (nq_Nine_0 hL) rfl rfl (Nat.le_of_ble_eq_true rfl) dX8_check_33 ?_
      obtain ⟨rfl, rfl⟩ := nq_sE2 h; exact nq_iret hX hr dX8_check_36
    · rw [if_neg c11] at h
      refine nq_aload_n hX rfl 1 rfl dX8_check_37 ?_
      refine nq_iload_n hX rfl 2 rfl dX8_check_38 ?_
      refine nq_iload_n hX rfl 3 rfl dX8_check_39 ?_
      refine nq_iload_n hX rfl 0 rfl dX8_check_40 ?_
      obtain ⟨v16, hc15, h⟩ := nq_bE h
      refine nq_callVi hX (tX8_firstUnlike hL hc15) gX8_check_X8_firstUnlike rfl rfl dsX8_firstUnlike (by decide) (nq_Nine_0 hL) rfl rfl (Nat.le_of_ble_eq_true rfl) dX8_check_41 ?_
      obtain ⟨rfl, rfl⟩ := nq_sE2 h; exact nq_iret hX hr dX8_check_44
theorem dsX8_check : yX8_check.cls ≠ "java/lang/invoke/MethodHandle" ∧ yX8_check.cls ≠ "java/lang/invoke/VarHandle" ∧ (parseMethodDescriptor yX8_check.desc).map (fun d => d.parameters.length) = some 2 := by decide +kernel
theorem tX8_check {l : Launch} {E : Ev} {K : List Sh} {x1 : Int32} {x2 : Int32} {M : Mem} {r : Int32} {M' : Mem} (hL : nq_atNine E K) (h : fX8_check x1 x2 M = some (r, M')) : nq_MA l E yX8_check wsX8_check (nq_rm 3) [.ref (nq_ad E 0), .int x1, .int x2] K M (some (.int r)) K M' :=
  nq_met (own := RX8) (cc := cX8_check) (maxL := 4) (ret := (some .int)) (by decide) rfl rfl (Nat.le_of_ble_eq_true rfl) (fun X hX hr => mX8_check hL hX hr h)

theorem inX8_count_8 : ∀ w ∈ u_ws RX8 TX8 11, w ∈ wsX8_count := by
  intro w h; unfold wsX8_count; simp only [List.mem_cons, List.mem_append]; simp only [h, true_or, or_true]
theorem lkX8_count_16 : Cond.fieldLink RX8 16 (TX8 1).1 (TX8 1).2.1 (TX8 1).2.2.1 ∈ wsX8_count := by decide +kernel
theorem inX8_count_7 : ∀ w ∈ u_ws RX7 TX7 17, w ∈ wsX8_count := by
  intro w h; unfold wsX8_count; simp only [List.mem_cons, List.mem_append]; simp only [h, true_or, or_true]
theorem lkX8_count_156 : Cond.fieldLink RX8 156 (TX7 9).1 (TX7 9).2.1 (TX7 9).2.2.1 ∈ wsX8_count := by decide +kernel
theorem lkX8_count_70 : Cond.fieldLink RX8 70 (TX7 0).1 (TX7 0).2.1 (TX7 0).2.2.1 ∈ wsX8_count := by decide +kernel
theorem inX8_count_2 : ∀ w ∈ u_ws RX2 TX2 3, w ∈ wsX8_count := by
  intro w h; unfold wsX8_count; simp only [List.mem_cons, List.mem_append]; simp only [h, true_or, or_true]
theorem lkX8_count_74 : Cond.fieldLink RX8 74 (TX2 0).1 (TX2 0).2.1 (TX2 0).2.2.1 ∈ wsX8_count := by decide +kernel
theorem lkX8_count_29 : Cond.fieldLink RX8 29 (TX7 1).1 (TX7 1).2.1 (TX7 1).2.2.1 ∈ wsX8_count := by decide +kernel
theorem inX8_count_0 : ∀ w ∈ u_ws RX0 TX0 11, w ∈ wsX8_count := by
  intro w h; unfold wsX8_count; simp only [List.mem_cons, List.mem_append]; simp only [h, true_or, or_true]
theorem lkX8_count_325 : Cond.fieldLink RX8 325 (TX0 0).1 (TX0 0).2.1 (TX0 0).2.2.1 ∈ wsX8_count := by decide +kernel
theorem lkX8_count_328 : Cond.fieldLink RX8 328 (TX0 9).1 (TX0 9).2.1 (TX0 9).2.2.1 ∈ wsX8_count := by decide +kernel
theorem lkX8_count_255 : Cond.fieldLink RX8 255 (TX7 15).1 (TX7 15).2.1 (TX7 15).2.2.1 ∈ wsX8_count := by decide +kernel
theorem lkX8_count_193 : Cond.fieldLink RX8 193 (TX7 14).1 (TX7 14).2.1 (TX7 14).2.2.1 ∈ wsX8_count := by decide +kernel
theorem lkX8_count_316 : Cond.fieldLink RX8 316 (TX7 16).1 (TX7 16).2.1 (TX7 16).2.2.1 ∈ wsX8_count := by decide +kernel
theorem lkX8_count_59 : Cond.fieldLink RX8 59 (TX8 9).1 (TX8 9).2.1 (TX8 9).2.2.1 ∈ wsX8_count := by decide +kernel
theorem inX8_count_6 : ∀ w ∈ u_ws RX6 TX6 5, w ∈ wsX8_count := by
  intro w h; unfold wsX8_count; simp only [List.mem_cons, List.mem_append]; simp only [h, true_or, or_true]
theorem lkX8_count_292 : Cond.fieldLink RX8 292 (TX6 1).1 (TX6 1).2.1 (TX6 1).2.2.1 ∈ wsX8_count := by decide +kernel
theorem lkX8_count_282 : Cond.fieldLink RX8 282 (TX7 13).1 (TX7 13).2.1 (TX7 13).2.2.1 ∈ wsX8_count := by decide +kernel
def fX8_count (x1 : Int32) (M : Mem) : Option (Int32 × Mem) :=
  if x1 = 0 then
  (nq_lt (M 2 9) fun v2 =>
  some (v2, M))
  else if x1 = 1 then
  (nq_lt (M 3 0) fun v3 =>
  some (v3, M))
  else if x1 = 2 then
  (nq_lt (M 6 0) fun v4 =>
  some (v4, M))
  else if x1 = 3 then
  (nq_lt (M 6 0) fun v5 =>
  nq_lt (M 6 9) fun v6 =>
  some ((v5 - v6), M))
  else if x1 = 4 then
  (nq_lt (M 2 15) fun v7 =>
  some (v7, M))
  else if x1 = 5 then
  (nq_lt (M 2 14) fun v8 =>
  some (v8, M))
  else if x1 = 6 then
  (nq_lt (M 2 16) fun v9 =>
  some (v9, M))
  else if x1 = 7 then
  (nq_lt (M 84 1) fun v10 =>
  some (v10, M))
  else if x1 = 8 then
  (nq_lt (M 2 13) fun v11 =>
  some (v11, M))
  else (nq_b2 (fX8_refuse (1 : Int32) M) fun v13 M14 =>
  some (v13, M14))
set_option maxHeartbeats 4000000 in
theorem mX8_count {X : Cx} {E : Ev} {l : Launch} {K : List Sh} {x1 : Int32} {M : Mem} {r : Int32} {M' : Mem} (hL : nq_atNine E K) (hX : nq_OK X E l (nq_rm 2) cX8_count 2 RX8 wsX8_count) (hr : nq_RT X E (some .int) (some (.int r)) K M') (h : fX8_count x1 M = some (r, M')) : nq_G X E 2 0 [(0, .ref (nq_ad E 0)), (1, .int x1)] [] K M := by
  unfold fX8_count at h
  refine nq_iload_n hX rfl 1 rfl dX8_count_0 ?_
  by_cases c1_0 : x1 = 0
  · rw [if_pos c1_0] at h; refine nq_tabI hX (tgt := 52) (off := 51) dX8_count_1 (by rw [c1_0]; decide) (by rw [c1_0]; decide) (by rw [c1_0]; rfl) (by decide) ?_
    refine nq_aload_n hX rfl 0 rfl dX8_count_52 ?_
    refine nq_getr (v := .ref (nq_ad E 2)) hX inX8_count_8 (nq_Nine_0 hL) rfl 1 (by decide) lkX8_count_16 _ rfl rfl dX8_count_53 ?_
    obtain ⟨v2, e2, h⟩ := nq_ltE h
    refine nq_geti hX inX8_count_7 (nq_World_0 (nq_Nine_world hL)) rfl 9 (by decide) lkX8_count_156 rfl e2 dX8_count_56 ?_
    obtain ⟨rfl, rfl⟩ := nq_sE2 h; exact nq_iret hX hr dX8_count_59
  rw [if_neg c1_0] at h
  by_cases c1_1 : x1 = 1
  · rw [if_pos c1_1] at h; refine nq_tabI hX (tgt := 60) (off := 59) dX8_count_1 (by rw [c1_1]; decide) (by rw [c1_1]; decide) (by rw [c1_1]; rfl) (by decide) ?_
    refine nq_aload_n hX rfl 0 rfl dX8_count_60 ?_
    refine nq_getr (v := .ref (nq_ad E 2)) hX inX8_count_8 (nq_Nine_0 hL) rfl 1 (by decide) lkX8_count_16 _ rfl rfl dX8_count_61 ?_
    refine nq_getr (v := .ref (nq_ad E 3)) hX inX8_count_7 (nq_World_0 (nq_Nine_world hL)) rfl 0 (by decide) lkX8_count_70 _ rfl rfl dX8_count_64 ?_
    obtain ⟨v3, e3, h⟩ := nq_ltE h
    refine nq_geti hX inX8_count_2 (nq_Roads_0 (nq_World_roads (nq_Nine_world hL))) rfl 0 (by decide) lkX8_count_74 rfl e3 dX8_count_67 ?_
    obtain ⟨rfl, rfl⟩ := nq_sE2 h; exact nq_iret hX hr dX8_count_70
  rw [if_neg c1_1] at h
  by_cases c1_2 : x1 = 2
  · rw [if_pos c1_2] at h; refine nq_tabI hX (tgt := 71) (off := 70) dX8_count_1 (by rw [c1_2]; decide) (by rw [c1_2]; decide) (by rw [c1_2]; rfl) (by decide) ?_
    refine nq_aload_n hX rfl 0 rfl dX8_count_71 ?_
    refine nq_getr (v := .ref (nq_ad E 2)) hX inX8_count_8 (nq_Nine_0 hL) rfl 1 (by decide) lkX8_count_16 _ rfl rfl dX8_count_72 ?_
    refine nq_getr (v := .ref (nq_ad E 6)) hX inX8_count_7 (nq_World_0 (nq_Nine_world hL)) rfl 1 (by decide) lkX8_count_29 _ rfl rfl dX8_count_75 ?_
    obtain ⟨v4, e4, h⟩ := nq_ltE h
    refine nq_geti hX inX8_count_0 (nq_Letters_0 (nq_World_letters (nq_Nine_world hL))) rfl 0 (by decide) lkX8_count_325 rfl e4 dX8_count_78 ?_
    obtain ⟨rfl, rfl⟩ := nq_sE2 h; exact nq_iret hX hr dX8_count_81
  rw [if_neg c1_2] at h
  by_cases c1_3 : x1 = 3
  · rw [if_pos c1_3] at h; refine nq_tabI hX (tgt := 82) (off := 81) dX8_count_1 (by rw [c1_3]; decide) (by rw [c1_3]; decide) (by rw [c1_3]; rfl) (by decide) ?_
    refine nq_aload_n hX rfl 0 rfl dX8_count_82 ?_
    refine nq_getr (v := .ref (nq_ad E 2)) hX inX8_count_8 (nq_Nine_0 hL) rfl 1 (by decide) lkX8_count_16 _ rfl rfl dX8_count_83 ?_
    refine nq_getr (v := .ref (nq_ad E 6)) hX inX8_count_7 (nq_World_0 (nq_Nine_world hL)) rfl 1 (by decide) lkX8_count_29 _ rfl rfl dX8_count_86 ?_
    obtain ⟨v5, e5, h⟩ := nq_ltE h
    refine nq_geti hX inX8_count_0 (nq_Letters_0 (nq_World_letters (nq_Nine_world hL))) rfl 0 (by decide) lkX8_count_325 rfl e5 dX8_count_89 ?_
    refine nq_aload_n hX rfl 0 rfl dX8_count_92 ?_
    refine nq_getr (v := .ref (nq_ad E 2)) hX inX8_count_8 (nq_Nine_0 hL) rfl 1 (by decide) lkX8_count_16 _ rfl rfl dX8_count_93 ?_
    refine nq_getr (v := .ref (nq_ad E 6)) hX inX8_count_7 (nq_World_0 (nq_Nine_world hL)) rfl 1 (by decide) lkX8_count_29 _ rfl rfl dX8_count_96 ?_
    obtain ⟨v6, e6, h⟩ := nq_ltE h
    refine nq_geti hX inX8_count_0 (nq_Letters_0 (nq_World_letters (nq_Nine_world hL))) rfl 9 (by decide) lkX8_count_328 rfl e6 dX8_count_99 ?_
    refine nq_isub hX dX8_count_102 ?_
    obtain ⟨rfl, rfl⟩ := nq_sE2 h; exact nq_iret hX hr dX8_count_103
  rw [if_neg c1_3] at h
  by_cases c1_4 : x1 = 4
  · rw [if_pos c1_4] at h; refine nq_tabI hX (tgt := 104) (off := 103) dX8_count_1 (by rw [c1_4]; decide) (by rw [c1_4]; decide) (by rw [c1_4]; rfl) (by decide) ?_
    refine nq_aload_n hX rfl 0 rfl dX8_count_104 ?_
    refine nq_getr (v := .ref (nq_ad E 2)) hX inX8_count_8 (nq_Nine_0 hL) rfl 1 (by decide) lkX8_count_16 _ rfl rfl dX8_count_105 ?_
    obtain ⟨v7, e7, h⟩ := nq_ltE h
    refine nq_geti hX inX8_count_7 (nq_World_0 (nq_Nine_world hL)) rfl 15 (by decide) lkX8_count_255 rfl e7 dX8_count_108 ?_
    obtain ⟨rfl, rfl⟩ := nq_sE2 h; exact nq_iret hX hr dX8_count_111
  rw [if_neg c1_4] at h
  by_cases c1_5 : x1 = 5
  · rw [if_pos c1_5] at h; refine nq_tabI hX (tgt := 112) (off := 111) dX8_count_1 (by rw [c1_5]; decide) (by rw [c1_5]; decide) (by rw [c1_5]; rfl) (by decide) ?_
    refine nq_aload_n hX rfl 0 rfl dX8_count_112 ?_
    refine nq_getr (v := .ref (nq_ad E 2)) hX inX8_count_8 (nq_Nine_0 hL) rfl 1 (by decide) lkX8_count_16 _ rfl rfl dX8_count_113 ?_
    obtain ⟨v8, e8, h⟩ := nq_ltE h
    refine nq_geti hX inX8_count_7 (nq_World_0 (nq_Nine_world hL)) rfl 14 (by decide) lkX8_count_193 rfl e8 dX8_count_116 ?_
    obtain ⟨rfl, rfl⟩ := nq_sE2 h; exact nq_iret hX hr dX8_count_119
  rw [if_neg c1_5] at h
  by_cases c1_6 : x1 = 6
  · rw [if_pos c1_6] at h; refine nq_tabI hX (tgt := 120) (off := 119) dX8_count_1 (by rw [c1_6]; decide) (by rw [c1_6]; decide) (by rw [c1_6]; rfl) (by decide) ?_
    refine nq_aload_n hX rfl 0 rfl dX8_count_120 ?_
    refine nq_getr (v := .ref (nq_ad E 2)) hX inX8_count_8 (nq_Nine_0 hL) rfl 1 (by decide) lkX8_count_16 _ rfl rfl dX8_count_121 ?_
    obtain ⟨v9, e9, h⟩ := nq_ltE h
    refine nq_geti hX inX8_count_7 (nq_World_0 (nq_Nine_world hL)) rfl 16 (by decide) lkX8_count_316 rfl e9 dX8_count_124 ?_
    obtain ⟨rfl, rfl⟩ := nq_sE2 h; exact nq_iret hX hr dX8_count_127
  rw [if_neg c1_6] at h
  by_cases c1_7 : x1 = 7
  · rw [if_pos c1_7] at h; refine nq_tabI hX (tgt := 128) (off := 127) dX8_count_1 (by rw [c1_7]; decide) (by rw [c1_7]; decide) (by rw [c1_7]; rfl) (by decide) ?_
    refine nq_aload_n hX rfl 0 rfl dX8_count_128 ?_
    refine nq_getr (v := .ref (nq_ad E 84)) hX inX8_count_8 (nq_Nine_0 hL) rfl 9 (by decide) lkX8_count_59 _ rfl rfl dX8_count_129 ?_
    obtain ⟨v10, e10, h⟩ := nq_ltE h
    refine nq_geti hX inX8_count_6 (nq_Voices_0 (nq_Nine_voices hL)) rfl 1 (by decide) lkX8_count_292 rfl e10 dX8_count_132 ?_
    obtain ⟨rfl, rfl⟩ := nq_sE2 h; exact nq_iret hX hr dX8_count_135
  rw [if_neg c1_7] at h
  by_cases c1_8 : x1 = 8
  · rw [if_pos c1_8] at h; refine nq_tabI hX (tgt := 136) (off := 135) dX8_count_1 (by rw [c1_8]; decide) (by rw [c1_8]; decide) (by rw [c1_8]; rfl) (by decide) ?_
    refine nq_aload_n hX rfl 0 rfl dX8_count_136 ?_
    refine nq_getr (v := .ref (nq_ad E 2)) hX inX8_count_8 (nq_Nine_0 hL) rfl 1 (by decide) lkX8_count_16 _ rfl rfl dX8_count_137 ?_
    obtain ⟨v11, e11, h⟩ := nq_ltE h
    refine nq_geti hX inX8_count_7 (nq_World_0 (nq_Nine_world hL)) rfl 13 (by decide) lkX8_count_282 rfl e11 dX8_count_140 ?_
    obtain ⟨rfl, rfl⟩ := nq_sE2 h; exact nq_iret hX hr dX8_count_143
  rw [if_neg c1_8] at h
  refine nq_tabO hX (tgt := 144) dX8_count_1 (by have := nq_tne (k := 0) (n := 0) (by decide) c1_0; have := nq_tne (k := 1) (n := 1) (by decide) c1_1; have := nq_tne (k := 2) (n := 2) (by decide) c1_2; have := nq_tne (k := 3) (n := 3) (by decide) c1_3; have := nq_tne (k := 4) (n := 4) (by decide) c1_4; have := nq_tne (k := 5) (n := 5) (by decide) c1_5; have := nq_tne (k := 6) (n := 6) (by decide) c1_6; have := nq_tne (k := 7) (n := 7) (by decide) c1_7; have := nq_tne (k := 8) (n := 8) (by decide) c1_8; omega) (by decide) ?_
  refine nq_aload_n hX rfl 0 rfl dX8_count_144 ?_
  refine nq_iconst hX (v := 1) (by decide) dX8_count_145 ?_
  obtain ⟨v13, M14, hc12, h⟩ := nq_b2E h
  refine nq_callVi hX (tX8_refuse hL hc12) gX8_count_X8_refuse rfl rfl dsX8_refuse (by decide) (nq_Nine_0 hL) rfl rfl (Nat.le_of_ble_eq_true rfl) dX8_count_146 ?_
  obtain ⟨rfl, rfl⟩ := nq_sE2 h; exact nq_iret hX hr dX8_count_149
theorem dsX8_count : yX8_count.cls ≠ "java/lang/invoke/MethodHandle" ∧ yX8_count.cls ≠ "java/lang/invoke/VarHandle" ∧ (parseMethodDescriptor yX8_count.desc).map (fun d => d.parameters.length) = some 1 := by decide +kernel
theorem tX8_count {l : Launch} {E : Ev} {K : List Sh} {x1 : Int32} {M : Mem} {r : Int32} {M' : Mem} (hL : nq_atNine E K) (h : fX8_count x1 M = some (r, M')) : nq_MA l E yX8_count wsX8_count (nq_rm 2) [.ref (nq_ad E 0), .int x1] K M (some (.int r)) K M' :=
  nq_met (own := RX8) (cc := cX8_count) (maxL := 2) (ret := (some .int)) (by decide) rfl rfl (Nat.le_of_ble_eq_true rfl) (fun X hX hr => mX8_count hL hX hr h)

theorem inX8_told_8 : ∀ w ∈ u_ws RX8 TX8 11, w ∈ wsX8_told := by
  intro w h; unfold wsX8_told; simp only [List.mem_cons, List.mem_append]; simp only [h, true_or, or_true]
theorem lkX8_told_9 : Cond.fieldLink RX8 9 (TX8 0).1 (TX8 0).2.1 (TX8 0).2.2.1 ∈ wsX8_told := by decide +kernel
def fX8_told (x1 : Int32) (M : Mem) : Option (Int32 × Mem) :=
  (fX8_isOutside x1 (1 : Int32) (5 : Int32) M).bind fun v2 =>
  if v2 = 0 then
  ((nq_ag (M 1) 6 x1).bind fun v4 =>
  some (v4, M))
  else
  (nq_b2 (fX8_refuse (1 : Int32) M) fun v6 M7 =>
  some (v6, M7))
set_option maxHeartbeats 4000000 in
theorem mX8_told {X : Cx} {E : Ev} {l : Launch} {K : List Sh} {x1 : Int32} {M : Mem} {r : Int32} {M' : Mem} (hL : nq_atNine E K) (hX : nq_OK X E l (nq_rm 2) cX8_told 2 RX8 wsX8_told) (hr : nq_RT X E (some .int) (some (.int r)) K M') (h : fX8_told x1 M = some (r, M')) : nq_G X E 2 0 [(0, .ref (nq_ad E 0)), (1, .int x1)] [] K M := by
  unfold fX8_told at h
  refine nq_iload_n hX rfl 1 rfl dX8_told_0 ?_
  refine nq_iconst hX (v := 1) (by decide) dX8_told_1 ?_
  refine nq_iconst hX (v := 5) (by decide) dX8_told_2 ?_
  obtain ⟨v2, hc1, h⟩ := nq_bE h
  refine nq_callSi hX (tX8_isOutside  hc1) gX8_told_X8_isOutside rfl rfl dsX8_isOutside (by decide) rfl (Nat.le_of_ble_eq_true rfl) dX8_told_3 ?_
  refine nq_if_eq hX (tgt := 17) (by decide) dX8_told_6 (fun c3 => ?_) (fun c3 => ?_)
  · rw [if_pos c3] at h
    refine nq_aload_n hX rfl 0 rfl dX8_told_17 ?_
    refine nq_getr (v := .ref (nq_ad E 1)) hX inX8_told_8 (nq_Nine_0 hL) rfl 0 (by decide) lkX8_told_9 _ rfl rfl dX8_told_18 ?_
    refine nq_iload_n hX rfl 1 rfl dX8_told_21 ?_
    obtain ⟨v4, e4, hi4, h⟩ := nq_agE h
    refine nq_iald hX (nq_Nine_refused hL) e4 hi4 dX8_told_22 ?_
    obtain ⟨rfl, rfl⟩ := nq_sE2 h; exact nq_iret hX hr dX8_told_23
  · rw [if_neg c3] at h
    refine nq_aload_n hX rfl 0 rfl dX8_told_9 ?_
    refine nq_iconst hX (v := 1) (by decide) dX8_told_10 ?_
    obtain ⟨v6, M7, hc5, h⟩ := nq_b2E h
    refine nq_callVi hX (tX8_refuse hL hc5) gX8_told_X8_refuse rfl rfl dsX8_refuse (by decide) (nq_Nine_0 hL) rfl rfl (Nat.le_of_ble_eq_true rfl) dX8_told_11 ?_
    refine nq_goto hX (tgt := 23) (by decide) dX8_told_14 ?_
    obtain ⟨rfl, rfl⟩ := nq_sE2 h; exact nq_iret hX hr dX8_told_23
theorem dsX8_told : yX8_told.cls ≠ "java/lang/invoke/MethodHandle" ∧ yX8_told.cls ≠ "java/lang/invoke/VarHandle" ∧ (parseMethodDescriptor yX8_told.desc).map (fun d => d.parameters.length) = some 1 := by decide +kernel
theorem tX8_told {l : Launch} {E : Ev} {K : List Sh} {x1 : Int32} {M : Mem} {r : Int32} {M' : Mem} (hL : nq_atNine E K) (h : fX8_told x1 M = some (r, M')) : nq_MA l E yX8_told wsX8_told (nq_rm 2) [.ref (nq_ad E 0), .int x1] K M (some (.int r)) K M' :=
  nq_met (own := RX8) (cc := cX8_told) (maxL := 2) (ret := (some .int)) (by decide) rfl rfl (Nat.le_of_ble_eq_true rfl) (fun X hX hr => mX8_told hL hX hr h)

