/-! printed by dec.py: Model 2 -/
theorem mmX9_as_c106 : Cond.constantLong RX9 106 (6) ∈ wsX9_as := by decide +kernel
def fX9_as (x1 : Int32) (x2 : Int32) (M : Mem) : Option (Int32 × Mem) :=
  (fX9_isWord x1 M).bind fun v2 =>
  if v2 = 0 then
  (nq_b2 (fX9_finds (1 : Int32) M) fun v5 M6 =>
  some (v5, M6))
  else
  ((fX9_in x2.toInt64 (0 : Int64) (6 : Int64) M).bind fun v8 =>
  if v8 = 0 then
  (nq_b2 (fX9_finds (1 : Int32) M) fun v11 M12 =>
  some (v11, M12))
  else
  ((fX9_wo x1 (0 : Int32) M).bind fun v14 =>
  (fX9_isOf v14 x2 M).bind fun v16 =>
  if v16 = 0 then
  (nq_b2 (fX9_finds (5 : Int32) M) fun v19 M20 =>
  some (v19, M20))
  else
  ((fX9_wo x1 (6 : Int32) M).bind fun v22 =>
  some (v22, M))))
set_option maxHeartbeats 4000000 in
theorem mX9_as {X : Cx} {E : Ev} {l : Launch} {K : List Sh} {x1 : Int32} {x2 : Int32} {M : Mem} {r : Int32} {M' : Mem} (hL : nq_atModel E K) (hX : nq_OK X E l (nq_rm 3) cX9_as 3 RX9 wsX9_as) (hr : nq_RT X E (some .int) (some (.int r)) K M') (h : fX9_as x1 x2 M = some (r, M')) : nq_G X E 3 0 [(0, .ref (nq_ad E 0)), (1, .int x1), (2, .int x2)] [] K M := by
  unfold fX9_as at h
  refine nq_aload_n hX rfl 0 rfl dX9_as_0 ?_
  refine nq_iload_n hX rfl 1 rfl dX9_as_1 ?_
  obtain ⟨v2, hc1, h⟩ := nq_bE h
  refine nq_callVi hX (tX9_isWord hL hc1) gX9_as_X9_isWord rfl rfl dsX9_isWord (by decide) (nq_Model_0 hL) rfl rfl (Nat.le_of_ble_eq_true rfl) dX9_as_2 ?_
  refine nq_if_eq hX (tgt := 20) (by decide) dX9_as_5 (fun c3 => ?_) (fun c3 => ?_)
  · rw [if_pos c3] at h
    refine nq_aload_n hX rfl 0 rfl dX9_as_20 ?_
    refine nq_iconst hX (v := 1) (by decide) dX9_as_21 ?_
    obtain ⟨v5, M6, hc4, h⟩ := nq_b2E h
    refine nq_callVi hX (tX9_finds hL hc4) gX9_as_X9_finds rfl rfl dsX9_finds (by decide) (nq_Model_0 hL) rfl rfl (Nat.le_of_ble_eq_true rfl) dX9_as_22 ?_
    obtain ⟨rfl, rfl⟩ := nq_sE2 h; exact nq_iret hX hr dX9_as_25
  · rw [if_neg c3] at h
    refine nq_iload_n hX rfl 2 rfl dX9_as_8 ?_
    refine nq_i2l hX dX9_as_9 ?_
    refine nq_lconst hX (v := 0) (by decide) dX9_as_10 ?_
    refine nq_ldc2 hX (v := 6) mmX9_as_c106 dX9_as_11 ?_
    obtain ⟨v8, hc7, h⟩ := nq_bE h
    refine nq_callSi hX (tX9_in  hc7) gX9_as_X9_in rfl rfl dsX9_in (by decide) rfl (Nat.le_of_ble_eq_true rfl) dX9_as_14 ?_
    refine nq_if_ne hX (tgt := 26) (by decide) dX9_as_17 (fun c9 => ?_) (fun c9 => ?_)
    · rw [if_pos c9] at h
      refine nq_aload_n hX rfl 0 rfl dX9_as_20 ?_
      refine nq_iconst hX (v := 1) (by decide) dX9_as_21 ?_
      obtain ⟨v11, M12, hc10, h⟩ := nq_b2E h
      refine nq_callVi hX (tX9_finds hL hc10) gX9_as_X9_finds rfl rfl dsX9_finds (by decide) (nq_Model_0 hL) rfl rfl (Nat.le_of_ble_eq_true rfl) dX9_as_22 ?_
      obtain ⟨rfl, rfl⟩ := nq_sE2 h; exact nq_iret hX hr dX9_as_25
    · rw [if_neg c9] at h
      refine nq_aload_n hX rfl 0 rfl dX9_as_26 ?_
      refine nq_iload_n hX rfl 1 rfl dX9_as_27 ?_
      refine nq_iconst hX (v := 0) (by decide) dX9_as_28 ?_
      obtain ⟨v14, hc13, h⟩ := nq_bE h
      refine nq_callVi hX (tX9_wo hL hc13) gX9_as_X9_wo rfl rfl dsX9_wo (by decide) (nq_Model_0 hL) rfl rfl (Nat.le_of_ble_eq_true rfl) dX9_as_29 ?_
      refine nq_iload_n hX rfl 2 rfl dX9_as_32 ?_
      obtain ⟨v16, hc15, h⟩ := nq_bE h
      refine nq_callSi hX (tX9_isOf  hc15) gX9_as_X9_isOf rfl rfl dsX9_isOf (by decide) rfl (Nat.le_of_ble_eq_true rfl) dX9_as_33 ?_
      refine nq_if_eq hX (tgt := 49) (by decide) dX9_as_36 (fun c17 => ?_) (fun c17 => ?_)
      · rw [if_pos c17] at h
        refine nq_aload_n hX rfl 0 rfl dX9_as_49 ?_
        refine nq_iconst hX (v := 5) (by decide) dX9_as_50 ?_
        obtain ⟨v19, M20, hc18, h⟩ := nq_b2E h
        refine nq_callVi hX (tX9_finds hL hc18) gX9_as_X9_finds rfl rfl dsX9_finds (by decide) (nq_Model_0 hL) rfl rfl (Nat.le_of_ble_eq_true rfl) dX9_as_51 ?_
        obtain ⟨rfl, rfl⟩ := nq_sE2 h; exact nq_iret hX hr dX9_as_54
      · rw [if_neg c17] at h
        refine nq_aload_n hX rfl 0 rfl dX9_as_39 ?_
        refine nq_iload_n hX rfl 1 rfl dX9_as_40 ?_
        refine nq_bipush hX (v := 6) (by decide) dX9_as_41 ?_
        obtain ⟨v22, hc21, h⟩ := nq_bE h
        refine nq_callVi hX (tX9_wo hL hc21) gX9_as_X9_wo rfl rfl dsX9_wo (by decide) (nq_Model_0 hL) rfl rfl (Nat.le_of_ble_eq_true rfl) dX9_as_43 ?_
        refine nq_goto hX (tgt := 54) (by decide) dX9_as_46 ?_
        obtain ⟨rfl, rfl⟩ := nq_sE2 h; exact nq_iret hX hr dX9_as_54
theorem dsX9_as : yX9_as.cls ≠ "java/lang/invoke/MethodHandle" ∧ yX9_as.cls ≠ "java/lang/invoke/VarHandle" ∧ (parseMethodDescriptor yX9_as.desc).map (fun d => d.parameters.length) = some 2 := by decide +kernel
theorem tX9_as {l : Launch} {E : Ev} {K : List Sh} {x1 : Int32} {x2 : Int32} {M : Mem} {r : Int32} {M' : Mem} (hL : nq_atModel E K) (h : fX9_as x1 x2 M = some (r, M')) : nq_MA l E yX9_as wsX9_as (nq_rm 3) [.ref (nq_ad E 0), .int x1, .int x2] K M (some (.int r)) K M' :=
  nq_met (own := RX9) (cc := cX9_as) (maxL := 3) (ret := (some .int)) (by decide) rfl rfl (Nat.le_of_ble_eq_true rfl) (fun X hX hr => mX9_as hL hX hr h)

theorem mmX9_isSheet_c66 : Cond.constantLong RX9 66 (3) ∈ wsX9_isSheet := by decide +kernel
def fX9_isSheet (x0 : Int32) (M : Mem) : Option (Int32) :=
  (fX9_in x0.toInt64 (0 : Int64) (3 : Int64) M).bind fun v2 =>
  (nq_nz .boolean v2).bind fun _ =>
  some v2
set_option maxHeartbeats 4000000 in
theorem mX9_isSheet {X : Cx} {E : Ev} {l : Launch} {K : List Sh} {x0 : Int32} {M : Mem} {r : Int32}  (hX : nq_OK X E l (nq_rm 2) cX9_isSheet 1 RX9 wsX9_isSheet) (hr : nq_RT X E (some .boolean) (some (.int r)) K M) (h : fX9_isSheet x0 M = some r) : nq_G X E 1 0 [(0, .int x0)] [] K M := by
  unfold fX9_isSheet at h
  refine nq_iload_n hX rfl 0 rfl dX9_isSheet_0 ?_
  refine nq_i2l hX dX9_isSheet_1 ?_
  refine nq_lconst hX (v := 0) (by decide) dX9_isSheet_2 ?_
  refine nq_ldc2 hX (v := 3) mmX9_isSheet_c66 dX9_isSheet_3 ?_
  obtain ⟨v2, hc1, h⟩ := nq_bE h
  refine nq_callSi hX (tX9_in  hc1) gX9_isSheet_X9_in rfl rfl dsX9_in (by decide) rfl (Nat.le_of_ble_eq_true rfl) dX9_isSheet_6 ?_
  obtain ⟨hn3, h⟩ := nq_nzE h
  obtain rfl := nq_sE1 h; exact nq_zret hX hr hn3 dX9_isSheet_9
theorem dsX9_isSheet : yX9_isSheet.cls ≠ "java/lang/invoke/MethodHandle" ∧ yX9_isSheet.cls ≠ "java/lang/invoke/VarHandle" ∧ (parseMethodDescriptor yX9_isSheet.desc).map (fun d => d.parameters.length) = some 1 := by decide +kernel
theorem tX9_isSheet {l : Launch} {E : Ev} {K : List Sh} {x0 : Int32} {M : Mem} {r : Int32}  (h : fX9_isSheet x0 M = some r) : nq_MA l E yX9_isSheet wsX9_isSheet (nq_rm 2) [.int x0] K M (some (.int r)) K M :=
  nq_met (own := RX9) (cc := cX9_isSheet) (maxL := 1) (ret := (some .boolean)) (by decide) rfl rfl (Nat.le_of_ble_eq_true rfl) (fun X hX hr => mX9_isSheet  hX hr h)

theorem inX9_words_9 : ∀ w ∈ u_ws RX9 TX9 23, w ∈ wsX9_words := by
  intro w h; unfold wsX9_words; simp only [List.mem_cons, List.mem_append]; simp only [h, true_or, or_true]
theorem lkX9_words_41 : Cond.fieldLink RX9 41 (TX9 19).1 (TX9 19).2.1 (TX9 19).2.2.1 ∈ wsX9_words := by decide +kernel
theorem lkX9_words_44 : Cond.fieldLink RX9 44 (TX9 20).1 (TX9 20).2.1 (TX9 20).2.2.1 ∈ wsX9_words := by decide +kernel
theorem lkX9_words_47 : Cond.fieldLink RX9 47 (TX9 21).1 (TX9 21).2.1 (TX9 21).2.2.1 ∈ wsX9_words := by decide +kernel
def fX9_words_B35 (x1 : Int32) (x2 : Int32) (x3 : Int32) (M : Mem) : Option ((Int32 × Int32 × Mem) ⊕ (Int32 × Mem)) :=
  (nq_ag (M 12) 4 x1).bind fun v13 =>
  if v13 < (((3 : Int32) * x2) + (3 : Int32)) then
  (some (.inr (x2, M)))
  else
  ((nq_ag (M 13) 160 x3).bind fun v15 =>
  (nq_ag (M 13) 160 (x3 + (1 : Int32))).bind fun v16 =>
  (nq_ag (M 13) 160 (x3 + (2 : Int32))).bind fun v17 =>
  nq_b2 (fX9_whyNot v15 v16 v17 M) fun v19 M20 =>
  if v19 = 0 then
  ((nq_ag (M20 13) 160 x3).bind fun v22 =>
  (nq_ag (M20 13) 160 (x3 + (1 : Int32))).bind fun v23 =>
  (nq_ag (M20 13) 160 (x3 + (2 : Int32))).bind fun v24 =>
  (fX9_sends v22 v23 v24 M20).bind fun M26 =>
  nq_lt (x2 + (1 : Int32)) fun v27 =>
  nq_lt (x3 + (3 : Int32)) fun v28 =>
  some (.inl (v27, v28, M26)))
  else
  (some (.inr (x2, M20))))
set_option maxHeartbeats 4000000 in
theorem mX9_words_B35 {X : Cx} {E : Ev} {l : Launch} {K : List Sh} {x1 : Int32} {x2 : Int32} {x3 : Int32} {M : Mem} (hL : nq_atModel E K) (hX : nq_OK X E l (nq_rm 6) cX9_words 4 RX9 wsX9_words) {x : (Int32 × Int32 × Mem) ⊕ (Int32 × Mem)} (hc : ∀ s' : Int32 × Int32 × Mem, x = .inl s' → nq_G X E 4 35 [(0, .ref (nq_ad E 0)), (1, .int x1), (2, .int s'.1), (3, .int s'.2.1)] [] K s'.2.2) (he : ∀ s' : Int32 × Mem, x = .inr s' → nq_G X E 4 113 [(2, .int s'.1)] [] K s'.2) (h : fX9_words_B35 x1 x2 x3 M = some x) : nq_G X E 4 35 [(0, .ref (nq_ad E 0)), (1, .int x1), (2, .int x2), (3, .int x3)] [] K M := by
  unfold fX9_words_B35 at h
  refine nq_iconst hX (v := 3) (by decide) dX9_words_35 ?_
  refine nq_iload_n hX rfl 2 rfl dX9_words_36 ?_
  refine nq_imul hX dX9_words_37 ?_
  refine nq_iconst hX (v := 3) (by decide) dX9_words_38 ?_
  refine nq_iadd hX dX9_words_39 ?_
  refine nq_aload_n hX rfl 0 rfl dX9_words_40 ?_
  refine nq_getr (v := .ref (nq_ad E 12)) hX inX9_words_9 (nq_Model_0 hL) rfl 20 (by decide) lkX9_words_44 _ rfl rfl dX9_words_41 ?_
  refine nq_iload_n hX rfl 1 rfl dX9_words_44 ?_
  obtain ⟨v13, e13, hi13, h⟩ := nq_agE h
  refine nq_iald hX (nq_Model_sizeOf hL) e13 hi13 dX9_words_45 ?_
  refine nq_icmp_gt hX (tgt := 113) (by decide) dX9_words_46 (fun c14 => ?_) (fun c14 => ?_)
  · rw [if_pos c14] at h
    refine nq_sub (lv' := [(2, .int x2)]) [2] rfl ?_
    exact he (x2, M) (nq_sE h).symm
  · rw [if_neg c14] at h
    refine nq_aload_n hX rfl 0 rfl dX9_words_49 ?_
    refine nq_aload_n hX rfl 0 rfl dX9_words_50 ?_
    refine nq_getr (v := .ref (nq_ad E 13)) hX inX9_words_9 (nq_Model_0 hL) rfl 21 (by decide) lkX9_words_47 _ rfl rfl dX9_words_51 ?_
    refine nq_iload_n hX rfl 3 rfl dX9_words_54 ?_
    obtain ⟨v15, e15, hi15, h⟩ := nq_agE h
    refine nq_iald hX (nq_Model_number hL) e15 hi15 dX9_words_55 ?_
    refine nq_aload_n hX rfl 0 rfl dX9_words_56 ?_
    refine nq_getr (v := .ref (nq_ad E 13)) hX inX9_words_9 (nq_Model_0 hL) rfl 21 (by decide) lkX9_words_47 _ rfl rfl dX9_words_57 ?_
    refine nq_iload_n hX rfl 3 rfl dX9_words_60 ?_
    refine nq_iconst hX (v := 1) (by decide) dX9_words_61 ?_
    refine nq_iadd hX dX9_words_62 ?_
    obtain ⟨v16, e16, hi16, h⟩ := nq_agE h
    refine nq_iald hX (nq_Model_number hL) e16 hi16 dX9_words_63 ?_
    refine nq_aload_n hX rfl 0 rfl dX9_words_64 ?_
    refine nq_getr (v := .ref (nq_ad E 13)) hX inX9_words_9 (nq_Model_0 hL) rfl 21 (by decide) lkX9_words_47 _ rfl rfl dX9_words_65 ?_
    refine nq_iload_n hX rfl 3 rfl dX9_words_68 ?_
    refine nq_iconst hX (v := 2) (by decide) dX9_words_69 ?_
    refine nq_iadd hX dX9_words_70 ?_
    obtain ⟨v17, e17, hi17, h⟩ := nq_agE h
    refine nq_iald hX (nq_Model_number hL) e17 hi17 dX9_words_71 ?_
    obtain ⟨v19, M20, hc18, h⟩ := nq_b2E h
    refine nq_callVi hX (tX9_whyNot hL hc18) gX9_words_X9_whyNot rfl rfl dsX9_whyNot (by decide) (nq_Model_0 hL) rfl rfl (Nat.le_of_ble_eq_true rfl) dX9_words_72 ?_
    refine nq_if_ne hX (tgt := 113) (by decide) dX9_words_75 (fun c21 => ?_) (fun c21 => ?_)
    · rw [if_pos c21] at h
      refine nq_aload_n hX rfl 0 rfl dX9_words_78 ?_
      refine nq_aload_n hX rfl 0 rfl dX9_words_79 ?_
      refine nq_getr (v := .ref (nq_ad E 13)) hX inX9_words_9 (nq_Model_0 hL) rfl 21 (by decide) lkX9_words_47 _ rfl rfl dX9_words_80 ?_
      refine nq_iload_n hX rfl 3 rfl dX9_words_83 ?_
      obtain ⟨v22, e22, hi22, h⟩ := nq_agE h
      refine nq_iald hX (nq_Model_number hL) e22 hi22 dX9_words_84 ?_
      refine nq_aload_n hX rfl 0 rfl dX9_words_85 ?_
      refine nq_getr (v := .ref (nq_ad E 13)) hX inX9_words_9 (nq_Model_0 hL) rfl 21 (by decide) lkX9_words_47 _ rfl rfl dX9_words_86 ?_
      refine nq_iload_n hX rfl 3 rfl dX9_words_89 ?_
      refine nq_iconst hX (v := 1) (by decide) dX9_words_90 ?_
      refine nq_iadd hX dX9_words_91 ?_
      obtain ⟨v23, e23, hi23, h⟩ := nq_agE h
      refine nq_iald hX (nq_Model_number hL) e23 hi23 dX9_words_92 ?_
      refine nq_aload_n hX rfl 0 rfl dX9_words_93 ?_
      refine nq_getr (v := .ref (nq_ad E 13)) hX inX9_words_9 (nq_Model_0 hL) rfl 21 (by decide) lkX9_words_47 _ rfl rfl dX9_words_94 ?_
      refine nq_iload_n hX rfl 3 rfl dX9_words_97 ?_
      refine nq_iconst hX (v := 2) (by decide) dX9_words_98 ?_
      refine nq_iadd hX dX9_words_99 ?_
      obtain ⟨v24, e24, hi24, h⟩ := nq_agE h
      refine nq_iald hX (nq_Model_number hL) e24 hi24 dX9_words_100 ?_
      obtain ⟨M26, hc25, h⟩ := nq_bE h
      refine nq_callVv hX (tX9_sends hL hc25) gX9_words_X9_sends rfl rfl dsX9_sends (by decide) (nq_Model_0 hL) rfl rfl (Nat.le_of_ble_eq_true rfl) dX9_words_101 ?_
      obtain ⟨v27, e27, h⟩ := nq_ltE h
      refine nq_iinc hX (lv' := [(2, .int v27), (0, .ref (nq_ad E 0)), (1, .int x1), (3, .int x3)]) (j := 2) rfl (e27.trans rfl) (by decide) rfl dX9_words_104 ?_
      obtain ⟨v28, e28, h⟩ := nq_ltE h
      refine nq_iinc hX (lv' := [(3, .int v28), (2, .int v27), (0, .ref (nq_ad E 0)), (1, .int x1)]) (j := 3) rfl (e28.trans rfl) (by decide) rfl dX9_words_107 ?_
      refine nq_goto hX (tgt := 35) (by decide) dX9_words_110 ?_
      refine nq_sub (lv' := [(0, .ref (nq_ad E 0)), (1, .int x1), (2, .int v27), (3, .int v28)]) [2, 3, 1, 0] rfl ?_
      exact hc (v27, v28, M26) (nq_sE h).symm
    · rw [if_neg c21] at h
      refine nq_sub (lv' := [(2, .int x2)]) [2] rfl ?_
      exact he (x2, M20) (nq_sE h).symm
def fX9_words_L113 (x2 : Int32) (M : Mem) : Option (Int32 × Mem) :=
  some (x2, M)
set_option maxHeartbeats 4000000 in
theorem mX9_words_L113 {X : Cx} {E : Ev} {l : Launch} {K : List Sh} {x2 : Int32} {M : Mem} {r : Int32} {M' : Mem} (hL : nq_atModel E K) (hX : nq_OK X E l (nq_rm 6) cX9_words 4 RX9 wsX9_words) (hr : nq_RT X E (some .int) (some (.int r)) K M') (h : fX9_words_L113 x2 M = some (r, M')) : nq_G X E 4 113 [(2, .int x2)] [] K M := by
  unfold fX9_words_L113 at h
  refine nq_iload_n hX rfl 0 rfl dX9_words_113 ?_
  obtain ⟨rfl, rfl⟩ := nq_sE2 h; exact nq_iret hX hr dX9_words_114
def fX9_words_L35 (x1 : Int32) (x2 : Int32) (x3 : Int32) (M : Mem) : Option (Int32 × Mem) :=
  (nq_lp (fun s : Int32 × Int32 × Mem => fX9_words_B35 x1 s.1 s.2.1 s.2.2) nq_fuel (x2, x3, M)).bind (fun e => fX9_words_L113 e.1 e.2)
set_option maxHeartbeats 4000000 in
theorem mX9_words_L35 {X : Cx} {E : Ev} {l : Launch} {K : List Sh} {x1 : Int32} {x2 : Int32} {x3 : Int32} {M : Mem} {r : Int32} {M' : Mem} (hL : nq_atModel E K) (hX : nq_OK X E l (nq_rm 6) cX9_words 4 RX9 wsX9_words) (hr : nq_RT X E (some .int) (some (.int r)) K M') (h : fX9_words_L35 x1 x2 x3 M = some (r, M')) : nq_G X E 4 35 [(0, .ref (nq_ad E 0)), (1, .int x1), (2, .int x2), (3, .int x3)] [] K M := by
  unfold fX9_words_L35 at h
  obtain ⟨e, h1, h⟩ := nq_bE h
  have key : ∀ (ex : Int32 × Mem), nq_lp (fun s : Int32 × Int32 × Mem => fX9_words_B35 x1 s.1 s.2.1 s.2.2) nq_fuel (x2, x3, M) = some ex → (∀ e, ex = e → nq_G X E 4 113 [(2, .int e.1)] [] K e.2) → nq_G X E 4 35 [(0, .ref (nq_ad E 0)), (1, .int x1), (2, .int ((x2, x3, M).1)), (3, .int ((x2, x3, M).2.1))] [] K (x2, x3, M).2.2 := by
    intro ex h1 hE
    refine nq_lpE (P := fun s : Int32 × Int32 × Mem => nq_G X E 4 35 [(0, .ref (nq_ad E 0)), (1, .int x1), (2, .int s.1), (3, .int s.2.1)] [] K s.2.2) (r := ex) ?_ nq_fuel (x2, x3, M) h1
    intro s xx hx1 hc1 he1
    exact mX9_words_B35 hL hX hc1 (fun e q => hE e (he1 _ q).symm) hx1
  refine key e h1 (fun e q => ?_)
  subst q
  exact mX9_words_L113 hL hX hr h
def fX9_words (x1 : Int32) (M : Mem) : Option (Int32 × Mem) :=
  (fX9_isSheet x1 M).bind fun v2 =>
  if v2 = 0 then
  (nq_b2 (fX9_finds (1 : Int32) M) fun v5 M6 =>
  some (v5, M6))
  else
  ((nq_ag (M 11) 4 x1).bind fun v7 =>
  if v7 = 0 then
  (nq_b2 (fX9_finds (2 : Int32) M) fun v10 M11 =>
  some (v10, M11))
  else
  (nq_lt (((40 : Int32) * x1)) fun v12 =>
  fX9_words_L35 x1 (0 : Int32) v12 M))
set_option maxHeartbeats 4000000 in
theorem mX9_words {X : Cx} {E : Ev} {l : Launch} {K : List Sh} {x1 : Int32} {M : Mem} {r : Int32} {M' : Mem} (hL : nq_atModel E K) (hX : nq_OK X E l (nq_rm 6) cX9_words 4 RX9 wsX9_words) (hr : nq_RT X E (some .int) (some (.int r)) K M') (h : fX9_words x1 M = some (r, M')) : nq_G X E 4 0 [(0, .ref (nq_ad E 0)), (1, .int x1)] [] K M := by
  unfold fX9_words at h
  refine nq_iload_n hX rfl 1 rfl dX9_words_0 ?_
  obtain ⟨v2, hc1, h⟩ := nq_bE h
  refine nq_callSi hX (tX9_isSheet  hc1) gX9_words_X9_isSheet rfl rfl dsX9_isSheet (by decide) rfl (Nat.le_of_ble_eq_true rfl) dX9_words_1 ?_
  refine nq_if_ne hX (tgt := 13) (by decide) dX9_words_4 (fun c3 => ?_) (fun c3 => ?_)
  · rw [if_pos c3] at h
    refine nq_aload_n hX rfl 0 rfl dX9_words_7 ?_
    refine nq_iconst hX (v := 1) (by decide) dX9_words_8 ?_
    obtain ⟨v5, M6, hc4, h⟩ := nq_b2E h
    refine nq_callVi hX (tX9_finds hL hc4) gX9_words_X9_finds rfl rfl dsX9_finds (by decide) (nq_Model_0 hL) rfl rfl (Nat.le_of_ble_eq_true rfl) dX9_words_9 ?_
    obtain ⟨rfl, rfl⟩ := nq_sE2 h; exact nq_iret hX hr dX9_words_12
  · rw [if_neg c3] at h
    refine nq_aload_n hX rfl 0 rfl dX9_words_13 ?_
    refine nq_getr (v := .ref (nq_ad E 11)) hX inX9_words_9 (nq_Model_0 hL) rfl 19 (by decide) lkX9_words_41 _ rfl rfl dX9_words_14 ?_
    refine nq_iload_n hX rfl 1 rfl dX9_words_17 ?_
    obtain ⟨v7, e7, hi7, h⟩ := nq_agE h
    refine nq_iald hX (nq_Model_bitsOf hL) e7 hi7 dX9_words_18 ?_
    refine nq_if_ne hX (tgt := 28) (by decide) dX9_words_19 (fun c8 => ?_) (fun c8 => ?_)
    · rw [if_pos c8] at h
      refine nq_aload_n hX rfl 0 rfl dX9_words_22 ?_
      refine nq_iconst hX (v := 2) (by decide) dX9_words_23 ?_
      obtain ⟨v10, M11, hc9, h⟩ := nq_b2E h
      refine nq_callVi hX (tX9_finds hL hc9) gX9_words_X9_finds rfl rfl dsX9_finds (by decide) (nq_Model_0 hL) rfl rfl (Nat.le_of_ble_eq_true rfl) dX9_words_24 ?_
      obtain ⟨rfl, rfl⟩ := nq_sE2 h; exact nq_iret hX hr dX9_words_27
    · rw [if_neg c8] at h
      refine nq_iconst hX (v := 0) (by decide) dX9_words_28 ?_
      refine nq_istore_n hX (lv' := [(2, .int (0 : Int32)), (0, .ref (nq_ad E 0)), (1, .int x1)]) rfl (by decide) rfl rfl dX9_words_29 ?_
      refine nq_bipush hX (v := 40) (by decide) dX9_words_30 ?_
      refine nq_iload_n hX rfl 2 rfl dX9_words_32 ?_
      refine nq_imul hX dX9_words_33 ?_
      obtain ⟨v12, e12, h⟩ := nq_ltE h
      refine nq_istore_n hX (lv' := [(3, .int v12), (2, .int (0 : Int32)), (0, .ref (nq_ad E 0)), (1, .int x1)]) rfl (by decide) e12 rfl dX9_words_34 ?_
      refine nq_sub (lv' := [(0, .ref (nq_ad E 0)), (1, .int x1), (2, .int (0 : Int32)), (3, .int v12)]) [2, 3, 1, 0] rfl ?_
      exact mX9_words_L35 hL hX hr h
theorem dsX9_words : yX9_words.cls ≠ "java/lang/invoke/MethodHandle" ∧ yX9_words.cls ≠ "java/lang/invoke/VarHandle" ∧ (parseMethodDescriptor yX9_words.desc).map (fun d => d.parameters.length) = some 1 := by decide +kernel
theorem tX9_words {l : Launch} {E : Ev} {K : List Sh} {x1 : Int32} {M : Mem} {r : Int32} {M' : Mem} (hL : nq_atModel E K) (h : fX9_words x1 M = some (r, M')) : nq_MA l E yX9_words wsX9_words (nq_rm 6) [.ref (nq_ad E 0), .int x1] K M (some (.int r)) K M' :=
  nq_met (own := RX9) (cc := cX9_words) (maxL := 4) (ret := (some .int)) (by decide) rfl rfl (Nat.le_of_ble_eq_true rfl) (fun X hX hr => mX9_words hL hX hr h)

theorem inX9_manyCame_9 : ∀ w ∈ u_ws RX9 TX9 23, w ∈ wsX9_manyCame := by
  intro w h; unfold wsX9_manyCame; simp only [List.mem_cons, List.mem_append]; simp only [h, true_or, or_true]
theorem lkX9_manyCame_7 : Cond.fieldLink RX9 7 (TX9 0).1 (TX9 0).2.1 (TX9 0).2.2.1 ∈ wsX9_manyCame := by decide +kernel
def fX9_manyCame_B6 (x1 : Int32) (x2 : Int32) (x3 : Int32) (x4 : Int32) (x5 : Int32) (M : Mem) : Option ((Int32 × Int32) ⊕ (Int32)) :=
  (nq_ag (M 1) 1250 (2 : Int32)).bind fun v1 =>
  if v1 ≤ x5 then
  (some (.inr x4))
  else
  ((fX9_hasCome x5 x1 x2 x3 M).bind fun v4 =>
  if v4 = 0 then
  (nq_lt ((x4 + (0 : Int32))) fun v6 =>
  nq_lt (x5 + (1 : Int32)) fun v7 =>
  some (.inl (v6, v7)))
  else
  (nq_lt ((x4 + (1 : Int32))) fun v8 =>
  nq_lt (x5 + (1 : Int32)) fun v9 =>
  some (.inl (v8, v9))))
set_option maxHeartbeats 4000000 in
theorem mX9_manyCame_B6 {X : Cx} {E : Ev} {l : Launch} {K : List Sh} {x1 : Int32} {x2 : Int32} {x3 : Int32} {x4 : Int32} {x5 : Int32} {M : Mem} (hL : nq_atModel E K) (hX : nq_OK X E l (nq_rm 3) cX9_manyCame 6 RX9 wsX9_manyCame) {x : (Int32 × Int32) ⊕ (Int32)} (hc : ∀ s' : Int32 × Int32, x = .inl s' → nq_G X E 6 6 [(0, .ref (nq_ad E 0)), (1, .int x1), (2, .int x2), (3, .int x3), (4, .int s'.1), (5, .int s'.2)] [] K M) (he : ∀ s' : Int32, x = .inr s' → nq_G X E 6 45 [(4, .int s')] [] K M) (h : fX9_manyCame_B6 x1 x2 x3 x4 x5 M = some x) : nq_G X E 6 6 [(0, .ref (nq_ad E 0)), (1, .int x1), (2, .int x2), (3, .int x3), (4, .int x4), (5, .int x5)] [] K M := by
  unfold fX9_manyCame_B6 at h
  refine nq_iload hX 5 rfl dX9_manyCame_6 ?_
  refine nq_aload_n hX rfl 0 rfl dX9_manyCame_8 ?_
  refine nq_getr (v := .ref (nq_ad E 1)) hX inX9_manyCame_9 (nq_Model_0 hL) rfl 0 (by decide) lkX9_manyCame_7 _ rfl rfl dX9_manyCame_9 ?_
  refine nq_iconst hX (v := 2) (by decide) dX9_manyCame_12 ?_
  obtain ⟨v1, e1, hi1, h⟩ := nq_agE h
  refine nq_iald hX (nq_Model_d hL) e1 hi1 dX9_manyCame_13 ?_
  refine nq_icmp_ge hX (tgt := 45) (by decide) dX9_manyCame_14 (fun c2 => ?_) (fun c2 => ?_)
  · rw [if_pos c2] at h
    refine nq_sub (lv' := [(4, .int x4)]) [4] rfl ?_
    exact he x4 (nq_sE h).symm
  · rw [if_neg c2] at h
    refine nq_iload hX 4 rfl dX9_manyCame_17 ?_
    refine nq_aload_n hX rfl 0 rfl dX9_manyCame_19 ?_
    refine nq_iload hX 5 rfl dX9_manyCame_20 ?_
    refine nq_iload_n hX rfl 1 rfl dX9_manyCame_22 ?_
    refine nq_iload_n hX rfl 2 rfl dX9_manyCame_23 ?_
    refine nq_iload_n hX rfl 3 rfl dX9_manyCame_24 ?_
    obtain ⟨v4, hc3, h⟩ := nq_bE h
    refine nq_callVi hX (tX9_hasCome hL hc3) gX9_manyCame_X9_hasCome rfl rfl dsX9_hasCome (by decide) (nq_Model_0 hL) rfl rfl (Nat.le_of_ble_eq_true rfl) dX9_manyCame_25 ?_
    refine nq_if_eq hX (tgt := 35) (by decide) dX9_manyCame_28 (fun c5 => ?_) (fun c5 => ?_)
    · rw [if_pos c5] at h
      refine nq_iconst hX (v := 0) (by decide) dX9_manyCame_35 ?_
      refine nq_iadd hX dX9_manyCame_36 ?_
      obtain ⟨v6, e6, h⟩ := nq_ltE h
      refine nq_istore hX (lv' := [(4, .int v6), (0, .ref (nq_ad E 0)), (1, .int x1), (2, .int x2), (3, .int x3), (5, .int x5)]) (by decide) e6 rfl dX9_manyCame_37 ?_
      obtain ⟨v7, e7, h⟩ := nq_ltE h
      refine nq_iinc hX (lv' := [(5, .int v7), (4, .int v6), (0, .ref (nq_ad E 0)), (1, .int x1), (2, .int x2), (3, .int x3)]) (j := 5) rfl (e7.trans rfl) (by decide) rfl dX9_manyCame_39 ?_
      refine nq_goto hX (tgt := 6) (by decide) dX9_manyCame_42 ?_
      refine nq_sub (lv' := [(0, .ref (nq_ad E 0)), (1, .int x1), (2, .int x2), (3, .int x3), (4, .int v6), (5, .int v7)]) [2, 3, 4, 5, 1, 0] rfl ?_
      exact hc (v6, v7) (nq_sE h).symm
    · rw [if_neg c5] at h
      refine nq_iconst hX (v := 1) (by decide) dX9_manyCame_31 ?_
      refine nq_goto hX (tgt := 36) (by decide) dX9_manyCame_32 ?_
      refine nq_iadd hX dX9_manyCame_36 ?_
      obtain ⟨v8, e8, h⟩ := nq_ltE h
      refine nq_istore hX (lv' := [(4, .int v8), (0, .ref (nq_ad E 0)), (1, .int x1), (2, .int x2), (3, .int x3), (5, .int x5)]) (by decide) e8 rfl dX9_manyCame_37 ?_
      obtain ⟨v9, e9, h⟩ := nq_ltE h
      refine nq_iinc hX (lv' := [(5, .int v9), (4, .int v8), (0, .ref (nq_ad E 0)), (1, .int x1), (2, .int x2), (3, .int x3)]) (j := 5) rfl (e9.trans rfl) (by decide) rfl dX9_manyCame_39 ?_
      refine nq_goto hX (tgt := 6) (by decide) dX9_manyCame_42 ?_
      refine nq_sub (lv' := [(0, .ref (nq_ad E 0)), (1, .int x1), (2, .int x2), (3, .int x3), (4, .int v8), (5, .int v9)]) [2, 3, 4, 5, 1, 0] rfl ?_
      exact hc (v8, v9) (nq_sE h).symm
def fX9_manyCame_L45 (x4 : Int32) (M : Mem) : Option (Int32) :=
  some x4
set_option maxHeartbeats 4000000 in
theorem mX9_manyCame_L45 {X : Cx} {E : Ev} {l : Launch} {K : List Sh} {x4 : Int32} {M : Mem} {r : Int32} (hL : nq_atModel E K) (hX : nq_OK X E l (nq_rm 3) cX9_manyCame 6 RX9 wsX9_manyCame) (hr : nq_RT X E (some .int) (some (.int r)) K M) (h : fX9_manyCame_L45 x4 M = some r) : nq_G X E 6 45 [(4, .int x4)] [] K M := by
  unfold fX9_manyCame_L45 at h
  refine nq_iload hX 0 rfl dX9_manyCame_45 ?_
  obtain rfl := nq_sE1 h; exact nq_iret hX hr dX9_manyCame_47
def fX9_manyCame_L6 (x1 : Int32) (x2 : Int32) (x3 : Int32) (x4 : Int32) (x5 : Int32) (M : Mem) : Option (Int32) :=
  (nq_lp (fun s : Int32 × Int32 => fX9_manyCame_B6 x1 x2 x3 s.1 s.2 M) nq_fuel (x4, x5)).bind (fun e => fX9_manyCame_L45 e M)
set_option maxHeartbeats 4000000 in
theorem mX9_manyCame_L6 {X : Cx} {E : Ev} {l : Launch} {K : List Sh} {x1 : Int32} {x2 : Int32} {x3 : Int32} {x4 : Int32} {x5 : Int32} {M : Mem} {r : Int32} (hL : nq_atModel E K) (hX : nq_OK X E l (nq_rm 3) cX9_manyCame 6 RX9 wsX9_manyCame) (hr : nq_RT X E (some .int) (some (.int r)) K M) (h : fX9_manyCame_L6 x1 x2 x3 x4 x5 M = some r) : nq_G X E 6 6 [(0, .ref (nq_ad E 0)), (1, .int x1), (2, .int x2), (3, .int x3), (4, .int x4), (5, .int x5)] [] K M := by
  unfold fX9_manyCame_L6 at h
  obtain ⟨e, h1, h⟩ := nq_bE h
  have key : ∀ (ex : Int32), nq_lp (fun s : Int32 × Int32 => fX9_manyCame_B6 x1 x2 x3 s.1 s.2 M) nq_fuel (x4, x5) = some ex → (∀ e, ex = e → nq_G X E 6 45 [(4, .int e)] [] K M) → nq_G X E 6 6 [(0, .ref (nq_ad E 0)), (1, .int x1), (2, .int x2), (3, .int x3), (4, .int ((x4, x5).1)), (5, .int ((x4, x5).2))] [] K M := by
    intro ex h1 hE
    refine nq_lpE (P := fun s : Int32 × Int32 => nq_G X E 6 6 [(0, .ref (nq_ad E 0)), (1, .int x1), (2, .int x2), (3, .int x3), (4, .int s.1), (5, .int s.2)] [] K M) (r := ex) ?_ nq_fuel (x4, x5) h1
    intro s xx hx1 hc1 he1
    exact mX9_manyCame_B6 hL hX hc1 (fun e q => hE e (he1 _ q).symm) hx1
  refine key e h1 (fun e q => ?_)
  subst q
  exact mX9_manyCame_L45 hL hX hr h
def fX9_manyCame (x1 : Int32) (x2 : Int32) (x3 : Int32) (M : Mem) : Option (Int32) :=
  fX9_manyCame_L6 x1 x2 x3 (0 : Int32) (0 : Int32) M
set_option maxHeartbeats 4000000 in
theorem mX9_manyCame {X : Cx} {E : Ev} {l : Launch} {K : List Sh} {x1 : Int32} {x2 : Int32} {x3 : Int32} {M : Mem} {r : Int32} (hL : nq_atModel E K) (hX : nq_OK X E l (nq_rm 3) cX9_manyCame 6 RX9 wsX9_manyCame) (hr : nq_RT X E (some .int) (some (.int r)) K M) (h : fX9_manyCame x1 x2 x3 M = some r) : nq_G X E 6 0 [(0, .ref (nq_ad E 0)), (1, .int x1), (2, .int x2), (3, .int x3)] [] K M := by
  unfold fX9_manyCame at h
  refine nq_iconst hX (v := 0) (by decide) dX9_manyCame_0 ?_
  refine nq_istore hX (lv' := [(4, .int (0 : Int32)), (0, .ref (nq_ad E 0)), (1, .int x1), (2, .int x2), (3, .int x3)]) (by decide) rfl rfl dX9_manyCame_1 ?_
  refine nq_iconst hX (v := 0) (by decide) dX9_manyCame_3 ?_
  refine nq_istore hX (lv' := [(5, .int (0 : Int32)), (4, .int (0 : Int32)), (0, .ref (nq_ad E 0)), (1, .int x1), (2, .int x2), (3, .int x3)]) (by decide) rfl rfl dX9_manyCame_4 ?_
  refine nq_sub (lv' := [(0, .ref (nq_ad E 0)), (1, .int x1), (2, .int x2), (3, .int x3), (4, .int (0 : Int32)), (5, .int (0 : Int32))]) [2, 3, 4, 5, 1, 0] rfl ?_
  exact mX9_manyCame_L6 hL hX hr h
theorem dsX9_manyCame : yX9_manyCame.cls ≠ "java/lang/invoke/MethodHandle" ∧ yX9_manyCame.cls ≠ "java/lang/invoke/VarHandle" ∧ (parseMethodDescriptor yX9_manyCame.desc).map (fun d => d.parameters.length) = some 3 := by decide +kernel
theorem tX9_manyCame {l : Launch} {E : Ev} {K : List Sh} {x1 : Int32} {x2 : Int32} {x3 : Int32} {M : Mem} {r : Int32} (hL : nq_atModel E K) (h : fX9_manyCame x1 x2 x3 M = some r) : nq_MA l E yX9_manyCame wsX9_manyCame (nq_rm 3) [.ref (nq_ad E 0), .int x1, .int x2, .int x3] K M (some (.int r)) K M :=
  nq_met (own := RX9) (cc := cX9_manyCame) (maxL := 6) (ret := (some .int)) (by decide) rfl rfl (Nat.le_of_ble_eq_true rfl) (fun X hX hr => mX9_manyCame hL hX hr h)

theorem mmX9_isAsked_c140 : Cond.constantLong RX9 140 (399) ∈ wsX9_isAsked := by decide +kernel
def fX9_isAsked (x1 : Int32) (x2 : Int32) (x3 : Int32) (M : Mem) : Option (Int32) :=
  (fX9_isPlace x1 M).bind fun v2 =>
  if v2 = 0 then
  (some (0 : Int32))
  else
  ((fX9_isPact x2 M).bind fun v5 =>
  if v5 = 0 then
  (some (0 : Int32))
  else
  ((fX9_in x3.toInt64 (0 : Int64) (399 : Int64) M).bind fun v8 =>
  if v8 = 0 then
  (some (0 : Int32))
  else
  (some (1 : Int32))))
set_option maxHeartbeats 4000000 in
theorem mX9_isAsked {X : Cx} {E : Ev} {l : Launch} {K : List Sh} {x1 : Int32} {x2 : Int32} {x3 : Int32} {M : Mem} {r : Int32} (hL : nq_atModel E K) (hX : nq_OK X E l (nq_rm 3) cX9_isAsked 4 RX9 wsX9_isAsked) (hr : nq_RT X E (some .boolean) (some (.int r)) K M) (h : fX9_isAsked x1 x2 x3 M = some r) : nq_G X E 4 0 [(0, .ref (nq_ad E 0)), (1, .int x1), (2, .int x2), (3, .int x3)] [] K M := by
  unfold fX9_isAsked at h
  refine nq_aload_n hX rfl 0 rfl dX9_isAsked_0 ?_
  refine nq_iload_n hX rfl 1 rfl dX9_isAsked_1 ?_
  obtain ⟨v2, hc1, h⟩ := nq_bE h
  refine nq_callVi hX (tX9_isPlace hL hc1) gX9_isAsked_X9_isPlace rfl rfl dsX9_isPlace (by decide) (nq_Model_0 hL) rfl rfl (Nat.le_of_ble_eq_true rfl) dX9_isAsked_2 ?_
  refine nq_if_eq hX (tgt := 31) (by decide) dX9_isAsked_5 (fun c3 => ?_) (fun c3 => ?_)
  · rw [if_pos c3] at h
    refine nq_iconst hX (v := 0) (by decide) dX9_isAsked_31 ?_
    obtain rfl := nq_sE1 h; exact nq_zret hX hr rfl dX9_isAsked_32
  · rw [if_neg c3] at h
    refine nq_iload_n hX rfl 2 rfl dX9_isAsked_8 ?_
    obtain ⟨v5, hc4, h⟩ := nq_bE h
    refine nq_callSi hX (tX9_isPact  hc4) gX9_isAsked_X9_isPact rfl rfl dsX9_isPact (by decide) rfl (Nat.le_of_ble_eq_true rfl) dX9_isAsked_9 ?_
    refine nq_if_eq hX (tgt := 31) (by decide) dX9_isAsked_12 (fun c6 => ?_) (fun c6 => ?_)
    · rw [if_pos c6] at h
      refine nq_iconst hX (v := 0) (by decide) dX9_isAsked_31 ?_
      obtain rfl := nq_sE1 h; exact nq_zret hX hr rfl dX9_isAsked_32
    · rw [if_neg c6] at h
      refine nq_iload_n hX rfl 3 rfl dX9_isAsked_15 ?_
      refine nq_i2l hX dX9_isAsked_16 ?_
      refine nq_lconst hX (v := 0) (by decide) dX9_isAsked_17 ?_
      refine nq_ldc2 hX (v := 399) mmX9_isAsked_c140 dX9_isAsked_18 ?_
      obtain ⟨v8, hc7, h⟩ := nq_bE h
      refine nq_callSi hX (tX9_in  hc7) gX9_isAsked_X9_in rfl rfl dsX9_in (by decide) rfl (Nat.le_of_ble_eq_true rfl) dX9_isAsked_21 ?_
      refine nq_if_eq hX (tgt := 31) (by decide) dX9_isAsked_24 (fun c9 => ?_) (fun c9 => ?_)
      · rw [if_pos c9] at h
        refine nq_iconst hX (v := 0) (by decide) dX9_isAsked_31 ?_
        obtain rfl := nq_sE1 h; exact nq_zret hX hr rfl dX9_isAsked_32
      · rw [if_neg c9] at h
        refine nq_iconst hX (v := 1) (by decide) dX9_isAsked_27 ?_
        refine nq_goto hX (tgt := 32) (by decide) dX9_isAsked_28 ?_
        obtain rfl := nq_sE1 h; exact nq_zret hX hr rfl dX9_isAsked_32
theorem dsX9_isAsked : yX9_isAsked.cls ≠ "java/lang/invoke/MethodHandle" ∧ yX9_isAsked.cls ≠ "java/lang/invoke/VarHandle" ∧ (parseMethodDescriptor yX9_isAsked.desc).map (fun d => d.parameters.length) = some 3 := by decide +kernel
theorem tX9_isAsked {l : Launch} {E : Ev} {K : List Sh} {x1 : Int32} {x2 : Int32} {x3 : Int32} {M : Mem} {r : Int32} (hL : nq_atModel E K) (h : fX9_isAsked x1 x2 x3 M = some r) : nq_MA l E yX9_isAsked wsX9_isAsked (nq_rm 3) [.ref (nq_ad E 0), .int x1, .int x2, .int x3] K M (some (.int r)) K M :=
  nq_met (own := RX9) (cc := cX9_isAsked) (maxL := 4) (ret := (some .boolean)) (by decide) rfl rfl (Nat.le_of_ble_eq_true rfl) (fun X hX hr => mX9_isAsked hL hX hr h)

def fX9_came (x1 : Int32) (x2 : Int32) (x3 : Int32) (M : Mem) : Option (Int32 × Mem) :=
  (fX9_isAsked x1 x2 x3 M).bind fun v2 =>
  if v2 = 0 then
  (nq_b2 (fX9_finds (1 : Int32) M) fun v5 M6 =>
  some (v5, M6))
  else
  ((fX9_manyCame x1 x2 x3 M).bind fun v8 =>
  some (v8, M))
set_option maxHeartbeats 4000000 in
theorem mX9_came {X : Cx} {E : Ev} {l : Launch} {K : List Sh} {x1 : Int32} {x2 : Int32} {x3 : Int32} {M : Mem} {r : Int32} {M' : Mem} (hL : nq_atModel E K) (hX : nq_OK X E l (nq_rm 4) cX9_came 4 RX9 wsX9_came) (hr : nq_RT X E (some .int) (some (.int r)) K M') (h : fX9_came x1 x2 x3 M = some (r, M')) : nq_G X E 4 0 [(0, .ref (nq_ad E 0)), (1, .int x1), (2, .int x2), (3, .int x3)] [] K M := by
  unfold fX9_came at h
  refine nq_aload_n hX rfl 0 rfl dX9_came_0 ?_
  refine nq_iload_n hX rfl 1 rfl dX9_came_1 ?_
  refine nq_iload_n hX rfl 2 rfl dX9_came_2 ?_
  refine nq_iload_n hX rfl 3 rfl dX9_came_3 ?_
  obtain ⟨v2, hc1, h⟩ := nq_bE h
  refine nq_callVi hX (tX9_isAsked hL hc1) gX9_came_X9_isAsked rfl rfl dsX9_isAsked (by decide) (nq_Model_0 hL) rfl rfl (Nat.le_of_ble_eq_true rfl) dX9_came_4 ?_
  refine nq_if_eq hX (tgt := 20) (by decide) dX9_came_7 (fun c3 => ?_) (fun c3 => ?_)
  · rw [if_pos c3] at h
    refine nq_aload_n hX rfl 0 rfl dX9_came_20 ?_
    refine nq_iconst hX (v := 1) (by decide) dX9_came_21 ?_
    obtain ⟨v5, M6, hc4, h⟩ := nq_b2E h
    refine nq_callVi hX (tX9_finds hL hc4) gX9_came_X9_finds rfl rfl dsX9_finds (by decide) (nq_Model_0 hL) rfl rfl (Nat.le_of_ble_eq_true rfl) dX9_came_22 ?_
    obtain ⟨rfl, rfl⟩ := nq_sE2 h; exact nq_iret hX hr dX9_came_25
  · rw [if_neg c3] at h
    refine nq_aload_n hX rfl 0 rfl dX9_came_10 ?_
    refine nq_iload_n hX rfl 1 rfl dX9_came_11 ?_
    refine nq_iload_n hX rfl 2 rfl dX9_came_12 ?_
    refine nq_iload_n hX rfl 3 rfl dX9_came_13 ?_
    obtain ⟨v8, hc7, h⟩ := nq_bE h
    refine nq_callVi hX (tX9_manyCame hL hc7) gX9_came_X9_manyCame rfl rfl dsX9_manyCame (by decide) (nq_Model_0 hL) rfl rfl (Nat.le_of_ble_eq_true rfl) dX9_came_14 ?_
    refine nq_goto hX (tgt := 25) (by decide) dX9_came_17 ?_
    obtain ⟨rfl, rfl⟩ := nq_sE2 h; exact nq_iret hX hr dX9_came_25
theorem dsX9_came : yX9_came.cls ≠ "java/lang/invoke/MethodHandle" ∧ yX9_came.cls ≠ "java/lang/invoke/VarHandle" ∧ (parseMethodDescriptor yX9_came.desc).map (fun d => d.parameters.length) = some 3 := by decide +kernel
theorem tX9_came {l : Launch} {E : Ev} {K : List Sh} {x1 : Int32} {x2 : Int32} {x3 : Int32} {M : Mem} {r : Int32} {M' : Mem} (hL : nq_atModel E K) (h : fX9_came x1 x2 x3 M = some (r, M')) : nq_MA l E yX9_came wsX9_came (nq_rm 4) [.ref (nq_ad E 0), .int x1, .int x2, .int x3] K M (some (.int r)) K M' :=
  nq_met (own := RX9) (cc := cX9_came) (maxL := 4) (ret := (some .int)) (by decide) rfl rfl (Nat.le_of_ble_eq_true rfl) (fun X hX hr => mX9_came hL hX hr h)

def fX9_knows (x1 : Int32) (x2 : Int32) (x3 : Int32) (M : Mem) : Option (Int32 × Mem) :=
  (fX9_isAsked x1 x2 x3 M).bind fun v2 =>
  if v2 = 0 then
  (nq_b2 (fX9_finds (1 : Int32) M) fun v5 M6 =>
  some (v5, M6))
  else
  ((fX9_knownBy x1 x2 x3 M).bind fun v8 =>
  some (v8, M))
set_option maxHeartbeats 4000000 in
theorem mX9_knows {X : Cx} {E : Ev} {l : Launch} {K : List Sh} {x1 : Int32} {x2 : Int32} {x3 : Int32} {M : Mem} {r : Int32} {M' : Mem} (hL : nq_atModel E K) (hX : nq_OK X E l (nq_rm 4) cX9_knows 4 RX9 wsX9_knows) (hr : nq_RT X E (some .int) (some (.int r)) K M') (h : fX9_knows x1 x2 x3 M = some (r, M')) : nq_G X E 4 0 [(0, .ref (nq_ad E 0)), (1, .int x1), (2, .int x2), (3, .int x3)] [] K M := by
  unfold fX9_knows at h
  refine nq_aload_n hX rfl 0 rfl dX9_knows_0 ?_
  refine nq_iload_n hX rfl 1 rfl dX9_knows_1 ?_
  refine nq_iload_n hX rfl 2 rfl dX9_knows_2 ?_
  refine nq_iload_n hX rfl 3 rfl dX9_knows_3 ?_
  obtain ⟨v2, hc1, h⟩ := nq_bE h
  refine nq_callVi hX (tX9_isAsked hL hc1) gX9_knows_X9_isAsked rfl rfl dsX9_isAsked (by decide) (nq_Model_0 hL) rfl rfl (Nat.le_of_ble_eq_true rfl) dX9_knows_4 ?_
  refine nq_if_eq hX (tgt := 20) (by decide) dX9_knows_7 (fun c3 => ?_) (fun c3 => ?_)
  · rw [if_pos c3] at h
    refine nq_aload_n hX rfl 0 rfl dX9_knows_20 ?_
    refine nq_iconst hX (v := 1) (by decide) dX9_knows_21 ?_
    obtain ⟨v5, M6, hc4, h⟩ := nq_b2E h
    refine nq_callVi hX (tX9_finds hL hc4) gX9_knows_X9_finds rfl rfl dsX9_finds (by decide) (nq_Model_0 hL) rfl rfl (Nat.le_of_ble_eq_true rfl) dX9_knows_22 ?_
    obtain ⟨rfl, rfl⟩ := nq_sE2 h; exact nq_iret hX hr dX9_knows_25
  · rw [if_neg c3] at h
    refine nq_aload_n hX rfl 0 rfl dX9_knows_10 ?_
    refine nq_iload_n hX rfl 1 rfl dX9_knows_11 ?_
    refine nq_iload_n hX rfl 2 rfl dX9_knows_12 ?_
    refine nq_iload_n hX rfl 3 rfl dX9_knows_13 ?_
    obtain ⟨v8, hc7, h⟩ := nq_bE h
    refine nq_callVi hX (tX9_knownBy hL hc7) gX9_knows_X9_knownBy rfl rfl dsX9_knownBy (by decide) (nq_Model_0 hL) rfl rfl (Nat.le_of_ble_eq_true rfl) dX9_knows_14 ?_
    refine nq_goto hX (tgt := 25) (by decide) dX9_knows_17 ?_
    obtain ⟨rfl, rfl⟩ := nq_sE2 h; exact nq_iret hX hr dX9_knows_25
theorem dsX9_knows : yX9_knows.cls ≠ "java/lang/invoke/MethodHandle" ∧ yX9_knows.cls ≠ "java/lang/invoke/VarHandle" ∧ (parseMethodDescriptor yX9_knows.desc).map (fun d => d.parameters.length) = some 3 := by decide +kernel
theorem tX9_knows {l : Launch} {E : Ev} {K : List Sh} {x1 : Int32} {x2 : Int32} {x3 : Int32} {M : Mem} {r : Int32} {M' : Mem} (hL : nq_atModel E K) (h : fX9_knows x1 x2 x3 M = some (r, M')) : nq_MA l E yX9_knows wsX9_knows (nq_rm 4) [.ref (nq_ad E 0), .int x1, .int x2, .int x3] K M (some (.int r)) K M' :=
  nq_met (own := RX9) (cc := cX9_knows) (maxL := 4) (ret := (some .int)) (by decide) rfl rfl (Nat.le_of_ble_eq_true rfl) (fun X hX hr => mX9_knows hL hX hr h)

def fX9_isOver (x1 : Int32) (x2 : Int32) (M : Mem) : Option (Int32) :=
  (fX9_wo x1 (4 : Int32) M).bind fun v2 =>
  (fX9_wo x1 (6 : Int32) M).bind fun v4 =>
  if x2 ≤ (v2 + v4) then
  (some (0 : Int32))
  else
  (some (1 : Int32))
set_option maxHeartbeats 4000000 in
theorem mX9_isOver {X : Cx} {E : Ev} {l : Launch} {K : List Sh} {x1 : Int32} {x2 : Int32} {M : Mem} {r : Int32} (hL : nq_atModel E K) (hX : nq_OK X E l (nq_rm 2) cX9_isOver 3 RX9 wsX9_isOver) (hr : nq_RT X E (some .boolean) (some (.int r)) K M) (h : fX9_isOver x1 x2 M = some r) : nq_G X E 3 0 [(0, .ref (nq_ad E 0)), (1, .int x1), (2, .int x2)] [] K M := by
  unfold fX9_isOver at h
  refine nq_iload_n hX rfl 2 rfl dX9_isOver_0 ?_
  refine nq_aload_n hX rfl 0 rfl dX9_isOver_1 ?_
  refine nq_iload_n hX rfl 1 rfl dX9_isOver_2 ?_
  refine nq_iconst hX (v := 4) (by decide) dX9_isOver_3 ?_
  obtain ⟨v2, hc1, h⟩ := nq_bE h
  refine nq_callVi hX (tX9_wo hL hc1) gX9_isOver_X9_wo rfl rfl dsX9_wo (by decide) (nq_Model_0 hL) rfl rfl (Nat.le_of_ble_eq_true rfl) dX9_isOver_4 ?_
  refine nq_aload_n hX rfl 0 rfl dX9_isOver_7 ?_
  refine nq_iload_n hX rfl 1 rfl dX9_isOver_8 ?_
  refine nq_bipush hX (v := 6) (by decide) dX9_isOver_9 ?_
  obtain ⟨v4, hc3, h⟩ := nq_bE h
  refine nq_callVi hX (tX9_wo hL hc3) gX9_isOver_X9_wo rfl rfl dsX9_wo (by decide) (nq_Model_0 hL) rfl rfl (Nat.le_of_ble_eq_true rfl) dX9_isOver_11 ?_
  refine nq_iadd hX dX9_isOver_14 ?_
  refine nq_icmp_le hX (tgt := 22) (by decide) dX9_isOver_15 (fun c5 => ?_) (fun c5 => ?_)
  · rw [if_pos c5] at h
    refine nq_iconst hX (v := 0) (by decide) dX9_isOver_22 ?_
    obtain rfl := nq_sE1 h; exact nq_zret hX hr rfl dX9_isOver_23
  · rw [if_neg c5] at h
    refine nq_iconst hX (v := 1) (by decide) dX9_isOver_18 ?_
    refine nq_goto hX (tgt := 23) (by decide) dX9_isOver_19 ?_
    obtain rfl := nq_sE1 h; exact nq_zret hX hr rfl dX9_isOver_23
theorem dsX9_isOver : yX9_isOver.cls ≠ "java/lang/invoke/MethodHandle" ∧ yX9_isOver.cls ≠ "java/lang/invoke/VarHandle" ∧ (parseMethodDescriptor yX9_isOver.desc).map (fun d => d.parameters.length) = some 2 := by decide +kernel
theorem tX9_isOver {l : Launch} {E : Ev} {K : List Sh} {x1 : Int32} {x2 : Int32} {M : Mem} {r : Int32} (hL : nq_atModel E K) (h : fX9_isOver x1 x2 M = some r) : nq_MA l E yX9_isOver wsX9_isOver (nq_rm 2) [.ref (nq_ad E 0), .int x1, .int x2] K M (some (.int r)) K M :=
  nq_met (own := RX9) (cc := cX9_isOver) (maxL := 3) (ret := (some .boolean)) (by decide) rfl rfl (Nat.le_of_ble_eq_true rfl) (fun X hX hr => mX9_isOver hL hX hr h)

theorem inX9_offers_9 : ∀ w ∈ u_ws RX9 TX9 23, w ∈ wsX9_offers := by
  intro w h; unfold wsX9_offers; simp only [List.mem_cons, List.mem_append]; simp only [h, true_or, or_true]
theorem lkX9_offers_25 : Cond.fieldLink RX9 25 (TX9 6).1 (TX9 6).2.1 (TX9 6).2.2.1 ∈ wsX9_offers := by decide +kernel
theorem lkX9_offers_28 : Cond.fieldLink RX9 28 (TX9 7).1 (TX9 7).2.1 (TX9 7).2.2.1 ∈ wsX9_offers := by decide +kernel
def fX9_offers (x1 : Int32) (x2 : Int32) (M : Mem) : Option (Mem) :=
  (nq_ag (M 6) 2 x1).bind fun v1 =>
  if v1 = 0 then
  ((nq_as M 6 2 x1 (1 : Int32)).bind fun M3 =>
  (nq_as M3 7 2 x1 x2).bind fun M4 =>
  some M4)
  else
  (some M)
set_option maxHeartbeats 4000000 in
theorem mX9_offers {X : Cx} {E : Ev} {l : Launch} {K : List Sh} {x1 : Int32} {x2 : Int32} {M : Mem} {M' : Mem} (hL : nq_atModel E K) (hX : nq_OK X E l (nq_rm 1) cX9_offers 3 RX9 wsX9_offers) (hr : nq_RT X E none none K M') (h : fX9_offers x1 x2 M = some M') : nq_G X E 3 0 [(0, .ref (nq_ad E 0)), (1, .int x1), (2, .int x2)] [] K M := by
  unfold fX9_offers at h
  refine nq_aload_n hX rfl 0 rfl dX9_offers_0 ?_
  refine nq_getr (v := .ref (nq_ad E 6)) hX inX9_offers_9 (nq_Model_0 hL) rfl 6 (by decide) lkX9_offers_25 _ rfl rfl dX9_offers_1 ?_
  refine nq_iload_n hX rfl 1 rfl dX9_offers_4 ?_
  obtain ⟨v1, e1, hi1, h⟩ := nq_agE h
  refine nq_iald hX (nq_Model_stanceNow hL) e1 hi1 dX9_offers_5 ?_
  refine nq_if_ne hX (tgt := 23) (by decide) dX9_offers_6 (fun c2 => ?_) (fun c2 => ?_)
  · rw [if_pos c2] at h
    refine nq_aload_n hX rfl 0 rfl dX9_offers_9 ?_
    refine nq_getr (v := .ref (nq_ad E 6)) hX inX9_offers_9 (nq_Model_0 hL) rfl 6 (by decide) lkX9_offers_25 _ rfl rfl dX9_offers_10 ?_
    refine nq_iload_n hX rfl 1 rfl dX9_offers_13 ?_
    refine nq_iconst hX (v := 1) (by decide) dX9_offers_14 ?_
    obtain ⟨M3, e3, hi3, h⟩ := nq_asE h
    refine nq_iast hX (nq_Model_stanceNow hL) e3 hi3 dX9_offers_15 ?_
    refine nq_aload_n hX rfl 0 rfl dX9_offers_16 ?_
    refine nq_getr (v := .ref (nq_ad E 7)) hX inX9_offers_9 (nq_Model_0 hL) rfl 7 (by decide) lkX9_offers_28 _ rfl rfl dX9_offers_17 ?_
    refine nq_iload_n hX rfl 1 rfl dX9_offers_20 ?_
    refine nq_iload_n hX rfl 2 rfl dX9_offers_21 ?_
    obtain ⟨M4, e4, hi4, h⟩ := nq_asE h
    refine nq_iast hX (nq_Model_offeredBy hL) e4 hi4 dX9_offers_22 ?_
    obtain rfl := nq_sE1 h; exact nq_vret hX hr dX9_offers_23
  · rw [if_neg c2] at h
    obtain rfl := nq_sE1 h; exact nq_vret hX hr dX9_offers_23
theorem dsX9_offers : yX9_offers.cls ≠ "java/lang/invoke/MethodHandle" ∧ yX9_offers.cls ≠ "java/lang/invoke/VarHandle" ∧ (parseMethodDescriptor yX9_offers.desc).map (fun d => d.parameters.length) = some 2 := by decide +kernel
theorem tX9_offers {l : Launch} {E : Ev} {K : List Sh} {x1 : Int32} {x2 : Int32} {M : Mem} {M' : Mem} (hL : nq_atModel E K) (h : fX9_offers x1 x2 M = some M') : nq_MA l E yX9_offers wsX9_offers (nq_rm 1) [.ref (nq_ad E 0), .int x1, .int x2] K M none K M' :=
  nq_met (own := RX9) (cc := cX9_offers) (maxL := 3) (ret := none) (by decide) rfl rfl (Nat.le_of_ble_eq_true rfl) (fun X hX hr => mX9_offers hL hX hr h)

theorem inX9_isAnswer_9 : ∀ w ∈ u_ws RX9 TX9 23, w ∈ wsX9_isAnswer := by
  intro w h; unfold wsX9_isAnswer; simp only [List.mem_cons, List.mem_append]; simp only [h, true_or, or_true]
theorem lkX9_isAnswer_7 : Cond.fieldLink RX9 7 (TX9 0).1 (TX9 0).2.1 (TX9 0).2.2.1 ∈ wsX9_isAnswer := by decide +kernel
def fX9_isAnswer_L73_5 (x1 : Int32) (x2 : Int32) (x3 : Int32) (x4 : Int32) (s0 : Int32) (M : Mem) : Option ((Int32 × Int32) ⊕ (Int32)) :=
  if x3 = 0 then
  (if s0 = 0 then
  (nq_lt (x4 + (1 : Int32)) fun v10 =>
  some (.inl ((0 : Int32), v10)))
  else
  ((fX9_isOver x4 x2 M).bind fun v12 =>
  if v12 = 0 then
  (nq_lt (x4 + (1 : Int32)) fun v14 =>
  some (.inl ((1 : Int32), v14)))
  else
  (nq_lt (x4 + (1 : Int32)) fun v15 =>
  some (.inl ((0 : Int32), v15)))))
  else
  (nq_lt (x4 + (1 : Int32)) fun v16 =>
  some (.inl ((1 : Int32), v16)))
set_option maxHeartbeats 4000000 in
theorem mX9_isAnswer_L73_5 {X : Cx} {E : Ev} {l : Launch} {K : List Sh} {x1 : Int32} {x2 : Int32} {x3 : Int32} {x4 : Int32} {s0 : Int32} {M : Mem} (hL : nq_atModel E K) (hX : nq_OK X E l (nq_rm 3) cX9_isAnswer 6 RX9 wsX9_isAnswer) {x : (Int32 × Int32) ⊕ (Int32)} (hc : ∀ s' : Int32 × Int32, x = .inl s' → nq_G X E 6 5 [(0, .ref (nq_ad E 0)), (1, .int x1), (2, .int x2), (3, .int s'.1), (4, .int s'.2)] [] K M) (he : ∀ s' : Int32, x = .inr s' → nq_G X E 6 106 [(3, .int s')] [] K M) (h : fX9_isAnswer_L73_5 x1 x2 x3 x4 s0 M = some x) : nq_G X E 6 73 [(0, .ref (nq_ad E 0)), (1, .int x1), (2, .int x2), (3, .int x3), (4, .int x4)] [.int s0] K M := by
  unfold fX9_isAnswer_L73_5 at h
  refine nq_istore hX (lv' := [(5, .int s0), (0, .ref (nq_ad E 0)), (1, .int x1), (2, .int x2), (3, .int x3), (4, .int x4)]) (by decide) rfl rfl dX9_isAnswer_73 ?_
  refine nq_iload_n hX rfl 4 rfl dX9_isAnswer_75 ?_
  refine nq_if_ne hX (tgt := 94) (by decide) dX9_isAnswer_76 (fun c8 => ?_) (fun c8 => ?_)
  · rw [if_pos c8] at h
    refine nq_iload hX 0 rfl dX9_isAnswer_79 ?_
    refine nq_if_eq hX (tgt := 98) (by decide) dX9_isAnswer_81 (fun c9 => ?_) (fun c9 => ?_)
    · rw [if_pos c9] at h
      refine nq_iconst hX (v := 0) (by decide) dX9_isAnswer_98 ?_
      refine nq_istore_n hX (lv' := [(3, .int (0 : Int32)), (5, .int s0), (0, .ref (nq_ad E 0)), (1, .int x1), (2, .int x2), (4, .int x4)]) rfl (by decide) rfl rfl dX9_isAnswer_99 ?_
      obtain ⟨v10, e10, h⟩ := nq_ltE h
      refine nq_iinc hX (lv' := [(4, .int v10), (3, .int (0 : Int32)), (5, .int s0), (0, .ref (nq_ad E 0)), (1, .int x1), (2, .int x2)]) (j := 5) rfl (e10.trans rfl) (by decide) rfl dX9_isAnswer_100 ?_
      refine nq_goto hX (tgt := 5) (by decide) dX9_isAnswer_103 ?_
      refine nq_sub (lv' := [(0, .ref (nq_ad E 0)), (1, .int x1), (2, .int x2), (3, .int (0 : Int32)), (4, .int v10)]) [3, 4, 5, 1, 0] rfl ?_
      exact hc ((0 : Int32), v10) (nq_sE h).symm
    · rw [if_neg c9] at h
      refine nq_aload_n hX rfl 1 rfl dX9_isAnswer_84 ?_
      refine nq_iload hX 5 rfl dX9_isAnswer_85 ?_
      refine nq_iload_n hX rfl 3 rfl dX9_isAnswer_87 ?_
      obtain ⟨v12, hc11, h⟩ := nq_bE h
      refine nq_callVi hX (tX9_isOver hL hc11) gX9_isAnswer_X9_isOver rfl rfl dsX9_isOver (by decide) (nq_Model_0 hL) rfl rfl (Nat.le_of_ble_eq_true rfl) dX9_isAnswer_88 ?_
      refine nq_if_ne hX (tgt := 98) (by decide) dX9_isAnswer_91 (fun c13 => ?_) (fun c13 => ?_)
      · rw [if_pos c13] at h
        refine nq_iconst hX (v := 1) (by decide) dX9_isAnswer_94 ?_
        refine nq_goto hX (tgt := 99) (by decide) dX9_isAnswer_95 ?_
        refine nq_istore_n hX (lv' := [(3, .int (1 : Int32)), (5, .int s0), (0, .ref (nq_ad E 0)), (1, .int x1), (2, .int x2), (4, .int x4)]) rfl (by decide) rfl rfl dX9_isAnswer_99 ?_
        obtain ⟨v14, e14, h⟩ := nq_ltE h
        refine nq_iinc hX (lv' := [(4, .int v14), (3, .int (1 : Int32)), (5, .int s0), (0, .ref (nq_ad E 0)), (1, .int x1), (2, .int x2)]) (j := 5) rfl (e14.trans rfl) (by decide) rfl dX9_isAnswer_100 ?_
        refine nq_goto hX (tgt := 5) (by decide) dX9_isAnswer_103 ?_
        refine nq_sub (lv' := [(0, .ref (nq_ad E 0)), (1, .int x1), (2, .int x2), (3, .int (1 : Int32)), (4, .int v14)]) [3, 4, 5, 1, 0] rfl ?_
        exact hc ((1 : Int32), v14) (nq_sE h).symm
      · rw [if_neg c13] at h
        refine nq_iconst hX (v := 0) (by decide) dX9_isAnswer_98 ?_
        refine nq_istore_n hX (lv' := [(3, .int (0 : Int32)), (5, .int s0), (0, .ref (nq_ad E 0)), (1, .int x1), (2, .int x2), (4, .int x4)]) rfl (by decide) rfl rfl dX9_isAnswer_99 ?_
        obtain ⟨v15, e15, h⟩ := nq_ltE h
        refine nq_iinc hX (lv' := [(4, .int v15), (3, .int (0 : Int32)), (5, .int s0), (0, .ref (nq_ad E 0)), (1, .int x1), (2, .int x2)]) (j := 5) rfl (e15.trans rfl) (by decide) rfl dX9_isAnswer_100 ?_
        refine nq_goto hX (tgt := 5) (by decide) dX9_isAnswer_103 ?_
        refine nq_sub (lv' := [(0, .ref (nq_ad E 0)), (1, .int x1), (2, .int x2), (3, .int (0 : Int32)), (4, .int v15)]) [3, 4, 5, 1, 0] rfl ?_
        exact hc ((0 : Int32), v15) (nq_sE h).symm
  · rw [if_neg c8] at h
    refine nq_iconst hX (v := 1) (by decide) dX9_isAnswer_94 ?_
    refine nq_goto hX (tgt := 99) (by decide) dX9_isAnswer_95 ?_
    refine nq_istore_n hX (lv' := [(3, .int (1 : Int32)), (5, .int s0), (0, .ref (nq_ad E 0)), (1, .int x1), (2, .int x2), (4, .int x4)]) rfl (by decide) rfl rfl dX9_isAnswer_99 ?_
    obtain ⟨v16, e16, h⟩ := nq_ltE h
    refine nq_iinc hX (lv' := [(4, .int v16), (3, .int (1 : Int32)), (5, .int s0), (0, .ref (nq_ad E 0)), (1, .int x1), (2, .int x2)]) (j := 5) rfl (e16.trans rfl) (by decide) rfl dX9_isAnswer_100 ?_
    refine nq_goto hX (tgt := 5) (by decide) dX9_isAnswer_103 ?_
    refine nq_sub (lv' := [(0, .ref (nq_ad E 0)), (1, .int x1), (2, .int x2), (3, .int (1 : Int32)), (4, .int v16)]) [3, 4, 5, 1, 0] rfl ?_
    exact hc ((1 : Int32), v16) (nq_sE h).symm
def fX9_isAnswer_L72_5 (x1 : Int32) (x2 : Int32) (x3 : Int32) (x4 : Int32) (M : Mem) : Option ((Int32 × Int32) ⊕ (Int32)) :=
  fX9_isAnswer_L73_5 x1 x2 x3 x4 (0 : Int32) M
set_option maxHeartbeats 4000000 in
theorem mX9_isAnswer_L72_5 {X : Cx} {E : Ev} {l : Launch} {K : List Sh} {x1 : Int32} {x2 : Int32} {x3 : Int32} {x4 : Int32} {M : Mem} (hL : nq_atModel E K) (hX : nq_OK X E l (nq_rm 3) cX9_isAnswer 6 RX9 wsX9_isAnswer) {x : (Int32 × Int32) ⊕ (Int32)} (hc : ∀ s' : Int32 × Int32, x = .inl s' → nq_G X E 6 5 [(0, .ref (nq_ad E 0)), (1, .int x1), (2, .int x2), (3, .int s'.1), (4, .int s'.2)] [] K M) (he : ∀ s' : Int32, x = .inr s' → nq_G X E 6 106 [(3, .int s')] [] K M) (h : fX9_isAnswer_L72_5 x1 x2 x3 x4 M = some x) : nq_G X E 6 72 [(0, .ref (nq_ad E 0)), (1, .int x1), (2, .int x2), (3, .int x3), (4, .int x4)] [] K M := by
  unfold fX9_isAnswer_L72_5 at h
  refine nq_iconst hX (v := 0) (by decide) dX9_isAnswer_72 ?_
  exact mX9_isAnswer_L73_5 hL hX hc he h
def fX9_isAnswer_B5 (x1 : Int32) (x2 : Int32) (x3 : Int32) (x4 : Int32) (M : Mem) : Option ((Int32 × Int32) ⊕ (Int32)) :=
  (nq_ag (M 1) 1250 (2 : Int32)).bind fun v1 =>
  if v1 ≤ x4 then
  (some (.inr x3))
  else
  ((fX9_wo x4 (0 : Int32) M).bind fun v4 =>
  (fX9_isOf v4 (1 : Int32) M).bind fun v6 =>
  if v6 = 0 then
  (fX9_isAnswer_L72_5 x1 x2 x3 x4 M)
  else
  ((fX9_wo x4 (1 : Int32) M).bind fun v18 =>
  (fX9_wo x1 (2 : Int32) M).bind fun v20 =>
  if v18 = v20 then
  ((fX9_wo x1 (1 : Int32) M).bind fun v23 =>
  (fX9_wo x1 (3 : Int32) M).bind fun v25 =>
  (fX9_hasCome x4 v23 v25 x2 M).bind fun v27 =>
  if v27 = 0 then
  (fX9_isAnswer_L72_5 x1 x2 x3 x4 M)
  else
  (fX9_isAnswer_L73_5 x1 x2 x3 x4 (1 : Int32) M))
  else
  (fX9_isAnswer_L72_5 x1 x2 x3 x4 M)))
set_option maxHeartbeats 4000000 in
theorem mX9_isAnswer_B5 {X : Cx} {E : Ev} {l : Launch} {K : List Sh} {x1 : Int32} {x2 : Int32} {x3 : Int32} {x4 : Int32} {M : Mem} (hL : nq_atModel E K) (hX : nq_OK X E l (nq_rm 3) cX9_isAnswer 6 RX9 wsX9_isAnswer) {x : (Int32 × Int32) ⊕ (Int32)} (hc : ∀ s' : Int32 × Int32, x = .inl s' → nq_G X E 6 5 [(0, .ref (nq_ad E 0)), (1, .int x1), (2, .int x2), (3, .int s'.1), (4, .int s'.2)] [] K M) (he : ∀ s' : Int32, x = .inr s' → nq_G X E 6 106 [(3, .int s')] [] K M) (h : fX9_isAnswer_B5 x1 x2 x3 x4 M = some x) : nq_G X E 6 5 [(0, .ref (nq_ad E 0)), (1, .int x1), (2, .int x2), (3, .int x3), (4, .int x4)] [] K M := by
  unfold fX9_isAnswer_B5 at h
  refine nq_iload hX 4 rfl dX9_isAnswer_5 ?_
  refine nq_aload_n hX rfl 0 rfl dX9_isAnswer_7 ?_
  refine nq_getr (v := .ref (nq_ad E 1)) hX inX9_isAnswer_9 (nq_Model_0 hL) rfl 0 (by decide) lkX9_isAnswer_7 _ rfl rfl dX9_isAnswer_8 ?_
  refine nq_iconst hX (v := 2) (by decide) dX9_isAnswer_11 ?_
  obtain ⟨v1, e1, hi1, h⟩ := nq_agE h
  refine nq_iald hX (nq_Model_d hL) e1 hi1 dX9_isAnswer_12 ?_
  refine nq_icmp_ge hX (tgt := 106) (by decide) dX9_isAnswer_13 (fun c2 => ?_) (fun c2 => ?_)
  · rw [if_pos c2] at h
    refine nq_sub (lv' := [(3, .int x3)]) [3] rfl ?_
    exact he x3 (nq_sE h).symm
  · rw [if_neg c2] at h
    refine nq_aload_n hX rfl 0 rfl dX9_isAnswer_16 ?_
    refine nq_iload hX 4 rfl dX9_isAnswer_17 ?_
    refine nq_iconst hX (v := 0) (by decide) dX9_isAnswer_19 ?_
    obtain ⟨v4, hc3, h⟩ := nq_bE h
    refine nq_callVi hX (tX9_wo hL hc3) gX9_isAnswer_X9_wo rfl rfl dsX9_wo (by decide) (nq_Model_0 hL) rfl rfl (Nat.le_of_ble_eq_true rfl) dX9_isAnswer_20 ?_
    refine nq_iconst hX (v := 1) (by decide) dX9_isAnswer_23 ?_
    obtain ⟨v6, hc5, h⟩ := nq_bE h
    refine nq_callSi hX (tX9_isOf  hc5) gX9_isAnswer_X9_isOf rfl rfl dsX9_isOf (by decide) rfl (Nat.le_of_ble_eq_true rfl) dX9_isAnswer_24 ?_
    refine nq_if_eq hX (tgt := 72) (by decide) dX9_isAnswer_27 (fun c7 => ?_) (fun c7 => ?_)
    · rw [if_pos c7] at h
      exact mX9_isAnswer_L72_5 hL hX hc he h
    · rw [if_neg c7] at h
      refine nq_aload_n hX rfl 0 rfl dX9_isAnswer_30 ?_
      refine nq_iload hX 4 rfl dX9_isAnswer_31 ?_
      refine nq_iconst hX (v := 1) (by decide) dX9_isAnswer_33 ?_
      obtain ⟨v18, hc17, h⟩ := nq_bE h
      refine nq_callVi hX (tX9_wo hL hc17) gX9_isAnswer_X9_wo rfl rfl dsX9_wo (by decide) (nq_Model_0 hL) rfl rfl (Nat.le_of_ble_eq_true rfl) dX9_isAnswer_34 ?_
      refine nq_aload_n hX rfl 0 rfl dX9_isAnswer_37 ?_
      refine nq_iload_n hX rfl 1 rfl dX9_isAnswer_38 ?_
      refine nq_iconst hX (v := 2) (by decide) dX9_isAnswer_39 ?_
      obtain ⟨v20, hc19, h⟩ := nq_bE h
      refine nq_callVi hX (tX9_wo hL hc19) gX9_isAnswer_X9_wo rfl rfl dsX9_wo (by decide) (nq_Model_0 hL) rfl rfl (Nat.le_of_ble_eq_true rfl) dX9_isAnswer_40 ?_
      refine nq_icmp_ne hX (tgt := 72) (by decide) dX9_isAnswer_43 (fun c21 => ?_) (fun c21 => ?_)
      · rw [if_pos c21] at h
        refine nq_aload_n hX rfl 0 rfl dX9_isAnswer_46 ?_
        refine nq_iload hX 4 rfl dX9_isAnswer_47 ?_
        refine nq_aload_n hX rfl 0 rfl dX9_isAnswer_49 ?_
        refine nq_iload_n hX rfl 1 rfl dX9_isAnswer_50 ?_
        refine nq_iconst hX (v := 1) (by decide) dX9_isAnswer_51 ?_
        obtain ⟨v23, hc22, h⟩ := nq_bE h
        refine nq_callVi hX (tX9_wo hL hc22) gX9_isAnswer_X9_wo rfl rfl dsX9_wo (by decide) (nq_Model_0 hL) rfl rfl (Nat.le_of_ble_eq_true rfl) dX9_isAnswer_52 ?_
        refine nq_aload_n hX rfl 0 rfl dX9_isAnswer_55 ?_
        refine nq_iload_n hX rfl 1 rfl dX9_isAnswer_56 ?_
        refine nq_iconst hX (v := 3) (by decide) dX9_isAnswer_57 ?_
        obtain ⟨v25, hc24, h⟩ := nq_bE h
        refine nq_callVi hX (tX9_wo hL hc24) gX9_isAnswer_X9_wo rfl rfl dsX9_wo (by decide) (nq_Model_0 hL) rfl rfl (Nat.le_of_ble_eq_true rfl) dX9_isAnswer_58 ?_
        refine nq_iload_n hX rfl 2 rfl dX9_isAnswer_61 ?_
        obtain ⟨v27, hc26, h⟩ := nq_bE h
        refine nq_callVi hX (tX9_hasCome hL hc26) gX9_isAnswer_X9_hasCome rfl rfl dsX9_hasCome (by decide) (nq_Model_0 hL) rfl rfl (Nat.le_of_ble_eq_true rfl) dX9_isAnswer_62 ?_
        refine nq_if_eq hX (tgt := 72) (by decide) dX9_isAnswer_65 (fun c28 => ?_) (fun c28 => ?_)
        · rw [if_pos c28] at h
          exact mX9_isAnswer_L72_5 hL hX hc he h
        · rw [if_neg c28] at h
          refine nq_iconst hX (v := 1) (by decide) dX9_isAnswer_68 ?_
          refine nq_goto hX (tgt := 73) (by decide) dX9_isAnswer_69 ?_
          exact mX9_isAnswer_L73_5 hL hX hc he h
      · rw [if_neg c21] at h
        exact mX9_isAnswer_L72_5 hL hX hc he h
def fX9_isAnswer_L106 (x3 : Int32) (M : Mem) : Option (Int32) :=
  (nq_nz .boolean x3).bind fun _ =>
  some x3
set_option maxHeartbeats 4000000 in
theorem mX9_isAnswer_L106 {X : Cx} {E : Ev} {l : Launch} {K : List Sh} {x3 : Int32} {M : Mem} {r : Int32} (hL : nq_atModel E K) (hX : nq_OK X E l (nq_rm 3) cX9_isAnswer 6 RX9 wsX9_isAnswer) (hr : nq_RT X E (some .boolean) (some (.int r)) K M) (h : fX9_isAnswer_L106 x3 M = some r) : nq_G X E 6 106 [(3, .int x3)] [] K M := by
  unfold fX9_isAnswer_L106 at h
  refine nq_iload_n hX rfl 0 rfl dX9_isAnswer_106 ?_
  obtain ⟨hn29, h⟩ := nq_nzE h
  obtain rfl := nq_sE1 h; exact nq_zret hX hr hn29 dX9_isAnswer_107
def fX9_isAnswer_L5 (x1 : Int32) (x2 : Int32) (x3 : Int32) (x4 : Int32) (M : Mem) : Option (Int32) :=
  (nq_lp (fun s : Int32 × Int32 => fX9_isAnswer_B5 x1 x2 s.1 s.2 M) nq_fuel (x3, x4)).bind (fun e => fX9_isAnswer_L106 e M)
set_option maxHeartbeats 4000000 in
theorem mX9_isAnswer_L5 {X : Cx} {E : Ev} {l : Launch} {K : List Sh} {x1 : Int32} {x2 : Int32} {x3 : Int32} {x4 : Int32} {M : Mem} {r : Int32} (hL : nq_atModel E K) (hX : nq_OK X E l (nq_rm 3) cX9_isAnswer 6 RX9 wsX9_isAnswer) (hr : nq_RT X E (some .boolean) (some (.int r)) K M) (h : fX9_isAnswer_L5 x1 x2 x3 x4 M = some r) : nq_G X E 6 5 [(0, .ref (nq_ad E 0)), (1, .int x1), (2, .int x2), (3, .int x3), (4, .int x4)] [] K M := by
  unfold fX9_isAnswer_L5 at h
  obtain ⟨e, h1, h⟩ := nq_bE h
  have key : ∀ (ex : Int32), nq_lp (fun s : Int32 × Int32 => fX9_isAnswer_B5 x1 x2 s.1 s.2 M) nq_fuel (x3, x4) = some ex → (∀ e, ex = e → nq_G X E 6 106 [(3, .int e)] [] K M) → nq_G X E 6 5 [(0, .ref (nq_ad E 0)), (1, .int x1), (2, .int x2), (3, .int ((x3, x4).1)), (4, .int ((x3, x4).2))] [] K M := by
    intro ex h1 hE
    refine nq_lpE (P := fun s : Int32 × Int32 => nq_G X E 6 5 [(0, .ref (nq_ad E 0)), (1, .int x1), (2, .int x2), (3, .int s.1), (4, .int s.2)] [] K M) (r := ex) ?_ nq_fuel (x3, x4) h1
    intro s xx hx1 hc1 he1
    exact mX9_isAnswer_B5 hL hX hc1 (fun e q => hE e (he1 _ q).symm) hx1
  refine key e h1 (fun e q => ?_)
  subst q
  exact mX9_isAnswer_L106 hL hX hr h
def fX9_isAnswer (x1 : Int32) (x2 : Int32) (M : Mem) : Option (Int32) :=
  fX9_isAnswer_L5 x1 x2 (0 : Int32) (0 : Int32) M
set_option maxHeartbeats 4000000 in
theorem mX9_isAnswer {X : Cx} {E : Ev} {l : Launch} {K : List Sh} {x1 : Int32} {x2 : Int32} {M : Mem} {r : Int32} (hL : nq_atModel E K) (hX : nq_OK X E l (nq_rm 3) cX9_isAnswer 6 RX9 wsX9_isAnswer) (hr : nq_RT X E (some .boolean) (some (.int r)) K M) (h : fX9_isAnswer x1 x2 M = some r) : nq_G X E 6 0 [(0, .ref (nq_ad E 0)), (1, .int x1), (2, .int x2)] [] K M := by
  unfold fX9_isAnswer at h
  refine nq_iconst hX (v := 0) (by decide) dX9_isAnswer_0 ?_
  refine nq_istore_n hX (lv' := [(3, .int (0 : Int32)), (0, .ref (nq_ad E 0)), (1, .int x1), (2, .int x2)]) rfl (by decide) rfl rfl dX9_isAnswer_1 ?_
  refine nq_iconst hX (v := 0) (by decide) dX9_isAnswer_2 ?_
  refine nq_istore hX (lv' := [(4, .int (0 : Int32)), (3, .int (0 : Int32)), (0, .ref (nq_ad E 0)), (1, .int x1), (2, .int x2)]) (by decide) rfl rfl dX9_isAnswer_3 ?_
  refine nq_sub (lv' := [(0, .ref (nq_ad E 0)), (1, .int x1), (2, .int x2), (3, .int (0 : Int32)), (4, .int (0 : Int32))]) [2, 3, 4, 1, 0] rfl ?_
  exact mX9_isAnswer_L5 hL hX hr h
theorem dsX9_isAnswer : yX9_isAnswer.cls ≠ "java/lang/invoke/MethodHandle" ∧ yX9_isAnswer.cls ≠ "java/lang/invoke/VarHandle" ∧ (parseMethodDescriptor yX9_isAnswer.desc).map (fun d => d.parameters.length) = some 2 := by decide +kernel
theorem tX9_isAnswer {l : Launch} {E : Ev} {K : List Sh} {x1 : Int32} {x2 : Int32} {M : Mem} {r : Int32} (hL : nq_atModel E K) (h : fX9_isAnswer x1 x2 M = some r) : nq_MA l E yX9_isAnswer wsX9_isAnswer (nq_rm 3) [.ref (nq_ad E 0), .int x1, .int x2] K M (some (.int r)) K M :=
  nq_met (own := RX9) (cc := cX9_isAnswer) (maxL := 6) (ret := (some .boolean)) (by decide) rfl rfl (Nat.le_of_ble_eq_true rfl) (fun X hX hr => mX9_isAnswer hL hX hr h)

theorem inX9_comes_9 : ∀ w ∈ u_ws RX9 TX9 23, w ∈ wsX9_comes := by
  intro w h; unfold wsX9_comes; simp only [List.mem_cons, List.mem_append]; simp only [h, true_or, or_true]
theorem lkX9_comes_25 : Cond.fieldLink RX9 25 (TX9 6).1 (TX9 6).2.1 (TX9 6).2.2.1 ∈ wsX9_comes := by decide +kernel
def fX9_comes_L35 (x3 : Int32) (x4 : Int32) (s0 : Int32) (M : Mem) : Option (Mem) :=
  if x4 = (4 : Int32) then
  (if x3 = (1 : Int32) then
  ((nq_as M 6 2 s0 (0 : Int32)).bind fun M9 =>
  some M9)
  else
  (if x3 = (2 : Int32) then
  ((nq_as M 6 2 s0 (0 : Int32)).bind fun M11 =>
  some M11)
  else
  ((nq_as M 6 2 s0 x3).bind fun M12 =>
  some M12)))
  else
  ((nq_as M 6 2 s0 x3).bind fun M13 =>
  some M13)
set_option maxHeartbeats 4000000 in
theorem mX9_comes_L35 {X : Cx} {E : Ev} {l : Launch} {K : List Sh} {x3 : Int32} {x4 : Int32} {s0 : Int32} {M : Mem} {M' : Mem} (hL : nq_atModel E K) (hX : nq_OK X E l (nq_rm 2) cX9_comes 5 RX9 wsX9_comes) (hr : nq_RT X E none none K M') (h : fX9_comes_L35 x3 x4 s0 M = some M') : nq_G X E 5 35 [(3, .int x3), (4, .int x4)] [.int s0, .ref (nq_ad E 6)] K M := by
  unfold fX9_comes_L35 at h
  refine nq_iload hX 1 rfl dX9_comes_35 ?_
  refine nq_iconst hX (v := 4) (by decide) dX9_comes_37 ?_
  refine nq_icmp_ne hX (tgt := 55) (by decide) dX9_comes_38 (fun c7 => ?_) (fun c7 => ?_)
  · rw [if_pos c7] at h
    refine nq_iload_n hX rfl 0 rfl dX9_comes_41 ?_
    refine nq_iconst hX (v := 1) (by decide) dX9_comes_42 ?_
    refine nq_icmp_eq hX (tgt := 51) (by decide) dX9_comes_43 (fun c8 => ?_) (fun c8 => ?_)
    · rw [if_pos c8] at h
      refine nq_iconst hX (v := 0) (by decide) dX9_comes_51 ?_
      refine nq_goto hX (tgt := 56) (by decide) dX9_comes_52 ?_
      obtain ⟨M9, e9, hi9, h⟩ := nq_asE h
      refine nq_iast hX (nq_Model_stanceNow hL) e9 hi9 dX9_comes_56 ?_
      obtain rfl := nq_sE1 h; exact nq_vret hX hr dX9_comes_57
    · rw [if_neg c8] at h
      refine nq_iload_n hX rfl 0 rfl dX9_comes_46 ?_
      refine nq_iconst hX (v := 2) (by decide) dX9_comes_47 ?_
      refine nq_icmp_ne hX (tgt := 55) (by decide) dX9_comes_48 (fun c10 => ?_) (fun c10 => ?_)
      · rw [if_pos c10] at h
        refine nq_iconst hX (v := 0) (by decide) dX9_comes_51 ?_
        refine nq_goto hX (tgt := 56) (by decide) dX9_comes_52 ?_
        obtain ⟨M11, e11, hi11, h⟩ := nq_asE h
        refine nq_iast hX (nq_Model_stanceNow hL) e11 hi11 dX9_comes_56 ?_
        obtain rfl := nq_sE1 h; exact nq_vret hX hr dX9_comes_57
      · rw [if_neg c10] at h
        refine nq_iload_n hX rfl 0 rfl dX9_comes_55 ?_
        obtain ⟨M12, e12, hi12, h⟩ := nq_asE h
        refine nq_iast hX (nq_Model_stanceNow hL) e12 hi12 dX9_comes_56 ?_
        obtain rfl := nq_sE1 h; exact nq_vret hX hr dX9_comes_57
  · rw [if_neg c7] at h
    refine nq_iload_n hX rfl 0 rfl dX9_comes_55 ?_
    obtain ⟨M13, e13, hi13, h⟩ := nq_asE h
    refine nq_iast hX (nq_Model_stanceNow hL) e13 hi13 dX9_comes_56 ?_
    obtain rfl := nq_sE1 h; exact nq_vret hX hr dX9_comes_57
def fX9_comes (x1 : Int32) (x2 : Int32) (M : Mem) : Option (Mem) :=
  (nq_ag (M 6) 2 x1).bind fun v1 =>
  (fX9_wo x2 (0 : Int32) M).bind fun v3 =>
  if v3 = (2 : Int32) then
  (if v1 = (1 : Int32) then
  ((nq_as M 6 2 x1 (2 : Int32)).bind fun M6 =>
  some M6)
  else
  (fX9_comes_L35 v1 v3 x1 M))
  else
  (fX9_comes_L35 v1 v3 x1 M)
set_option maxHeartbeats 4000000 in
theorem mX9_comes {X : Cx} {E : Ev} {l : Launch} {K : List Sh} {x1 : Int32} {x2 : Int32} {M : Mem} {M' : Mem} (hL : nq_atModel E K) (hX : nq_OK X E l (nq_rm 2) cX9_comes 5 RX9 wsX9_comes) (hr : nq_RT X E none none K M') (h : fX9_comes x1 x2 M = some M') : nq_G X E 5 0 [(0, .ref (nq_ad E 0)), (1, .int x1), (2, .int x2)] [] K M := by
  unfold fX9_comes at h
  refine nq_aload_n hX rfl 0 rfl dX9_comes_0 ?_
  refine nq_getr (v := .ref (nq_ad E 6)) hX inX9_comes_9 (nq_Model_0 hL) rfl 6 (by decide) lkX9_comes_25 _ rfl rfl dX9_comes_1 ?_
  refine nq_iload_n hX rfl 1 rfl dX9_comes_4 ?_
  obtain ⟨v1, e1, hi1, h⟩ := nq_agE h
  refine nq_iald hX (nq_Model_stanceNow hL) e1 hi1 dX9_comes_5 ?_
  refine nq_istore_n hX (lv' := [(3, .int v1), (0, .ref (nq_ad E 0)), (1, .int x1), (2, .int x2)]) rfl (by decide) rfl rfl dX9_comes_6 ?_
  refine nq_aload_n hX rfl 1 rfl dX9_comes_7 ?_
  refine nq_iload_n hX rfl 3 rfl dX9_comes_8 ?_
  refine nq_iconst hX (v := 0) (by decide) dX9_comes_9 ?_
  obtain ⟨v3, hc2, h⟩ := nq_bE h
  refine nq_callVi hX (tX9_wo hL hc2) gX9_comes_X9_wo rfl rfl dsX9_wo (by decide) (nq_Model_0 hL) rfl rfl (Nat.le_of_ble_eq_true rfl) dX9_comes_10 ?_
  refine nq_istore hX (lv' := [(4, .int v3), (3, .int v1), (0, .ref (nq_ad E 0)), (1, .int x1), (2, .int x2)]) (by decide) rfl rfl dX9_comes_13 ?_
  refine nq_aload_n hX rfl 2 rfl dX9_comes_15 ?_
  refine nq_getr (v := .ref (nq_ad E 6)) hX inX9_comes_9 (nq_Model_0 hL) rfl 6 (by decide) lkX9_comes_25 _ rfl rfl dX9_comes_16 ?_
  refine nq_iload_n hX rfl 3 rfl dX9_comes_19 ?_
  refine nq_iload hX 0 rfl dX9_comes_20 ?_
  refine nq_iconst hX (v := 2) (by decide) dX9_comes_22 ?_
  refine nq_icmp_ne hX (tgt := 35) (by decide) dX9_comes_23 (fun c4 => ?_) (fun c4 => ?_)
  · rw [if_pos c4] at h
    refine nq_iload_n hX rfl 1 rfl dX9_comes_26 ?_
    refine nq_iconst hX (v := 1) (by decide) dX9_comes_27 ?_
    refine nq_icmp_ne hX (tgt := 35) (by decide) dX9_comes_28 (fun c5 => ?_) (fun c5 => ?_)
    · rw [if_pos c5] at h
      refine nq_iconst hX (v := 2) (by decide) dX9_comes_31 ?_
      refine nq_goto hX (tgt := 56) (by decide) dX9_comes_32 ?_
      obtain ⟨M6, e6, hi6, h⟩ := nq_asE h
      refine nq_iast hX (nq_Model_stanceNow hL) e6 hi6 dX9_comes_56 ?_
      obtain rfl := nq_sE1 h; exact nq_vret hX hr dX9_comes_57
    · rw [if_neg c5] at h
      refine nq_sub (lv' := [(3, .int v1), (4, .int v3)]) [1, 0] rfl ?_
      exact mX9_comes_L35 hL hX hr h
  · rw [if_neg c4] at h
    refine nq_sub (lv' := [(3, .int v1), (4, .int v3)]) [1, 0] rfl ?_
    exact mX9_comes_L35 hL hX hr h
theorem dsX9_comes : yX9_comes.cls ≠ "java/lang/invoke/MethodHandle" ∧ yX9_comes.cls ≠ "java/lang/invoke/VarHandle" ∧ (parseMethodDescriptor yX9_comes.desc).map (fun d => d.parameters.length) = some 2 := by decide +kernel
theorem tX9_comes {l : Launch} {E : Ev} {K : List Sh} {x1 : Int32} {x2 : Int32} {M : Mem} {M' : Mem} (hL : nq_atModel E K) (h : fX9_comes x1 x2 M = some M') : nq_MA l E yX9_comes wsX9_comes (nq_rm 2) [.ref (nq_ad E 0), .int x1, .int x2] K M none K M' :=
  nq_met (own := RX9) (cc := cX9_comes) (maxL := 5) (ret := none) (by decide) rfl rfl (Nat.le_of_ble_eq_true rfl) (fun X hX hr => mX9_comes hL hX hr h)

theorem inX9_goes_9 : ∀ w ∈ u_ws RX9 TX9 23, w ∈ wsX9_goes := by
  intro w h; unfold wsX9_goes; simp only [List.mem_cons, List.mem_append]; simp only [h, true_or, or_true]
theorem lkX9_goes_25 : Cond.fieldLink RX9 25 (TX9 6).1 (TX9 6).2.1 (TX9 6).2.2.1 ∈ wsX9_goes := by decide +kernel
def fX9_goes_L82 (x1 : Int32) (x2 : Int32) (M : Mem) : Option (Mem) :=
  (fX9_offers x1 x2 M).bind fun M9 =>
  some M9
set_option maxHeartbeats 4000000 in
theorem mX9_goes_L82 {X : Cx} {E : Ev} {l : Launch} {K : List Sh} {x1 : Int32} {x2 : Int32} {M : Mem} {M' : Mem} (hL : nq_atModel E K) (hX : nq_OK X E l (nq_rm 4) cX9_goes 5 RX9 wsX9_goes) (hr : nq_RT X E none none K M') (h : fX9_goes_L82 x1 x2 M = some M') : nq_G X E 5 82 [(0, .ref (nq_ad E 0)), (1, .int x1), (2, .int x2)] [] K M := by
  unfold fX9_goes_L82 at h
  refine nq_aload_n hX rfl 0 rfl dX9_goes_82 ?_
  refine nq_iload_n hX rfl 1 rfl dX9_goes_83 ?_
  refine nq_iload_n hX rfl 2 rfl dX9_goes_84 ?_
  obtain ⟨M9, hc8, h⟩ := nq_bE h
  refine nq_callVv hX (tX9_offers hL hc8) gX9_goes_X9_offers rfl rfl dsX9_offers (by decide) (nq_Model_0 hL) rfl rfl (Nat.le_of_ble_eq_true rfl) dX9_goes_85 ?_
  refine nq_goto hX (tgt := 149) (by decide) dX9_goes_88 ?_
  obtain rfl := nq_sE1 h; exact nq_vret hX hr dX9_goes_149
def fX9_goes (x1 : Int32) (x2 : Int32) (x3 : Int32) (M : Mem) : Option (Mem) :=
  (nq_ag (M 6) 2 x1).bind fun v1 =>
  (fX9_wo x2 (0 : Int32) M).bind fun v3 =>
  if v3 = 1 then
  ((fX9_offers x1 x2 M).bind fun M6 =>
  some M6)
  else if v3 = 2 then
  (if (2 : Int32) ≤ v1 then
  (fX9_goes_L82 x1 x2 M)
  else
  ((fX9_isAnswer x2 x3 M).bind fun v11 =>
  if v11 = 0 then
  (fX9_goes_L82 x1 x2 M)
  else
  ((nq_as M 6 2 x1 (2 : Int32)).bind fun M13 =>
  some M13)))
  else if v3 = 3 then
  (if v1 = (2 : Int32) then
  ((nq_as M 6 2 x1 (3 : Int32)).bind fun M15 =>
  some M15)
  else
  ((nq_as M 6 2 x1 v1).bind fun M16 =>
  some M16))
  else if v3 = 4 then
  (if v1 = (1 : Int32) then
  ((nq_as M 6 2 x1 (0 : Int32)).bind fun M18 =>
  some M18)
  else
  (if v1 = (2 : Int32) then
  ((nq_as M 6 2 x1 (0 : Int32)).bind fun M20 =>
  some M20)
  else
  ((nq_as M 6 2 x1 v1).bind fun M21 =>
  some M21)))
  else if v3 = 5 then
  ((nq_as M 6 2 x1 (3 : Int32)).bind fun M22 =>
  some M22)
  else (some M)
set_option maxHeartbeats 4000000 in
theorem mX9_goes {X : Cx} {E : Ev} {l : Launch} {K : List Sh} {x1 : Int32} {x2 : Int32} {x3 : Int32} {M : Mem} {M' : Mem} (hL : nq_atModel E K) (hX : nq_OK X E l (nq_rm 4) cX9_goes 5 RX9 wsX9_goes) (hr : nq_RT X E none none K M') (h : fX9_goes x1 x2 x3 M = some M') : nq_G X E 5 0 [(0, .ref (nq_ad E 0)), (1, .int x1), (2, .int x2), (3, .int x3)] [] K M := by
  unfold fX9_goes at h
  refine nq_aload_n hX rfl 0 rfl dX9_goes_0 ?_
  refine nq_getr (v := .ref (nq_ad E 6)) hX inX9_goes_9 (nq_Model_0 hL) rfl 6 (by decide) lkX9_goes_25 _ rfl rfl dX9_goes_1 ?_
  refine nq_iload_n hX rfl 1 rfl dX9_goes_4 ?_
  obtain ⟨v1, e1, hi1, h⟩ := nq_agE h
  refine nq_iald hX (nq_Model_stanceNow hL) e1 hi1 dX9_goes_5 ?_
  refine nq_istore hX (lv' := [(4, .int v1), (0, .ref (nq_ad E 0)), (1, .int x1), (2, .int x2), (3, .int x3)]) (by decide) rfl rfl dX9_goes_6 ?_
  refine nq_aload_n hX rfl 1 rfl dX9_goes_8 ?_
  refine nq_iload_n hX rfl 3 rfl dX9_goes_9 ?_
  refine nq_iconst hX (v := 0) (by decide) dX9_goes_10 ?_
  obtain ⟨v3, hc2, h⟩ := nq_bE h
  refine nq_callVi hX (tX9_wo hL hc2) gX9_goes_X9_wo rfl rfl dsX9_wo (by decide) (nq_Model_0 hL) rfl rfl (Nat.le_of_ble_eq_true rfl) dX9_goes_11 ?_
  by_cases c4_1 : v3 = 1
  · rw [if_pos c4_1] at h; refine nq_tabI hX (tgt := 48) (off := 34) dX9_goes_14 (by rw [c4_1]; decide) (by rw [c4_1]; decide) (by rw [c4_1]; rfl) (by decide) ?_
    refine nq_aload_n hX rfl 1 rfl dX9_goes_48 ?_
    refine nq_iload_n hX rfl 2 rfl dX9_goes_49 ?_
    refine nq_iload_n hX rfl 3 rfl dX9_goes_50 ?_
    obtain ⟨M6, hc5, h⟩ := nq_bE h
    refine nq_callVv hX (tX9_offers hL hc5) gX9_goes_X9_offers rfl rfl dsX9_offers (by decide) (nq_Model_0 hL) rfl rfl (Nat.le_of_ble_eq_true rfl) dX9_goes_51 ?_
    refine nq_goto hX (tgt := 149) (by decide) dX9_goes_54 ?_
    obtain rfl := nq_sE1 h; exact nq_vret hX hr dX9_goes_149
  rw [if_neg c4_1] at h
  by_cases c4_2 : v3 = 2
  · rw [if_pos c4_2] at h; refine nq_tabI hX (tgt := 57) (off := 43) dX9_goes_14 (by rw [c4_2]; decide) (by rw [c4_2]; decide) (by rw [c4_2]; rfl) (by decide) ?_
    refine nq_iload hX 0 rfl dX9_goes_57 ?_
    refine nq_iconst hX (v := 2) (by decide) dX9_goes_59 ?_
    refine nq_icmp_ge hX (tgt := 82) (by decide) dX9_goes_60 (fun c7 => ?_) (fun c7 => ?_)
    · rw [if_pos c7] at h
      refine nq_sub (lv' := [(0, .ref (nq_ad E 0)), (1, .int x1), (2, .int x2)]) [1, 2, 3] rfl ?_
      exact mX9_goes_L82 hL hX hr h
    · rw [if_neg c7] at h
      refine nq_aload_n hX rfl 1 rfl dX9_goes_63 ?_
      refine nq_iload_n hX rfl 3 rfl dX9_goes_64 ?_
      refine nq_iload_n hX rfl 4 rfl dX9_goes_65 ?_
      obtain ⟨v11, hc10, h⟩ := nq_bE h
      refine nq_callVi hX (tX9_isAnswer hL hc10) gX9_goes_X9_isAnswer rfl rfl dsX9_isAnswer (by decide) (nq_Model_0 hL) rfl rfl (Nat.le_of_ble_eq_true rfl) dX9_goes_66 ?_
      refine nq_if_eq hX (tgt := 82) (by decide) dX9_goes_69 (fun c12 => ?_) (fun c12 => ?_)
      · rw [if_pos c12] at h
        refine nq_sub (lv' := [(0, .ref (nq_ad E 0)), (1, .int x1), (2, .int x2)]) [1, 2, 3] rfl ?_
        exact mX9_goes_L82 hL hX hr h
      · rw [if_neg c12] at h
        refine nq_aload_n hX rfl 1 rfl dX9_goes_72 ?_
        refine nq_getr (v := .ref (nq_ad E 6)) hX inX9_goes_9 (nq_Model_0 hL) rfl 6 (by decide) lkX9_goes_25 _ rfl rfl dX9_goes_73 ?_
        refine nq_iload_n hX rfl 2 rfl dX9_goes_76 ?_
        refine nq_iconst hX (v := 2) (by decide) dX9_goes_77 ?_
        obtain ⟨M13, e13, hi13, h⟩ := nq_asE h
        refine nq_iast hX (nq_Model_stanceNow hL) e13 hi13 dX9_goes_78 ?_
        refine nq_goto hX (tgt := 149) (by decide) dX9_goes_79 ?_
        obtain rfl := nq_sE1 h; exact nq_vret hX hr dX9_goes_149
  rw [if_neg c4_2] at h
  by_cases c4_3 : v3 = 3
  · rw [if_pos c4_3] at h; refine nq_tabI hX (tgt := 91) (off := 77) dX9_goes_14 (by rw [c4_3]; decide) (by rw [c4_3]; decide) (by rw [c4_3]; rfl) (by decide) ?_
    refine nq_aload_n hX rfl 1 rfl dX9_goes_91 ?_
    refine nq_getr (v := .ref (nq_ad E 6)) hX inX9_goes_9 (nq_Model_0 hL) rfl 6 (by decide) lkX9_goes_25 _ rfl rfl dX9_goes_92 ?_
    refine nq_iload_n hX rfl 2 rfl dX9_goes_95 ?_
    refine nq_iload hX 0 rfl dX9_goes_96 ?_
    refine nq_iconst hX (v := 2) (by decide) dX9_goes_98 ?_
    refine nq_icmp_ne hX (tgt := 106) (by decide) dX9_goes_99 (fun c14 => ?_) (fun c14 => ?_)
    · rw [if_pos c14] at h
      refine nq_iconst hX (v := 3) (by decide) dX9_goes_102 ?_
      refine nq_goto hX (tgt := 108) (by decide) dX9_goes_103 ?_
      obtain ⟨M15, e15, hi15, h⟩ := nq_asE h
      refine nq_iast hX (nq_Model_stanceNow hL) e15 hi15 dX9_goes_108 ?_
      refine nq_goto hX (tgt := 149) (by decide) dX9_goes_109 ?_
      obtain rfl := nq_sE1 h; exact nq_vret hX hr dX9_goes_149
    · rw [if_neg c14] at h
      refine nq_iload hX 0 rfl dX9_goes_106 ?_
      obtain ⟨M16, e16, hi16, h⟩ := nq_asE h
      refine nq_iast hX (nq_Model_stanceNow hL) e16 hi16 dX9_goes_108 ?_
      refine nq_goto hX (tgt := 149) (by decide) dX9_goes_109 ?_
      obtain rfl := nq_sE1 h; exact nq_vret hX hr dX9_goes_149
  rw [if_neg c4_3] at h
  by_cases c4_4 : v3 = 4
  · rw [if_pos c4_4] at h; refine nq_tabI hX (tgt := 112) (off := 98) dX9_goes_14 (by rw [c4_4]; decide) (by rw [c4_4]; decide) (by rw [c4_4]; rfl) (by decide) ?_
    refine nq_aload_n hX rfl 1 rfl dX9_goes_112 ?_
    refine nq_getr (v := .ref (nq_ad E 6)) hX inX9_goes_9 (nq_Model_0 hL) rfl 6 (by decide) lkX9_goes_25 _ rfl rfl dX9_goes_113 ?_
    refine nq_iload_n hX rfl 2 rfl dX9_goes_116 ?_
    refine nq_iload hX 0 rfl dX9_goes_117 ?_
    refine nq_iconst hX (v := 1) (by decide) dX9_goes_119 ?_
    refine nq_icmp_eq hX (tgt := 129) (by decide) dX9_goes_120 (fun c17 => ?_) (fun c17 => ?_)
    · rw [if_pos c17] at h
      refine nq_iconst hX (v := 0) (by decide) dX9_goes_129 ?_
      refine nq_goto hX (tgt := 135) (by decide) dX9_goes_130 ?_
      obtain ⟨M18, e18, hi18, h⟩ := nq_asE h
      refine nq_iast hX (nq_Model_stanceNow hL) e18 hi18 dX9_goes_135 ?_
      refine nq_goto hX (tgt := 149) (by decide) dX9_goes_136 ?_
      obtain rfl := nq_sE1 h; exact nq_vret hX hr dX9_goes_149
    · rw [if_neg c17] at h
      refine nq_iload hX 0 rfl dX9_goes_123 ?_
      refine nq_iconst hX (v := 2) (by decide) dX9_goes_125 ?_
      refine nq_icmp_ne hX (tgt := 133) (by decide) dX9_goes_126 (fun c19 => ?_) (fun c19 => ?_)
      · rw [if_pos c19] at h
        refine nq_iconst hX (v := 0) (by decide) dX9_goes_129 ?_
        refine nq_goto hX (tgt := 135) (by decide) dX9_goes_130 ?_
        obtain ⟨M20, e20, hi20, h⟩ := nq_asE h
        refine nq_iast hX (nq_Model_stanceNow hL) e20 hi20 dX9_goes_135 ?_
        refine nq_goto hX (tgt := 149) (by decide) dX9_goes_136 ?_
        obtain rfl := nq_sE1 h; exact nq_vret hX hr dX9_goes_149
      · rw [if_neg c19] at h
        refine nq_iload hX 0 rfl dX9_goes_133 ?_
        obtain ⟨M21, e21, hi21, h⟩ := nq_asE h
        refine nq_iast hX (nq_Model_stanceNow hL) e21 hi21 dX9_goes_135 ?_
        refine nq_goto hX (tgt := 149) (by decide) dX9_goes_136 ?_
        obtain rfl := nq_sE1 h; exact nq_vret hX hr dX9_goes_149
  rw [if_neg c4_4] at h
  by_cases c4_5 : v3 = 5
  · rw [if_pos c4_5] at h; refine nq_tabI hX (tgt := 139) (off := 125) dX9_goes_14 (by rw [c4_5]; decide) (by rw [c4_5]; decide) (by rw [c4_5]; rfl) (by decide) ?_
    refine nq_aload_n hX rfl 1 rfl dX9_goes_139 ?_
    refine nq_getr (v := .ref (nq_ad E 6)) hX inX9_goes_9 (nq_Model_0 hL) rfl 6 (by decide) lkX9_goes_25 _ rfl rfl dX9_goes_140 ?_
    refine nq_iload_n hX rfl 2 rfl dX9_goes_143 ?_
    refine nq_iconst hX (v := 3) (by decide) dX9_goes_144 ?_
    obtain ⟨M22, e22, hi22, h⟩ := nq_asE h
    refine nq_iast hX (nq_Model_stanceNow hL) e22 hi22 dX9_goes_145 ?_
    refine nq_goto hX (tgt := 149) (by decide) dX9_goes_146 ?_
    obtain rfl := nq_sE1 h; exact nq_vret hX hr dX9_goes_149
  rw [if_neg c4_5] at h
  refine nq_tabO hX (tgt := 149) dX9_goes_14 (by have := nq_tne (k := 1) (n := 1) (by decide) c4_1; have := nq_tne (k := 2) (n := 2) (by decide) c4_2; have := nq_tne (k := 3) (n := 3) (by decide) c4_3; have := nq_tne (k := 4) (n := 4) (by decide) c4_4; have := nq_tne (k := 5) (n := 5) (by decide) c4_5; omega) (by decide) ?_
  obtain rfl := nq_sE1 h; exact nq_vret hX hr dX9_goes_149
theorem dsX9_goes : yX9_goes.cls ≠ "java/lang/invoke/MethodHandle" ∧ yX9_goes.cls ≠ "java/lang/invoke/VarHandle" ∧ (parseMethodDescriptor yX9_goes.desc).map (fun d => d.parameters.length) = some 3 := by decide +kernel
theorem tX9_goes {l : Launch} {E : Ev} {K : List Sh} {x1 : Int32} {x2 : Int32} {x3 : Int32} {M : Mem} {M' : Mem} (hL : nq_atModel E K) (h : fX9_goes x1 x2 x3 M = some M') : nq_MA l E yX9_goes wsX9_goes (nq_rm 4) [.ref (nq_ad E 0), .int x1, .int x2, .int x3] K M none K M' :=
  nq_met (own := RX9) (cc := cX9_goes) (maxL := 5) (ret := none) (by decide) rfl rfl (Nat.le_of_ble_eq_true rfl) (fun X hX hr => mX9_goes hL hX hr h)

