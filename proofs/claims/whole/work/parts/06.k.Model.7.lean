/-! printed by dec.py: Model 7 -/
theorem inX9_takesOther_9 : ∀ w ∈ u_ws RX9 TX9 23, w ∈ wsX9_takesOther := by
  intro w h; unfold wsX9_takesOther; simp only [List.mem_cons, List.mem_append]; simp only [h, true_or, or_true]
theorem lkX9_takesOther_35 : Cond.fieldLink RX9 35 (TX9 15).1 (TX9 15).2.1 (TX9 15).2.2.1 ∈ wsX9_takesOther := by decide +kernel
def fX9_takesOther (x1 : Int32) (x2 : Int32) (x3 : Int32) (x4 : Int32) (x5 : Int32) (M : Mem) : Option (Int32 × Mem) :=
  (nq_as M 9 5 (0 : Int32) x2).bind fun M1 =>
  (nq_as M1 9 5 (1 : Int32) x3).bind fun M2 =>
  (nq_as M2 9 5 (2 : Int32) x4).bind fun M3 =>
  (nq_dv x5 (10 : Int32)).bind fun v4 =>
  (nq_as M3 9 5 (3 : Int32) v4).bind fun M5 =>
  (nq_rem x5 (10 : Int32)).bind fun v6 =>
  (nq_as M5 9 5 (4 : Int32) v6).bind fun M7 =>
  nq_b2 (fX9_gives ((6 : Int32) + x1) M7) fun v9 M10 =>
  if v9 = 0 then
  (some ((0 : Int32), M10))
  else
  (some ((1 : Int32), M10))
set_option maxHeartbeats 4000000 in
theorem mX9_takesOther {X : Cx} {E : Ev} {l : Launch} {K : List Sh} {x1 : Int32} {x2 : Int32} {x3 : Int32} {x4 : Int32} {x5 : Int32} {M : Mem} {r : Int32} {M' : Mem} (hL : nq_atModel E K) (hX : nq_OK X E l (nq_rm 105) cX9_takesOther 6 RX9 wsX9_takesOther) (hr : nq_RT X E (some .boolean) (some (.int r)) K M') (h : fX9_takesOther x1 x2 x3 x4 x5 M = some (r, M')) : nq_G X E 6 0 [(0, .ref (nq_ad E 0)), (1, .int x1), (2, .int x2), (3, .int x3), (4, .int x4), (5, .int x5)] [] K M := by
  unfold fX9_takesOther at h
  refine nq_aload_n hX rfl 0 rfl dX9_takesOther_0 ?_
  refine nq_getr (v := .ref (nq_ad E 9)) hX inX9_takesOther_9 (nq_Model_0 hL) rfl 15 (by decide) lkX9_takesOther_35 _ rfl rfl dX9_takesOther_1 ?_
  refine nq_iconst hX (v := 0) (by decide) dX9_takesOther_4 ?_
  refine nq_iload_n hX rfl 2 rfl dX9_takesOther_5 ?_
  obtain ⟨M1, e1, hi1, h⟩ := nq_asE h
  refine nq_iast hX (nq_Model_names hL) e1 hi1 dX9_takesOther_6 ?_
  refine nq_aload_n hX rfl 0 rfl dX9_takesOther_7 ?_
  refine nq_getr (v := .ref (nq_ad E 9)) hX inX9_takesOther_9 (nq_Model_0 hL) rfl 15 (by decide) lkX9_takesOther_35 _ rfl rfl dX9_takesOther_8 ?_
  refine nq_iconst hX (v := 1) (by decide) dX9_takesOther_11 ?_
  refine nq_iload_n hX rfl 3 rfl dX9_takesOther_12 ?_
  obtain ⟨M2, e2, hi2, h⟩ := nq_asE h
  refine nq_iast hX (nq_Model_names hL) e2 hi2 dX9_takesOther_13 ?_
  refine nq_aload_n hX rfl 0 rfl dX9_takesOther_14 ?_
  refine nq_getr (v := .ref (nq_ad E 9)) hX inX9_takesOther_9 (nq_Model_0 hL) rfl 15 (by decide) lkX9_takesOther_35 _ rfl rfl dX9_takesOther_15 ?_
  refine nq_iconst hX (v := 2) (by decide) dX9_takesOther_18 ?_
  refine nq_iload hX 4 rfl dX9_takesOther_19 ?_
  obtain ⟨M3, e3, hi3, h⟩ := nq_asE h
  refine nq_iast hX (nq_Model_names hL) e3 hi3 dX9_takesOther_21 ?_
  refine nq_aload_n hX rfl 0 rfl dX9_takesOther_22 ?_
  refine nq_getr (v := .ref (nq_ad E 9)) hX inX9_takesOther_9 (nq_Model_0 hL) rfl 15 (by decide) lkX9_takesOther_35 _ rfl rfl dX9_takesOther_23 ?_
  refine nq_iconst hX (v := 3) (by decide) dX9_takesOther_26 ?_
  refine nq_iload hX 5 rfl dX9_takesOther_27 ?_
  refine nq_bipush hX (v := 10) (by decide) dX9_takesOther_29 ?_
  obtain ⟨v4, e4, hn4, h⟩ := nq_ifE h
  refine nq_idiv hX hn4 e4 dX9_takesOther_31 ?_
  obtain ⟨M5, e5, hi5, h⟩ := nq_asE h
  refine nq_iast hX (nq_Model_names hL) e5 hi5 dX9_takesOther_32 ?_
  refine nq_aload_n hX rfl 0 rfl dX9_takesOther_33 ?_
  refine nq_getr (v := .ref (nq_ad E 9)) hX inX9_takesOther_9 (nq_Model_0 hL) rfl 15 (by decide) lkX9_takesOther_35 _ rfl rfl dX9_takesOther_34 ?_
  refine nq_iconst hX (v := 4) (by decide) dX9_takesOther_37 ?_
  refine nq_iload hX 5 rfl dX9_takesOther_38 ?_
  refine nq_bipush hX (v := 10) (by decide) dX9_takesOther_40 ?_
  obtain ⟨v6, e6, hn6, h⟩ := nq_ifE h
  refine nq_irem hX hn6 e6 dX9_takesOther_42 ?_
  obtain ⟨M7, e7, hi7, h⟩ := nq_asE h
  refine nq_iast hX (nq_Model_names hL) e7 hi7 dX9_takesOther_43 ?_
  refine nq_aload_n hX rfl 0 rfl dX9_takesOther_44 ?_
  refine nq_bipush hX (v := 6) (by decide) dX9_takesOther_45 ?_
  refine nq_iload_n hX rfl 1 rfl dX9_takesOther_47 ?_
  refine nq_iadd hX dX9_takesOther_48 ?_
  obtain ⟨v9, M10, hc8, h⟩ := nq_b2E h
  refine nq_callVi hX (tX9_gives hL hc8) gX9_takesOther_X9_gives rfl rfl dsX9_gives (by decide) (nq_Model_0 hL) rfl rfl (Nat.le_of_ble_eq_true rfl) dX9_takesOther_49 ?_
  refine nq_if_eq hX (tgt := 59) (by decide) dX9_takesOther_52 (fun c11 => ?_) (fun c11 => ?_)
  · rw [if_pos c11] at h
    refine nq_iconst hX (v := 0) (by decide) dX9_takesOther_59 ?_
    obtain ⟨rfl, rfl⟩ := nq_sE2 h; exact nq_zret hX hr rfl dX9_takesOther_60
  · rw [if_neg c11] at h
    refine nq_iconst hX (v := 1) (by decide) dX9_takesOther_55 ?_
    refine nq_goto hX (tgt := 60) (by decide) dX9_takesOther_56 ?_
    obtain ⟨rfl, rfl⟩ := nq_sE2 h; exact nq_zret hX hr rfl dX9_takesOther_60
theorem dsX9_takesOther : yX9_takesOther.cls ≠ "java/lang/invoke/MethodHandle" ∧ yX9_takesOther.cls ≠ "java/lang/invoke/VarHandle" ∧ (parseMethodDescriptor yX9_takesOther.desc).map (fun d => d.parameters.length) = some 5 := by decide +kernel
theorem tX9_takesOther {l : Launch} {E : Ev} {K : List Sh} {x1 : Int32} {x2 : Int32} {x3 : Int32} {x4 : Int32} {x5 : Int32} {M : Mem} {r : Int32} {M' : Mem} (hL : nq_atModel E K) (h : fX9_takesOther x1 x2 x3 x4 x5 M = some (r, M')) : nq_MA l E yX9_takesOther wsX9_takesOther (nq_rm 105) [.ref (nq_ad E 0), .int x1, .int x2, .int x3, .int x4, .int x5] K M (some (.int r)) K M' :=
  nq_met (own := RX9) (cc := cX9_takesOther) (maxL := 6) (ret := (some .boolean)) (by decide) rfl rfl (Nat.le_of_ble_eq_true rfl) (fun X hX hr => mX9_takesOther hL hX hr h)

def fX9_areOfTwo_L71 (x1 : Int32) (x3 : Int32) (x4 : Int32) (x5 : Int32) (x6 : Int32) (x7 : Int32) (s0 : Int32) (M : Mem) : Option (Int32 × Mem) :=
  nq_b2 (fX9_takesOther x1 x6 x5 x7 (((10 : Int32) * x4) + x3) M) fun v15 M16 =>
  if v15 = 0 then
  (if s0 = x6 then
  (some ((0 : Int32), M16))
  else
  (some ((1 : Int32), M16)))
  else
  (if s0 = x5 then
  (some ((0 : Int32), M16))
  else
  (some ((1 : Int32), M16)))
set_option maxHeartbeats 4000000 in
theorem mX9_areOfTwo_L71 {X : Cx} {E : Ev} {l : Launch} {K : List Sh} {x1 : Int32} {x3 : Int32} {x4 : Int32} {x5 : Int32} {x6 : Int32} {x7 : Int32} {s0 : Int32} {M : Mem} {r : Int32} {M' : Mem} (hL : nq_atModel E K) (hX : nq_OK X E l (nq_rm 106) cX9_areOfTwo 10 RX9 wsX9_areOfTwo) (hr : nq_RT X E (some .boolean) (some (.int r)) K M') (h : fX9_areOfTwo_L71 x1 x3 x4 x5 x6 x7 s0 M = some (r, M')) : nq_G X E 10 71 [(0, .ref (nq_ad E 0)), (1, .int x1), (3, .int x3), (4, .int x4), (5, .int x5), (6, .int x6), (7, .int x7)] [.int s0] K M := by
  unfold fX9_areOfTwo_L71 at h
  refine nq_istore hX (lv' := [(8, .int s0), (0, .ref (nq_ad E 0)), (1, .int x1), (3, .int x3), (4, .int x4), (5, .int x5), (6, .int x6), (7, .int x7)]) (by decide) rfl rfl dX9_areOfTwo_71 ?_
  refine nq_aload_n hX rfl 1 rfl dX9_areOfTwo_73 ?_
  refine nq_iload_n hX rfl 2 rfl dX9_areOfTwo_74 ?_
  refine nq_iload hX 6 rfl dX9_areOfTwo_75 ?_
  refine nq_iload hX 5 rfl dX9_areOfTwo_77 ?_
  refine nq_iload hX 7 rfl dX9_areOfTwo_79 ?_
  refine nq_bipush hX (v := 10) (by decide) dX9_areOfTwo_81 ?_
  refine nq_iload hX 4 rfl dX9_areOfTwo_83 ?_
  refine nq_imul hX dX9_areOfTwo_85 ?_
  refine nq_iload_n hX rfl 3 rfl dX9_areOfTwo_86 ?_
  refine nq_iadd hX dX9_areOfTwo_87 ?_
  obtain ⟨v15, M16, hc14, h⟩ := nq_b2E h
  refine nq_callVi hX (tX9_takesOther hL hc14) gX9_areOfTwo_X9_takesOther rfl rfl dsX9_takesOther (by decide) (nq_Model_0 hL) rfl rfl (Nat.le_of_ble_eq_true rfl) dX9_areOfTwo_88 ?_
  refine nq_if_eq hX (tgt := 99) (by decide) dX9_areOfTwo_91 (fun c17 => ?_) (fun c17 => ?_)
  · rw [if_pos c17] at h
    refine nq_iload hX 6 rfl dX9_areOfTwo_99 ?_
    refine nq_istore hX (lv' := [(9, .int x6), (8, .int s0), (0, .ref (nq_ad E 0)), (1, .int x1), (3, .int x3), (4, .int x4), (5, .int x5), (6, .int x6), (7, .int x7)]) (by decide) rfl rfl dX9_areOfTwo_101 ?_
    refine nq_iload hX 1 rfl dX9_areOfTwo_103 ?_
    refine nq_iload hX 0 rfl dX9_areOfTwo_105 ?_
    refine nq_icmp_eq hX (tgt := 114) (by decide) dX9_areOfTwo_107 (fun c18 => ?_) (fun c18 => ?_)
    · rw [if_pos c18] at h
      refine nq_iconst hX (v := 0) (by decide) dX9_areOfTwo_114 ?_
      obtain ⟨rfl, rfl⟩ := nq_sE2 h; exact nq_zret hX hr rfl dX9_areOfTwo_115
    · rw [if_neg c18] at h
      refine nq_iconst hX (v := 1) (by decide) dX9_areOfTwo_110 ?_
      refine nq_goto hX (tgt := 115) (by decide) dX9_areOfTwo_111 ?_
      obtain ⟨rfl, rfl⟩ := nq_sE2 h; exact nq_zret hX hr rfl dX9_areOfTwo_115
  · rw [if_neg c17] at h
    refine nq_iload hX 5 rfl dX9_areOfTwo_94 ?_
    refine nq_goto hX (tgt := 101) (by decide) dX9_areOfTwo_96 ?_
    refine nq_istore hX (lv' := [(9, .int x5), (8, .int s0), (0, .ref (nq_ad E 0)), (1, .int x1), (3, .int x3), (4, .int x4), (5, .int x5), (6, .int x6), (7, .int x7)]) (by decide) rfl rfl dX9_areOfTwo_101 ?_
    refine nq_iload hX 1 rfl dX9_areOfTwo_103 ?_
    refine nq_iload hX 0 rfl dX9_areOfTwo_105 ?_
    refine nq_icmp_eq hX (tgt := 114) (by decide) dX9_areOfTwo_107 (fun c19 => ?_) (fun c19 => ?_)
    · rw [if_pos c19] at h
      refine nq_iconst hX (v := 0) (by decide) dX9_areOfTwo_114 ?_
      obtain ⟨rfl, rfl⟩ := nq_sE2 h; exact nq_zret hX hr rfl dX9_areOfTwo_115
    · rw [if_neg c19] at h
      refine nq_iconst hX (v := 1) (by decide) dX9_areOfTwo_110 ?_
      refine nq_goto hX (tgt := 115) (by decide) dX9_areOfTwo_111 ?_
      obtain ⟨rfl, rfl⟩ := nq_sE2 h; exact nq_zret hX hr rfl dX9_areOfTwo_115
def fX9_areOfTwo (x1 : Int32) (x2 : Int32) (M : Mem) : Option (Int32 × Mem) :=
  (nq_dv x2 (10000 : Int32)).bind fun v1 =>
  (nq_dv x2 (1000 : Int32)).bind fun v2 =>
  (nq_rem v2 (10 : Int32)).bind fun v3 =>
  (nq_dv x2 (100 : Int32)).bind fun v4 =>
  (nq_rem v4 (10 : Int32)).bind fun v5 =>
  (nq_dv x2 (10 : Int32)).bind fun v6 =>
  (nq_rem v6 (10 : Int32)).bind fun v7 =>
  (nq_rem x2 (10 : Int32)).bind fun v8 =>
  nq_lt ((v8 - (2 : Int32))) fun v9 =>
  nq_b2 (fX9_takesOther x1 v5 v7 (-v9) (((10 : Int32) * v1) + v3) M) fun v11 M12 =>
  if v11 = 0 then
  (fX9_areOfTwo_L71 x1 v1 v3 v5 v7 v9 v5 M12)
  else
  (fX9_areOfTwo_L71 x1 v1 v3 v5 v7 v9 v7 M12)
set_option maxHeartbeats 4000000 in
theorem mX9_areOfTwo {X : Cx} {E : Ev} {l : Launch} {K : List Sh} {x1 : Int32} {x2 : Int32} {M : Mem} {r : Int32} {M' : Mem} (hL : nq_atModel E K) (hX : nq_OK X E l (nq_rm 106) cX9_areOfTwo 10 RX9 wsX9_areOfTwo) (hr : nq_RT X E (some .boolean) (some (.int r)) K M') (h : fX9_areOfTwo x1 x2 M = some (r, M')) : nq_G X E 10 0 [(0, .ref (nq_ad E 0)), (1, .int x1), (2, .int x2)] [] K M := by
  unfold fX9_areOfTwo at h
  refine nq_iload_n hX rfl 2 rfl dX9_areOfTwo_0 ?_
  refine nq_sipush hX (v := 10000) (by decide) dX9_areOfTwo_1 ?_
  obtain ⟨v1, e1, hn1, h⟩ := nq_ifE h
  refine nq_idiv hX hn1 e1 dX9_areOfTwo_4 ?_
  refine nq_istore_n hX (lv' := [(3, .int v1), (0, .ref (nq_ad E 0)), (1, .int x1), (2, .int x2)]) rfl (by decide) rfl rfl dX9_areOfTwo_5 ?_
  refine nq_iload_n hX rfl 3 rfl dX9_areOfTwo_6 ?_
  refine nq_sipush hX (v := 1000) (by decide) dX9_areOfTwo_7 ?_
  obtain ⟨v2, e2, hn2, h⟩ := nq_ifE h
  refine nq_idiv hX hn2 e2 dX9_areOfTwo_10 ?_
  refine nq_bipush hX (v := 10) (by decide) dX9_areOfTwo_11 ?_
  obtain ⟨v3, e3, hn3, h⟩ := nq_ifE h
  refine nq_irem hX hn3 e3 dX9_areOfTwo_13 ?_
  refine nq_istore hX (lv' := [(4, .int v3), (3, .int v1), (0, .ref (nq_ad E 0)), (1, .int x1), (2, .int x2)]) (by decide) rfl rfl dX9_areOfTwo_14 ?_
  refine nq_iload_n hX rfl 4 rfl dX9_areOfTwo_16 ?_
  refine nq_bipush hX (v := 100) (by decide) dX9_areOfTwo_17 ?_
  obtain ⟨v4, e4, hn4, h⟩ := nq_ifE h
  refine nq_idiv hX hn4 e4 dX9_areOfTwo_19 ?_
  refine nq_bipush hX (v := 10) (by decide) dX9_areOfTwo_20 ?_
  obtain ⟨v5, e5, hn5, h⟩ := nq_ifE h
  refine nq_irem hX hn5 e5 dX9_areOfTwo_22 ?_
  refine nq_istore hX (lv' := [(5, .int v5), (4, .int v3), (3, .int v1), (0, .ref (nq_ad E 0)), (1, .int x1), (2, .int x2)]) (by decide) rfl rfl dX9_areOfTwo_23 ?_
  refine nq_iload_n hX rfl 5 rfl dX9_areOfTwo_25 ?_
  refine nq_bipush hX (v := 10) (by decide) dX9_areOfTwo_26 ?_
  obtain ⟨v6, e6, hn6, h⟩ := nq_ifE h
  refine nq_idiv hX hn6 e6 dX9_areOfTwo_28 ?_
  refine nq_bipush hX (v := 10) (by decide) dX9_areOfTwo_29 ?_
  obtain ⟨v7, e7, hn7, h⟩ := nq_ifE h
  refine nq_irem hX hn7 e7 dX9_areOfTwo_31 ?_
  refine nq_istore hX (lv' := [(6, .int v7), (5, .int v5), (4, .int v3), (3, .int v1), (0, .ref (nq_ad E 0)), (1, .int x1), (2, .int x2)]) (by decide) rfl rfl dX9_areOfTwo_32 ?_
  refine nq_iload_n hX rfl 6 rfl dX9_areOfTwo_34 ?_
  refine nq_bipush hX (v := 10) (by decide) dX9_areOfTwo_35 ?_
  obtain ⟨v8, e8, hn8, h⟩ := nq_ifE h
  refine nq_irem hX hn8 e8 dX9_areOfTwo_37 ?_
  refine nq_iconst hX (v := 2) (by decide) dX9_areOfTwo_38 ?_
  refine nq_isub hX dX9_areOfTwo_39 ?_
  obtain ⟨v9, e9, h⟩ := nq_ltE h
  refine nq_istore hX (lv' := [(7, .int v9), (6, .int v7), (5, .int v5), (4, .int v3), (3, .int v1), (0, .ref (nq_ad E 0)), (1, .int x1), (2, .int x2)]) (by decide) e9 rfl dX9_areOfTwo_40 ?_
  refine nq_aload_n hX rfl 5 rfl dX9_areOfTwo_42 ?_
  refine nq_iload_n hX rfl 6 rfl dX9_areOfTwo_43 ?_
  refine nq_iload hX 2 rfl dX9_areOfTwo_44 ?_
  refine nq_iload hX 1 rfl dX9_areOfTwo_46 ?_
  refine nq_iload hX 0 rfl dX9_areOfTwo_48 ?_
  refine nq_ineg hX dX9_areOfTwo_50 ?_
  refine nq_bipush hX (v := 10) (by decide) dX9_areOfTwo_51 ?_
  refine nq_iload_n hX rfl 4 rfl dX9_areOfTwo_53 ?_
  refine nq_imul hX dX9_areOfTwo_54 ?_
  refine nq_iload hX 3 rfl dX9_areOfTwo_55 ?_
  refine nq_iadd hX dX9_areOfTwo_57 ?_
  obtain ⟨v11, M12, hc10, h⟩ := nq_b2E h
  refine nq_callVi hX (tX9_takesOther hL hc10) gX9_areOfTwo_X9_takesOther rfl rfl dsX9_takesOther (by decide) (nq_Model_0 hL) rfl rfl (Nat.le_of_ble_eq_true rfl) dX9_areOfTwo_58 ?_
  refine nq_if_eq hX (tgt := 69) (by decide) dX9_areOfTwo_61 (fun c13 => ?_) (fun c13 => ?_)
  · rw [if_pos c13] at h
    refine nq_iload hX 2 rfl dX9_areOfTwo_69 ?_
    refine nq_sub (lv' := [(0, .ref (nq_ad E 0)), (1, .int x1), (3, .int v1), (4, .int v3), (5, .int v5), (6, .int v7), (7, .int v9)]) [5, 6, 4, 3, 2, 1, 0] rfl ?_
    exact mX9_areOfTwo_L71 hL hX hr h
  · rw [if_neg c13] at h
    refine nq_iload hX 1 rfl dX9_areOfTwo_64 ?_
    refine nq_goto hX (tgt := 71) (by decide) dX9_areOfTwo_66 ?_
    refine nq_sub (lv' := [(0, .ref (nq_ad E 0)), (1, .int x1), (3, .int v1), (4, .int v3), (5, .int v5), (6, .int v7), (7, .int v9)]) [5, 6, 4, 3, 2, 1, 0] rfl ?_
    exact mX9_areOfTwo_L71 hL hX hr h
theorem dsX9_areOfTwo : yX9_areOfTwo.cls ≠ "java/lang/invoke/MethodHandle" ∧ yX9_areOfTwo.cls ≠ "java/lang/invoke/VarHandle" ∧ (parseMethodDescriptor yX9_areOfTwo.desc).map (fun d => d.parameters.length) = some 2 := by decide +kernel
theorem tX9_areOfTwo {l : Launch} {E : Ev} {K : List Sh} {x1 : Int32} {x2 : Int32} {M : Mem} {r : Int32} {M' : Mem} (hL : nq_atModel E K) (h : fX9_areOfTwo x1 x2 M = some (r, M')) : nq_MA l E yX9_areOfTwo wsX9_areOfTwo (nq_rm 106) [.ref (nq_ad E 0), .int x1, .int x2] K M (some (.int r)) K M' :=
  nq_met (own := RX9) (cc := cX9_areOfTwo) (maxL := 10) (ret := (some .boolean)) (by decide) rfl rfl (Nat.le_of_ble_eq_true rfl) (fun X hX hr => mX9_areOfTwo hL hX hr h)

def fX9_minds_B106_34_44 (x1 : Int32) (x2 : Int32) (x3 : Int32) (x4 : Int32) (x5 : Int32) (x6 : Int32) (x7 : Int32) (x8 : Int32) (M : Mem) : Option ((Int32 × Int32 × Int32 × Mem) ⊕ (Int32 × Int32 × Mem)) :=
  if (5 : Int32) ≤ x8 then
  (some (.inr (x3, x4, M)))
  else
  (if x7 = 0 then
  (some (.inr (x3, x4, M)))
  else
  (nq_lt (((((1000 : Int32) * x5) + ((10 : Int32) * x6)) + x8)) fun v20 =>
  nq_b2 (fX9_areOfTwo x1 v20 M) fun v22 M23 =>
  if v22 = 0 then
  (nq_lt (x8 + (1 : Int32)) fun v25 =>
  some (.inl (x3, x4, v25, M23)))
  else
  (nq_lt (x3 + (1 : Int32)) fun v26 =>
  if 0 ≤ x4 then
  (nq_lt (x8 + (1 : Int32)) fun v28 =>
  some (.inl (v26, x4, v28, M23)))
  else
  (nq_lt (x8 + (1 : Int32)) fun v29 =>
  some (.inl (v26, v20, v29, M23))))))
set_option maxHeartbeats 4000000 in
theorem mX9_minds_B106_34_44 {X : Cx} {E : Ev} {l : Launch} {K : List Sh} {x1 : Int32} {x2 : Int32} {x3 : Int32} {x4 : Int32} {x5 : Int32} {x6 : Int32} {x7 : Int32} {x8 : Int32} {M : Mem} (hL : nq_atModel E K) (hX : nq_OK X E l (nq_rm 107) cX9_minds 10 RX9 wsX9_minds) {x : (Int32 × Int32 × Int32 × Mem) ⊕ (Int32 × Int32 × Mem)} (hc : ∀ s' : Int32 × Int32 × Int32 × Mem, x = .inl s' → nq_G X E 10 106 [(0, .ref (nq_ad E 0)), (1, .int x1), (2, .int x2), (3, .int s'.1), (4, .int s'.2.1), (5, .int x5), (6, .int x6), (7, .int x7), (8, .int s'.2.2.1)] [] K s'.2.2.2) (he : ∀ s' : Int32 × Int32 × Mem, x = .inr s' → nq_G X E 10 167 [(0, .ref (nq_ad E 0)), (1, .int x1), (2, .int x2), (3, .int s'.1), (4, .int s'.2.1), (5, .int x5), (6, .int x6)] [] K s'.2.2) (h : fX9_minds_B106_34_44 x1 x2 x3 x4 x5 x6 x7 x8 M = some x) : nq_G X E 10 106 [(0, .ref (nq_ad E 0)), (1, .int x1), (2, .int x2), (3, .int x3), (4, .int x4), (5, .int x5), (6, .int x6), (7, .int x7), (8, .int x8)] [] K M := by
  unfold fX9_minds_B106_34_44 at h
  refine nq_iload hX 8 rfl dX9_minds_106 ?_
  refine nq_iconst hX (v := 5) (by decide) dX9_minds_108 ?_
  refine nq_icmp_ge hX (tgt := 167) (by decide) dX9_minds_109 (fun c18 => ?_) (fun c18 => ?_)
  · rw [if_pos c18] at h
    refine nq_sub (lv' := [(0, .ref (nq_ad E 0)), (1, .int x1), (2, .int x2), (3, .int x3), (4, .int x4), (5, .int x5), (6, .int x6)]) [0, 1, 2, 3, 4, 5, 6] rfl ?_
    exact he (x3, x4, M) (nq_sE h).symm
  · rw [if_neg c18] at h
    refine nq_iload hX 7 rfl dX9_minds_112 ?_
    refine nq_if_eq hX (tgt := 167) (by decide) dX9_minds_114 (fun c19 => ?_) (fun c19 => ?_)
    · rw [if_pos c19] at h
      refine nq_sub (lv' := [(0, .ref (nq_ad E 0)), (1, .int x1), (2, .int x2), (3, .int x3), (4, .int x4), (5, .int x5), (6, .int x6)]) [0, 1, 2, 3, 4, 5, 6] rfl ?_
      exact he (x3, x4, M) (nq_sE h).symm
    · rw [if_neg c19] at h
      refine nq_sipush hX (v := 1000) (by decide) dX9_minds_117 ?_
      refine nq_iload hX 5 rfl dX9_minds_120 ?_
      refine nq_imul hX dX9_minds_122 ?_
      refine nq_bipush hX (v := 10) (by decide) dX9_minds_123 ?_
      refine nq_iload hX 6 rfl dX9_minds_125 ?_
      refine nq_imul hX dX9_minds_127 ?_
      refine nq_iadd hX dX9_minds_128 ?_
      refine nq_iload hX 8 rfl dX9_minds_129 ?_
      refine nq_iadd hX dX9_minds_131 ?_
      obtain ⟨v20, e20, h⟩ := nq_ltE h
      refine nq_istore hX (lv' := [(9, .int v20), (0, .ref (nq_ad E 0)), (1, .int x1), (2, .int x2), (3, .int x3), (4, .int x4), (5, .int x5), (6, .int x6), (7, .int x7), (8, .int x8)]) (by decide) e20 rfl dX9_minds_132 ?_
      refine nq_aload_n hX rfl 1 rfl dX9_minds_134 ?_
      refine nq_iload_n hX rfl 2 rfl dX9_minds_135 ?_
      refine nq_iload hX 0 rfl dX9_minds_136 ?_
      obtain ⟨v22, M23, hc21, h⟩ := nq_b2E h
      refine nq_callVi hX (tX9_areOfTwo hL hc21) gX9_minds_X9_areOfTwo rfl rfl dsX9_areOfTwo (by decide) (nq_Model_0 hL) rfl rfl (Nat.le_of_ble_eq_true rfl) dX9_minds_138 ?_
      refine nq_if_eq hX (tgt := 161) (by decide) dX9_minds_141 (fun c24 => ?_) (fun c24 => ?_)
      · rw [if_pos c24] at h
        obtain ⟨v25, e25, h⟩ := nq_ltE h
        refine nq_iinc hX (lv' := [(8, .int v25), (9, .int v20), (0, .ref (nq_ad E 0)), (1, .int x1), (2, .int x2), (3, .int x3), (4, .int x4), (5, .int x5), (6, .int x6), (7, .int x7)]) (j := 9) rfl (e25.trans rfl) (by decide) rfl dX9_minds_161 ?_
        refine nq_goto hX (tgt := 106) (by decide) dX9_minds_164 ?_
        refine nq_sub (lv' := [(0, .ref (nq_ad E 0)), (1, .int x1), (2, .int x2), (3, .int x3), (4, .int x4), (5, .int x5), (6, .int x6), (7, .int x7), (8, .int v25)]) [2, 3, 4, 5, 6, 7, 8, 9, 0] rfl ?_
        exact hc (x3, x4, v25, M23) (nq_sE h).symm
      · rw [if_neg c24] at h
        obtain ⟨v26, e26, h⟩ := nq_ltE h
        refine nq_iinc hX (lv' := [(3, .int v26), (9, .int v20), (0, .ref (nq_ad E 0)), (1, .int x1), (2, .int x2), (4, .int x4), (5, .int x5), (6, .int x6), (7, .int x7), (8, .int x8)]) (j := 4) rfl (e26.trans rfl) (by decide) rfl dX9_minds_144 ?_
        refine nq_iload hX 5 rfl dX9_minds_147 ?_
        refine nq_if_ge hX (tgt := 157) (by decide) dX9_minds_149 (fun c27 => ?_) (fun c27 => ?_)
        · rw [if_pos c27] at h
          refine nq_iload hX 5 rfl dX9_minds_157 ?_
          refine nq_istore hX (lv' := [(4, .int x4), (3, .int v26), (9, .int v20), (0, .ref (nq_ad E 0)), (1, .int x1), (2, .int x2), (5, .int x5), (6, .int x6), (7, .int x7), (8, .int x8)]) (by decide) rfl rfl dX9_minds_159 ?_
          obtain ⟨v28, e28, h⟩ := nq_ltE h
          refine nq_iinc hX (lv' := [(8, .int v28), (4, .int x4), (3, .int v26), (9, .int v20), (0, .ref (nq_ad E 0)), (1, .int x1), (2, .int x2), (5, .int x5), (6, .int x6), (7, .int x7)]) (j := 9) rfl (e28.trans rfl) (by decide) rfl dX9_minds_161 ?_
          refine nq_goto hX (tgt := 106) (by decide) dX9_minds_164 ?_
          refine nq_sub (lv' := [(0, .ref (nq_ad E 0)), (1, .int x1), (2, .int x2), (3, .int v26), (4, .int x4), (5, .int x5), (6, .int x6), (7, .int x7), (8, .int v28)]) [4, 5, 6, 2, 1, 7, 8, 9, 0] rfl ?_
          exact hc (v26, x4, v28, M23) (nq_sE h).symm
        · rw [if_neg c27] at h
          refine nq_iload hX 1 rfl dX9_minds_152 ?_
          refine nq_goto hX (tgt := 159) (by decide) dX9_minds_154 ?_
          refine nq_istore hX (lv' := [(4, .int v20), (3, .int v26), (9, .int v20), (0, .ref (nq_ad E 0)), (1, .int x1), (2, .int x2), (5, .int x5), (6, .int x6), (7, .int x7), (8, .int x8)]) (by decide) rfl rfl dX9_minds_159 ?_
          obtain ⟨v29, e29, h⟩ := nq_ltE h
          refine nq_iinc hX (lv' := [(8, .int v29), (4, .int v20), (3, .int v26), (9, .int v20), (0, .ref (nq_ad E 0)), (1, .int x1), (2, .int x2), (5, .int x5), (6, .int x6), (7, .int x7)]) (j := 9) rfl (e29.trans rfl) (by decide) rfl dX9_minds_161 ?_
          refine nq_goto hX (tgt := 106) (by decide) dX9_minds_164 ?_
          refine nq_sub (lv' := [(0, .ref (nq_ad E 0)), (1, .int x1), (2, .int x2), (3, .int v26), (4, .int v20), (5, .int x5), (6, .int x6), (7, .int x7), (8, .int v29)]) [4, 5, 6, 2, 1, 7, 8, 9, 0] rfl ?_
          exact hc (v26, v20, v29, M23) (nq_sE h).symm
def fX9_minds_L167_34_44 (x1 : Int32) (x2 : Int32) (x3 : Int32) (x4 : Int32) (x5 : Int32) (x6 : Int32) (M : Mem) : Option ((Int32 × Int32 × Int32 × Mem) ⊕ (Int32 × Int32 × Mem)) :=
  nq_lt (x6 + (1 : Int32)) fun v30 =>
  some (.inl (x3, x4, v30, M))
set_option maxHeartbeats 4000000 in
theorem mX9_minds_L167_34_44 {X : Cx} {E : Ev} {l : Launch} {K : List Sh} {x1 : Int32} {x2 : Int32} {x3 : Int32} {x4 : Int32} {x5 : Int32} {x6 : Int32} {M : Mem} (hL : nq_atModel E K) (hX : nq_OK X E l (nq_rm 107) cX9_minds 10 RX9 wsX9_minds) {x : (Int32 × Int32 × Int32 × Mem) ⊕ (Int32 × Int32 × Mem)} (hc : ∀ s' : Int32 × Int32 × Int32 × Mem, x = .inl s' → nq_G X E 10 44 [(0, .ref (nq_ad E 0)), (1, .int x1), (2, .int x2), (3, .int s'.1), (4, .int s'.2.1), (5, .int x5), (6, .int s'.2.2.1)] [] K s'.2.2.2) (he : ∀ s' : Int32 × Int32 × Mem, x = .inr s' → nq_G X E 10 173 [(0, .ref (nq_ad E 0)), (1, .int x1), (2, .int x2), (3, .int s'.1), (4, .int s'.2.1), (5, .int x5)] [] K s'.2.2) (h : fX9_minds_L167_34_44 x1 x2 x3 x4 x5 x6 M = some x) : nq_G X E 10 167 [(0, .ref (nq_ad E 0)), (1, .int x1), (2, .int x2), (3, .int x3), (4, .int x4), (5, .int x5), (6, .int x6)] [] K M := by
  unfold fX9_minds_L167_34_44 at h
  obtain ⟨v30, e30, h⟩ := nq_ltE h
  refine nq_iinc hX (lv' := [(6, .int v30), (0, .ref (nq_ad E 0)), (1, .int x1), (2, .int x2), (3, .int x3), (4, .int x4), (5, .int x5)]) (j := 6) rfl (e30.trans rfl) (by decide) rfl dX9_minds_167 ?_
  refine nq_goto hX (tgt := 44) (by decide) dX9_minds_170 ?_
  refine nq_sub (lv' := [(0, .ref (nq_ad E 0)), (1, .int x1), (2, .int x2), (3, .int x3), (4, .int x4), (5, .int x5), (6, .int v30)]) [1, 2, 3, 4, 5, 6, 0] rfl ?_
  exact hc (x3, x4, v30, M) (nq_sE h).symm
def fX9_minds_L106_34_44 (x1 : Int32) (x2 : Int32) (x3 : Int32) (x4 : Int32) (x5 : Int32) (x6 : Int32) (x7 : Int32) (x8 : Int32) (M : Mem) : Option ((Int32 × Int32 × Int32 × Mem) ⊕ (Int32 × Int32 × Mem)) :=
  (nq_lp (fun s : Int32 × Int32 × Int32 × Mem => fX9_minds_B106_34_44 x1 x2 s.1 s.2.1 x5 x6 x7 s.2.2.1 s.2.2.2) nq_fuel (x3, x4, x8, M)).bind (fun e => fX9_minds_L167_34_44 x1 x2 e.1 e.2.1 x5 x6 e.2.2)
set_option maxHeartbeats 4000000 in
theorem mX9_minds_L106_34_44 {X : Cx} {E : Ev} {l : Launch} {K : List Sh} {x1 : Int32} {x2 : Int32} {x3 : Int32} {x4 : Int32} {x5 : Int32} {x6 : Int32} {x7 : Int32} {x8 : Int32} {M : Mem} (hL : nq_atModel E K) (hX : nq_OK X E l (nq_rm 107) cX9_minds 10 RX9 wsX9_minds) {x : (Int32 × Int32 × Int32 × Mem) ⊕ (Int32 × Int32 × Mem)} (hc : ∀ s' : Int32 × Int32 × Int32 × Mem, x = .inl s' → nq_G X E 10 44 [(0, .ref (nq_ad E 0)), (1, .int x1), (2, .int x2), (3, .int s'.1), (4, .int s'.2.1), (5, .int x5), (6, .int s'.2.2.1)] [] K s'.2.2.2) (he : ∀ s' : Int32 × Int32 × Mem, x = .inr s' → nq_G X E 10 173 [(0, .ref (nq_ad E 0)), (1, .int x1), (2, .int x2), (3, .int s'.1), (4, .int s'.2.1), (5, .int x5)] [] K s'.2.2) (h : fX9_minds_L106_34_44 x1 x2 x3 x4 x5 x6 x7 x8 M = some x) : nq_G X E 10 106 [(0, .ref (nq_ad E 0)), (1, .int x1), (2, .int x2), (3, .int x3), (4, .int x4), (5, .int x5), (6, .int x6), (7, .int x7), (8, .int x8)] [] K M := by
  unfold fX9_minds_L106_34_44 at h
  obtain ⟨e, h1, h⟩ := nq_bE h
  have key : ∀ (ex : Int32 × Int32 × Mem), nq_lp (fun s : Int32 × Int32 × Int32 × Mem => fX9_minds_B106_34_44 x1 x2 s.1 s.2.1 x5 x6 x7 s.2.2.1 s.2.2.2) nq_fuel (x3, x4, x8, M) = some ex → (∀ e, ex = e → nq_G X E 10 167 [(0, .ref (nq_ad E 0)), (1, .int x1), (2, .int x2), (3, .int e.1), (4, .int e.2.1), (5, .int x5), (6, .int x6)] [] K e.2.2) → nq_G X E 10 106 [(0, .ref (nq_ad E 0)), (1, .int x1), (2, .int x2), (3, .int ((x3, x4, x8, M).1)), (4, .int ((x3, x4, x8, M).2.1)), (5, .int x5), (6, .int x6), (7, .int x7), (8, .int ((x3, x4, x8, M).2.2.1))] [] K (x3, x4, x8, M).2.2.2 := by
    intro ex h1 hE
    refine nq_lpE (P := fun s : Int32 × Int32 × Int32 × Mem => nq_G X E 10 106 [(0, .ref (nq_ad E 0)), (1, .int x1), (2, .int x2), (3, .int s.1), (4, .int s.2.1), (5, .int x5), (6, .int x6), (7, .int x7), (8, .int s.2.2.1)] [] K s.2.2.2) (r := ex) ?_ nq_fuel (x3, x4, x8, M) h1
    intro s xx hx1 hc1 he1
    exact mX9_minds_B106_34_44 hL hX hc1 (fun e q => hE e (he1 _ q).symm) hx1
  refine key e h1 (fun e q => ?_)
  subst q
  exact mX9_minds_L167_34_44 hL hX hc he h
def fX9_minds_L101_34_44 (x1 : Int32) (x2 : Int32) (x3 : Int32) (x4 : Int32) (x5 : Int32) (x6 : Int32) (s0 : Int32) (M : Mem) : Option ((Int32 × Int32 × Int32 × Mem) ⊕ (Int32 × Int32 × Mem)) :=
  fX9_minds_L106_34_44 x1 x2 x3 x4 x5 x6 s0 (0 : Int32) M
set_option maxHeartbeats 4000000 in
theorem mX9_minds_L101_34_44 {X : Cx} {E : Ev} {l : Launch} {K : List Sh} {x1 : Int32} {x2 : Int32} {x3 : Int32} {x4 : Int32} {x5 : Int32} {x6 : Int32} {s0 : Int32} {M : Mem} (hL : nq_atModel E K) (hX : nq_OK X E l (nq_rm 107) cX9_minds 10 RX9 wsX9_minds) {x : (Int32 × Int32 × Int32 × Mem) ⊕ (Int32 × Int32 × Mem)} (hc : ∀ s' : Int32 × Int32 × Int32 × Mem, x = .inl s' → nq_G X E 10 44 [(0, .ref (nq_ad E 0)), (1, .int x1), (2, .int x2), (3, .int s'.1), (4, .int s'.2.1), (5, .int x5), (6, .int s'.2.2.1)] [] K s'.2.2.2) (he : ∀ s' : Int32 × Int32 × Mem, x = .inr s' → nq_G X E 10 173 [(0, .ref (nq_ad E 0)), (1, .int x1), (2, .int x2), (3, .int s'.1), (4, .int s'.2.1), (5, .int x5)] [] K s'.2.2) (h : fX9_minds_L101_34_44 x1 x2 x3 x4 x5 x6 s0 M = some x) : nq_G X E 10 101 [(0, .ref (nq_ad E 0)), (1, .int x1), (2, .int x2), (3, .int x3), (4, .int x4), (5, .int x5), (6, .int x6)] [.int s0] K M := by
  unfold fX9_minds_L101_34_44 at h
  refine nq_istore hX (lv' := [(7, .int s0), (0, .ref (nq_ad E 0)), (1, .int x1), (2, .int x2), (3, .int x3), (4, .int x4), (5, .int x5), (6, .int x6)]) (by decide) rfl rfl dX9_minds_101 ?_
  refine nq_iconst hX (v := 0) (by decide) dX9_minds_103 ?_
  refine nq_istore hX (lv' := [(8, .int (0 : Int32)), (7, .int s0), (0, .ref (nq_ad E 0)), (1, .int x1), (2, .int x2), (3, .int x3), (4, .int x4), (5, .int x5), (6, .int x6)]) (by decide) rfl rfl dX9_minds_104 ?_
  refine nq_sub (lv' := [(0, .ref (nq_ad E 0)), (1, .int x1), (2, .int x2), (3, .int x3), (4, .int x4), (5, .int x5), (6, .int x6), (7, .int s0), (8, .int (0 : Int32))]) [2, 3, 4, 5, 6, 7, 8, 1, 0] rfl ?_
  exact mX9_minds_L106_34_44 hL hX hc he h
def fX9_minds_L100_34_44 (x1 : Int32) (x2 : Int32) (x3 : Int32) (x4 : Int32) (x5 : Int32) (x6 : Int32) (M : Mem) : Option ((Int32 × Int32 × Int32 × Mem) ⊕ (Int32 × Int32 × Mem)) :=
  fX9_minds_L101_34_44 x1 x2 x3 x4 x5 x6 (0 : Int32) M
set_option maxHeartbeats 4000000 in
theorem mX9_minds_L100_34_44 {X : Cx} {E : Ev} {l : Launch} {K : List Sh} {x1 : Int32} {x2 : Int32} {x3 : Int32} {x4 : Int32} {x5 : Int32} {x6 : Int32} {M : Mem} (hL : nq_atModel E K) (hX : nq_OK X E l (nq_rm 107) cX9_minds 10 RX9 wsX9_minds) {x : (Int32 × Int32 × Int32 × Mem) ⊕ (Int32 × Int32 × Mem)} (hc : ∀ s' : Int32 × Int32 × Int32 × Mem, x = .inl s' → nq_G X E 10 44 [(0, .ref (nq_ad E 0)), (1, .int x1), (2, .int x2), (3, .int s'.1), (4, .int s'.2.1), (5, .int x5), (6, .int s'.2.2.1)] [] K s'.2.2.2) (he : ∀ s' : Int32 × Int32 × Mem, x = .inr s' → nq_G X E 10 173 [(0, .ref (nq_ad E 0)), (1, .int x1), (2, .int x2), (3, .int s'.1), (4, .int s'.2.1), (5, .int x5)] [] K s'.2.2) (h : fX9_minds_L100_34_44 x1 x2 x3 x4 x5 x6 M = some x) : nq_G X E 10 100 [(0, .ref (nq_ad E 0)), (1, .int x1), (2, .int x2), (3, .int x3), (4, .int x4), (5, .int x5), (6, .int x6)] [] K M := by
  unfold fX9_minds_L100_34_44 at h
  refine nq_iconst hX (v := 0) (by decide) dX9_minds_100 ?_
  exact mX9_minds_L101_34_44 hL hX hc he h
def fX9_minds_B44_34 (x1 : Int32) (x2 : Int32) (x3 : Int32) (x4 : Int32) (x5 : Int32) (x6 : Int32) (M : Mem) : Option ((Int32 × Int32 × Int32 × Mem) ⊕ (Int32 × Int32 × Mem)) :=
  if (40 : Int32) ≤ x6 then
  (some (.inr (x3, x4, M)))
  else
  ((nq_dv x5 (10 : Int32)).bind fun v15 =>
  (nq_rem x5 (10 : Int32)).bind fun v16 =>
  if v16 ≤ v15 then
  (fX9_minds_L100_34_44 x1 x2 x3 x4 x5 x6 M)
  else
  ((nq_rem x5 (10 : Int32)).bind fun v31 =>
  if (6 : Int32) ≤ v31 then
  (fX9_minds_L100_34_44 x1 x2 x3 x4 x5 x6 M)
  else
  ((nq_rem x6 (10 : Int32)).bind fun v33 =>
  if (4 : Int32) ≤ v33 then
  (fX9_minds_L100_34_44 x1 x2 x3 x4 x5 x6 M)
  else
  ((nq_dv x6 (10 : Int32)).bind fun v35 =>
  (nq_rem x6 (10 : Int32)).bind fun v36 =>
  if v35 = v36 then
  (fX9_minds_L100_34_44 x1 x2 x3 x4 x5 x6 M)
  else
  (fX9_minds_L101_34_44 x1 x2 x3 x4 x5 x6 (1 : Int32) M)))))
set_option maxHeartbeats 4000000 in
theorem mX9_minds_B44_34 {X : Cx} {E : Ev} {l : Launch} {K : List Sh} {x1 : Int32} {x2 : Int32} {x3 : Int32} {x4 : Int32} {x5 : Int32} {x6 : Int32} {M : Mem} (hL : nq_atModel E K) (hX : nq_OK X E l (nq_rm 107) cX9_minds 10 RX9 wsX9_minds) {x : (Int32 × Int32 × Int32 × Mem) ⊕ (Int32 × Int32 × Mem)} (hc : ∀ s' : Int32 × Int32 × Int32 × Mem, x = .inl s' → nq_G X E 10 44 [(0, .ref (nq_ad E 0)), (1, .int x1), (2, .int x2), (3, .int s'.1), (4, .int s'.2.1), (5, .int x5), (6, .int s'.2.2.1)] [] K s'.2.2.2) (he : ∀ s' : Int32 × Int32 × Mem, x = .inr s' → nq_G X E 10 173 [(0, .ref (nq_ad E 0)), (1, .int x1), (2, .int x2), (3, .int s'.1), (4, .int s'.2.1), (5, .int x5)] [] K s'.2.2) (h : fX9_minds_B44_34 x1 x2 x3 x4 x5 x6 M = some x) : nq_G X E 10 44 [(0, .ref (nq_ad E 0)), (1, .int x1), (2, .int x2), (3, .int x3), (4, .int x4), (5, .int x5), (6, .int x6)] [] K M := by
  unfold fX9_minds_B44_34 at h
  refine nq_iload hX 6 rfl dX9_minds_44 ?_
  refine nq_bipush hX (v := 40) (by decide) dX9_minds_46 ?_
  refine nq_icmp_ge hX (tgt := 173) (by decide) dX9_minds_48 (fun c14 => ?_) (fun c14 => ?_)
  · rw [if_pos c14] at h
    refine nq_sub (lv' := [(0, .ref (nq_ad E 0)), (1, .int x1), (2, .int x2), (3, .int x3), (4, .int x4), (5, .int x5)]) [0, 1, 2, 3, 4, 5] rfl ?_
    exact he (x3, x4, M) (nq_sE h).symm
  · rw [if_neg c14] at h
    refine nq_iload hX 5 rfl dX9_minds_51 ?_
    refine nq_bipush hX (v := 10) (by decide) dX9_minds_53 ?_
    obtain ⟨v15, e15, hn15, h⟩ := nq_ifE h
    refine nq_idiv hX hn15 e15 dX9_minds_55 ?_
    refine nq_iload hX 5 rfl dX9_minds_56 ?_
    refine nq_bipush hX (v := 10) (by decide) dX9_minds_58 ?_
    obtain ⟨v16, e16, hn16, h⟩ := nq_ifE h
    refine nq_irem hX hn16 e16 dX9_minds_60 ?_
    refine nq_icmp_ge hX (tgt := 100) (by decide) dX9_minds_61 (fun c17 => ?_) (fun c17 => ?_)
    · rw [if_pos c17] at h
      exact mX9_minds_L100_34_44 hL hX hc he h
    · rw [if_neg c17] at h
      refine nq_iload hX 5 rfl dX9_minds_64 ?_
      refine nq_bipush hX (v := 10) (by decide) dX9_minds_66 ?_
      obtain ⟨v31, e31, hn31, h⟩ := nq_ifE h
      refine nq_irem hX hn31 e31 dX9_minds_68 ?_
      refine nq_bipush hX (v := 6) (by decide) dX9_minds_69 ?_
      refine nq_icmp_ge hX (tgt := 100) (by decide) dX9_minds_71 (fun c32 => ?_) (fun c32 => ?_)
      · rw [if_pos c32] at h
        exact mX9_minds_L100_34_44 hL hX hc he h
      · rw [if_neg c32] at h
        refine nq_iload hX 6 rfl dX9_minds_74 ?_
        refine nq_bipush hX (v := 10) (by decide) dX9_minds_76 ?_
        obtain ⟨v33, e33, hn33, h⟩ := nq_ifE h
        refine nq_irem hX hn33 e33 dX9_minds_78 ?_
        refine nq_iconst hX (v := 4) (by decide) dX9_minds_79 ?_
        refine nq_icmp_ge hX (tgt := 100) (by decide) dX9_minds_80 (fun c34 => ?_) (fun c34 => ?_)
        · rw [if_pos c34] at h
          exact mX9_minds_L100_34_44 hL hX hc he h
        · rw [if_neg c34] at h
          refine nq_iload hX 6 rfl dX9_minds_83 ?_
          refine nq_bipush hX (v := 10) (by decide) dX9_minds_85 ?_
          obtain ⟨v35, e35, hn35, h⟩ := nq_ifE h
          refine nq_idiv hX hn35 e35 dX9_minds_87 ?_
          refine nq_iload hX 6 rfl dX9_minds_88 ?_
          refine nq_bipush hX (v := 10) (by decide) dX9_minds_90 ?_
          obtain ⟨v36, e36, hn36, h⟩ := nq_ifE h
          refine nq_irem hX hn36 e36 dX9_minds_92 ?_
          refine nq_icmp_eq hX (tgt := 100) (by decide) dX9_minds_93 (fun c37 => ?_) (fun c37 => ?_)
          · rw [if_pos c37] at h
            exact mX9_minds_L100_34_44 hL hX hc he h
          · rw [if_neg c37] at h
            refine nq_iconst hX (v := 1) (by decide) dX9_minds_96 ?_
            refine nq_goto hX (tgt := 101) (by decide) dX9_minds_97 ?_
            exact mX9_minds_L101_34_44 hL hX hc he h
def fX9_minds_L173_34 (x1 : Int32) (x2 : Int32) (x3 : Int32) (x4 : Int32) (x5 : Int32) (M : Mem) : Option ((Int32 × Int32 × Int32 × Mem) ⊕ (Int32 × Int32 × Mem)) :=
  nq_lt (x5 + (1 : Int32)) fun v38 =>
  some (.inl (x3, x4, v38, M))
set_option maxHeartbeats 4000000 in
theorem mX9_minds_L173_34 {X : Cx} {E : Ev} {l : Launch} {K : List Sh} {x1 : Int32} {x2 : Int32} {x3 : Int32} {x4 : Int32} {x5 : Int32} {M : Mem} (hL : nq_atModel E K) (hX : nq_OK X E l (nq_rm 107) cX9_minds 10 RX9 wsX9_minds) {x : (Int32 × Int32 × Int32 × Mem) ⊕ (Int32 × Int32 × Mem)} (hc : ∀ s' : Int32 × Int32 × Int32 × Mem, x = .inl s' → nq_G X E 10 34 [(0, .ref (nq_ad E 0)), (1, .int x1), (2, .int x2), (3, .int s'.1), (4, .int s'.2.1), (5, .int s'.2.2.1)] [] K s'.2.2.2) (he : ∀ s' : Int32 × Int32 × Mem, x = .inr s' → nq_G X E 10 179 [(0, .ref (nq_ad E 0)), (2, .int x2), (3, .int s'.1), (4, .int s'.2.1)] [] K s'.2.2) (h : fX9_minds_L173_34 x1 x2 x3 x4 x5 M = some x) : nq_G X E 10 173 [(0, .ref (nq_ad E 0)), (1, .int x1), (2, .int x2), (3, .int x3), (4, .int x4), (5, .int x5)] [] K M := by
  unfold fX9_minds_L173_34 at h
  obtain ⟨v38, e38, h⟩ := nq_ltE h
  refine nq_iinc hX (lv' := [(5, .int v38), (0, .ref (nq_ad E 0)), (1, .int x1), (2, .int x2), (3, .int x3), (4, .int x4)]) (j := 5) rfl (e38.trans rfl) (by decide) rfl dX9_minds_173 ?_
  refine nq_goto hX (tgt := 34) (by decide) dX9_minds_176 ?_
  refine nq_sub (lv' := [(0, .ref (nq_ad E 0)), (1, .int x1), (2, .int x2), (3, .int x3), (4, .int x4), (5, .int v38)]) [1, 2, 3, 4, 5, 0] rfl ?_
  exact hc (x3, x4, v38, M) (nq_sE h).symm
def fX9_minds_L44_34 (x1 : Int32) (x2 : Int32) (x3 : Int32) (x4 : Int32) (x5 : Int32) (x6 : Int32) (M : Mem) : Option ((Int32 × Int32 × Int32 × Mem) ⊕ (Int32 × Int32 × Mem)) :=
  (nq_lp (fun s : Int32 × Int32 × Int32 × Mem => fX9_minds_B44_34 x1 x2 s.1 s.2.1 x5 s.2.2.1 s.2.2.2) nq_fuel (x3, x4, x6, M)).bind (fun e => fX9_minds_L173_34 x1 x2 e.1 e.2.1 x5 e.2.2)
set_option maxHeartbeats 4000000 in
theorem mX9_minds_L44_34 {X : Cx} {E : Ev} {l : Launch} {K : List Sh} {x1 : Int32} {x2 : Int32} {x3 : Int32} {x4 : Int32} {x5 : Int32} {x6 : Int32} {M : Mem} (hL : nq_atModel E K) (hX : nq_OK X E l (nq_rm 107) cX9_minds 10 RX9 wsX9_minds) {x : (Int32 × Int32 × Int32 × Mem) ⊕ (Int32 × Int32 × Mem)} (hc : ∀ s' : Int32 × Int32 × Int32 × Mem, x = .inl s' → nq_G X E 10 34 [(0, .ref (nq_ad E 0)), (1, .int x1), (2, .int x2), (3, .int s'.1), (4, .int s'.2.1), (5, .int s'.2.2.1)] [] K s'.2.2.2) (he : ∀ s' : Int32 × Int32 × Mem, x = .inr s' → nq_G X E 10 179 [(0, .ref (nq_ad E 0)), (2, .int x2), (3, .int s'.1), (4, .int s'.2.1)] [] K s'.2.2) (h : fX9_minds_L44_34 x1 x2 x3 x4 x5 x6 M = some x) : nq_G X E 10 44 [(0, .ref (nq_ad E 0)), (1, .int x1), (2, .int x2), (3, .int x3), (4, .int x4), (5, .int x5), (6, .int x6)] [] K M := by
  unfold fX9_minds_L44_34 at h
  obtain ⟨e, h1, h⟩ := nq_bE h
  have key : ∀ (ex : Int32 × Int32 × Mem), nq_lp (fun s : Int32 × Int32 × Int32 × Mem => fX9_minds_B44_34 x1 x2 s.1 s.2.1 x5 s.2.2.1 s.2.2.2) nq_fuel (x3, x4, x6, M) = some ex → (∀ e, ex = e → nq_G X E 10 173 [(0, .ref (nq_ad E 0)), (1, .int x1), (2, .int x2), (3, .int e.1), (4, .int e.2.1), (5, .int x5)] [] K e.2.2) → nq_G X E 10 44 [(0, .ref (nq_ad E 0)), (1, .int x1), (2, .int x2), (3, .int ((x3, x4, x6, M).1)), (4, .int ((x3, x4, x6, M).2.1)), (5, .int x5), (6, .int ((x3, x4, x6, M).2.2.1))] [] K (x3, x4, x6, M).2.2.2 := by
    intro ex h1 hE
    refine nq_lpE (P := fun s : Int32 × Int32 × Int32 × Mem => nq_G X E 10 44 [(0, .ref (nq_ad E 0)), (1, .int x1), (2, .int x2), (3, .int s.1), (4, .int s.2.1), (5, .int x5), (6, .int s.2.2.1)] [] K s.2.2.2) (r := ex) ?_ nq_fuel (x3, x4, x6, M) h1
    intro s xx hx1 hc1 he1
    exact mX9_minds_B44_34 hL hX hc1 (fun e q => hE e (he1 _ q).symm) hx1
  refine key e h1 (fun e q => ?_)
  subst q
  exact mX9_minds_L173_34 hL hX hc he h
def fX9_minds_B34 (x1 : Int32) (x2 : Int32) (x3 : Int32) (x4 : Int32) (x5 : Int32) (M : Mem) : Option ((Int32 × Int32 × Int32 × Mem) ⊕ (Int32 × Int32 × Mem)) :=
  if (60 : Int32) ≤ x5 then
  (some (.inr (x3, x4, M)))
  else
  (fX9_minds_L44_34 x1 x2 x3 x4 x5 (0 : Int32) M)
set_option maxHeartbeats 4000000 in
theorem mX9_minds_B34 {X : Cx} {E : Ev} {l : Launch} {K : List Sh} {x1 : Int32} {x2 : Int32} {x3 : Int32} {x4 : Int32} {x5 : Int32} {M : Mem} (hL : nq_atModel E K) (hX : nq_OK X E l (nq_rm 107) cX9_minds 10 RX9 wsX9_minds) {x : (Int32 × Int32 × Int32 × Mem) ⊕ (Int32 × Int32 × Mem)} (hc : ∀ s' : Int32 × Int32 × Int32 × Mem, x = .inl s' → nq_G X E 10 34 [(0, .ref (nq_ad E 0)), (1, .int x1), (2, .int x2), (3, .int s'.1), (4, .int s'.2.1), (5, .int s'.2.2.1)] [] K s'.2.2.2) (he : ∀ s' : Int32 × Int32 × Mem, x = .inr s' → nq_G X E 10 179 [(0, .ref (nq_ad E 0)), (2, .int x2), (3, .int s'.1), (4, .int s'.2.1)] [] K s'.2.2) (h : fX9_minds_B34 x1 x2 x3 x4 x5 M = some x) : nq_G X E 10 34 [(0, .ref (nq_ad E 0)), (1, .int x1), (2, .int x2), (3, .int x3), (4, .int x4), (5, .int x5)] [] K M := by
  unfold fX9_minds_B34 at h
  refine nq_iload hX 5 rfl dX9_minds_34 ?_
  refine nq_bipush hX (v := 60) (by decide) dX9_minds_36 ?_
  refine nq_icmp_ge hX (tgt := 179) (by decide) dX9_minds_38 (fun c13 => ?_) (fun c13 => ?_)
  · rw [if_pos c13] at h
    refine nq_sub (lv' := [(0, .ref (nq_ad E 0)), (2, .int x2), (3, .int x3), (4, .int x4)]) [0, 2, 3, 4] rfl ?_
    exact he (x3, x4, M) (nq_sE h).symm
  · rw [if_neg c13] at h
    refine nq_iconst hX (v := 0) (by decide) dX9_minds_41 ?_
    refine nq_istore hX (lv' := [(6, .int (0 : Int32)), (0, .ref (nq_ad E 0)), (1, .int x1), (2, .int x2), (3, .int x3), (4, .int x4), (5, .int x5)]) (by decide) rfl rfl dX9_minds_42 ?_
    refine nq_sub (lv' := [(0, .ref (nq_ad E 0)), (1, .int x1), (2, .int x2), (3, .int x3), (4, .int x4), (5, .int x5), (6, .int (0 : Int32))]) [1, 2, 3, 4, 5, 6, 0] rfl ?_
    exact mX9_minds_L44_34 hL hX hc he h
def fX9_minds_L179 (x2 : Int32) (x3 : Int32) (x4 : Int32) (M : Mem) : Option (Int32 × Mem) :=
  if x2 = 0 then
  (some (x3, M))
  else
  (if 0 ≤ x4 then
  (some (x4, M))
  else
  (nq_b2 (fX9_finds (2 : Int32) M) fun v42 M43 =>
  some (v42, M43)))
set_option maxHeartbeats 4000000 in
theorem mX9_minds_L179 {X : Cx} {E : Ev} {l : Launch} {K : List Sh} {x2 : Int32} {x3 : Int32} {x4 : Int32} {M : Mem} {r : Int32} {M' : Mem} (hL : nq_atModel E K) (hX : nq_OK X E l (nq_rm 107) cX9_minds 10 RX9 wsX9_minds) (hr : nq_RT X E (some .int) (some (.int r)) K M') (h : fX9_minds_L179 x2 x3 x4 M = some (r, M')) : nq_G X E 10 179 [(0, .ref (nq_ad E 0)), (2, .int x2), (3, .int x3), (4, .int x4)] [] K M := by
  unfold fX9_minds_L179 at h
  refine nq_iload_n hX rfl 1 rfl dX9_minds_179 ?_
  refine nq_if_ne hX (tgt := 187) (by decide) dX9_minds_180 (fun c39 => ?_) (fun c39 => ?_)
  · rw [if_pos c39] at h
    refine nq_iload_n hX rfl 2 rfl dX9_minds_183 ?_
    refine nq_goto hX (tgt := 202) (by decide) dX9_minds_184 ?_
    obtain ⟨rfl, rfl⟩ := nq_sE2 h; exact nq_iret hX hr dX9_minds_202
  · rw [if_neg c39] at h
    refine nq_iload hX 3 rfl dX9_minds_187 ?_
    refine nq_if_ge hX (tgt := 200) (by decide) dX9_minds_189 (fun c40 => ?_) (fun c40 => ?_)
    · rw [if_pos c40] at h
      refine nq_iload hX 3 rfl dX9_minds_200 ?_
      obtain ⟨rfl, rfl⟩ := nq_sE2 h; exact nq_iret hX hr dX9_minds_202
    · rw [if_neg c40] at h
      refine nq_aload_n hX rfl 0 rfl dX9_minds_192 ?_
      refine nq_iconst hX (v := 2) (by decide) dX9_minds_193 ?_
      obtain ⟨v42, M43, hc41, h⟩ := nq_b2E h
      refine nq_callVi hX (tX9_finds hL hc41) gX9_minds_X9_finds rfl rfl dsX9_finds (by decide) (nq_Model_0 hL) rfl rfl (Nat.le_of_ble_eq_true rfl) dX9_minds_194 ?_
      refine nq_goto hX (tgt := 202) (by decide) dX9_minds_197 ?_
      obtain ⟨rfl, rfl⟩ := nq_sE2 h; exact nq_iret hX hr dX9_minds_202
def fX9_minds_L34 (x1 : Int32) (x2 : Int32) (x3 : Int32) (x4 : Int32) (x5 : Int32) (M : Mem) : Option (Int32 × Mem) :=
  (nq_lp (fun s : Int32 × Int32 × Int32 × Mem => fX9_minds_B34 x1 x2 s.1 s.2.1 s.2.2.1 s.2.2.2) nq_fuel (x3, x4, x5, M)).bind (fun e => fX9_minds_L179 x2 e.1 e.2.1 e.2.2)
set_option maxHeartbeats 4000000 in
theorem mX9_minds_L34 {X : Cx} {E : Ev} {l : Launch} {K : List Sh} {x1 : Int32} {x2 : Int32} {x3 : Int32} {x4 : Int32} {x5 : Int32} {M : Mem} {r : Int32} {M' : Mem} (hL : nq_atModel E K) (hX : nq_OK X E l (nq_rm 107) cX9_minds 10 RX9 wsX9_minds) (hr : nq_RT X E (some .int) (some (.int r)) K M') (h : fX9_minds_L34 x1 x2 x3 x4 x5 M = some (r, M')) : nq_G X E 10 34 [(0, .ref (nq_ad E 0)), (1, .int x1), (2, .int x2), (3, .int x3), (4, .int x4), (5, .int x5)] [] K M := by
  unfold fX9_minds_L34 at h
  obtain ⟨e, h1, h⟩ := nq_bE h
  have key : ∀ (ex : Int32 × Int32 × Mem), nq_lp (fun s : Int32 × Int32 × Int32 × Mem => fX9_minds_B34 x1 x2 s.1 s.2.1 s.2.2.1 s.2.2.2) nq_fuel (x3, x4, x5, M) = some ex → (∀ e, ex = e → nq_G X E 10 179 [(0, .ref (nq_ad E 0)), (2, .int x2), (3, .int e.1), (4, .int e.2.1)] [] K e.2.2) → nq_G X E 10 34 [(0, .ref (nq_ad E 0)), (1, .int x1), (2, .int x2), (3, .int ((x3, x4, x5, M).1)), (4, .int ((x3, x4, x5, M).2.1)), (5, .int ((x3, x4, x5, M).2.2.1))] [] K (x3, x4, x5, M).2.2.2 := by
    intro ex h1 hE
    refine nq_lpE (P := fun s : Int32 × Int32 × Int32 × Mem => nq_G X E 10 34 [(0, .ref (nq_ad E 0)), (1, .int x1), (2, .int x2), (3, .int s.1), (4, .int s.2.1), (5, .int s.2.2.1)] [] K s.2.2.2) (r := ex) ?_ nq_fuel (x3, x4, x5, M) h1
    intro s xx hx1 hc1 he1
    exact mX9_minds_B34 hL hX hc1 (fun e q => hE e (he1 _ q).symm) hx1
  refine key e h1 (fun e q => ?_)
  subst q
  exact mX9_minds_L179 hL hX hr h
def fX9_minds (x1 : Int32) (x2 : Int32) (M : Mem) : Option (Int32 × Mem) :=
  (fX9_in x1.toInt64 (0 : Int64) (1 : Int64) M).bind fun v2 =>
  if v2 = 0 then
  (nq_b2 (fX9_finds (1 : Int32) M) fun v5 M6 =>
  some (v5, M6))
  else
  ((fX9_in x2.toInt64 (0 : Int64) (1 : Int64) M).bind fun v8 =>
  if v8 = 0 then
  (nq_b2 (fX9_finds (1 : Int32) M) fun v11 M12 =>
  some (v11, M12))
  else
  (fX9_minds_L34 x1 x2 (0 : Int32) (-1 : Int32) (0 : Int32) M))
set_option maxHeartbeats 4000000 in
theorem mX9_minds {X : Cx} {E : Ev} {l : Launch} {K : List Sh} {x1 : Int32} {x2 : Int32} {M : Mem} {r : Int32} {M' : Mem} (hL : nq_atModel E K) (hX : nq_OK X E l (nq_rm 107) cX9_minds 10 RX9 wsX9_minds) (hr : nq_RT X E (some .int) (some (.int r)) K M') (h : fX9_minds x1 x2 M = some (r, M')) : nq_G X E 10 0 [(0, .ref (nq_ad E 0)), (1, .int x1), (2, .int x2)] [] K M := by
  unfold fX9_minds at h
  refine nq_iload_n hX rfl 1 rfl dX9_minds_0 ?_
  refine nq_i2l hX dX9_minds_1 ?_
  refine nq_lconst hX (v := 0) (by decide) dX9_minds_2 ?_
  refine nq_lconst hX (v := 1) (by decide) dX9_minds_3 ?_
  obtain ⟨v2, hc1, h⟩ := nq_bE h
  refine nq_callSi hX (tX9_in  hc1) gX9_minds_X9_in rfl rfl dsX9_in (by decide) rfl (Nat.le_of_ble_eq_true rfl) dX9_minds_4 ?_
  refine nq_if_eq hX (tgt := 20) (by decide) dX9_minds_7 (fun c3 => ?_) (fun c3 => ?_)
  · rw [if_pos c3] at h
    refine nq_aload_n hX rfl 0 rfl dX9_minds_20 ?_
    refine nq_iconst hX (v := 1) (by decide) dX9_minds_21 ?_
    obtain ⟨v5, M6, hc4, h⟩ := nq_b2E h
    refine nq_callVi hX (tX9_finds hL hc4) gX9_minds_X9_finds rfl rfl dsX9_finds (by decide) (nq_Model_0 hL) rfl rfl (Nat.le_of_ble_eq_true rfl) dX9_minds_22 ?_
    obtain ⟨rfl, rfl⟩ := nq_sE2 h; exact nq_iret hX hr dX9_minds_25
  · rw [if_neg c3] at h
    refine nq_iload_n hX rfl 2 rfl dX9_minds_10 ?_
    refine nq_i2l hX dX9_minds_11 ?_
    refine nq_lconst hX (v := 0) (by decide) dX9_minds_12 ?_
    refine nq_lconst hX (v := 1) (by decide) dX9_minds_13 ?_
    obtain ⟨v8, hc7, h⟩ := nq_bE h
    refine nq_callSi hX (tX9_in  hc7) gX9_minds_X9_in rfl rfl dsX9_in (by decide) rfl (Nat.le_of_ble_eq_true rfl) dX9_minds_14 ?_
    refine nq_if_ne hX (tgt := 26) (by decide) dX9_minds_17 (fun c9 => ?_) (fun c9 => ?_)
    · rw [if_pos c9] at h
      refine nq_aload_n hX rfl 0 rfl dX9_minds_20 ?_
      refine nq_iconst hX (v := 1) (by decide) dX9_minds_21 ?_
      obtain ⟨v11, M12, hc10, h⟩ := nq_b2E h
      refine nq_callVi hX (tX9_finds hL hc10) gX9_minds_X9_finds rfl rfl dsX9_finds (by decide) (nq_Model_0 hL) rfl rfl (Nat.le_of_ble_eq_true rfl) dX9_minds_22 ?_
      obtain ⟨rfl, rfl⟩ := nq_sE2 h; exact nq_iret hX hr dX9_minds_25
    · rw [if_neg c9] at h
      refine nq_iconst hX (v := 0) (by decide) dX9_minds_26 ?_
      refine nq_istore_n hX (lv' := [(3, .int (0 : Int32)), (0, .ref (nq_ad E 0)), (1, .int x1), (2, .int x2)]) rfl (by decide) rfl rfl dX9_minds_27 ?_
      refine nq_iconst hX (v := -1) (by decide) dX9_minds_28 ?_
      refine nq_istore hX (lv' := [(4, .int (-1 : Int32)), (3, .int (0 : Int32)), (0, .ref (nq_ad E 0)), (1, .int x1), (2, .int x2)]) (by decide) rfl rfl dX9_minds_29 ?_
      refine nq_iconst hX (v := 0) (by decide) dX9_minds_31 ?_
      refine nq_istore hX (lv' := [(5, .int (0 : Int32)), (4, .int (-1 : Int32)), (3, .int (0 : Int32)), (0, .ref (nq_ad E 0)), (1, .int x1), (2, .int x2)]) (by decide) rfl rfl dX9_minds_32 ?_
      refine nq_sub (lv' := [(0, .ref (nq_ad E 0)), (1, .int x1), (2, .int x2), (3, .int (0 : Int32)), (4, .int (-1 : Int32)), (5, .int (0 : Int32))]) [3, 4, 5, 2, 1, 0] rfl ?_
      exact mX9_minds_L34 hL hX hr h
theorem dsX9_minds : yX9_minds.cls ≠ "java/lang/invoke/MethodHandle" ∧ yX9_minds.cls ≠ "java/lang/invoke/VarHandle" ∧ (parseMethodDescriptor yX9_minds.desc).map (fun d => d.parameters.length) = some 2 := by decide +kernel
theorem tX9_minds {l : Launch} {E : Ev} {K : List Sh} {x1 : Int32} {x2 : Int32} {M : Mem} {r : Int32} {M' : Mem} (hL : nq_atModel E K) (h : fX9_minds x1 x2 M = some (r, M')) : nq_MA l E yX9_minds wsX9_minds (nq_rm 107) [.ref (nq_ad E 0), .int x1, .int x2] K M (some (.int r)) K M' :=
  nq_met (own := RX9) (cc := cX9_minds) (maxL := 10) (ret := (some .int)) (by decide) rfl rfl (Nat.le_of_ble_eq_true rfl) (fun X hX hr => mX9_minds hL hX hr h)

theorem mmX9_heirs_c234 : Cond.constantLong RX9 234 (8) ∈ wsX9_heirs := by decide +kernel
def fX9_heirs_B54 (x1 : Int32) (x2 : Int32) (x3 : Int32) (x4 : Int64) (x6 : Int64) (x8 : Int32) (M : Mem) : Option ((Int64 × Int64 × Int32) ⊕ (Int64 × Int64)) :=
  if x1 ≤ x8 then
  (some (.inr (x4, x6)))
  else
  ((nq_rem x2 (10 : Int32)).bind fun v25 =>
  (nq_dv x2 (10 : Int32)).bind fun v26 =>
  (nq_dv x2 (10 : Int32)).bind fun v27 =>
  nq_lt (((x4 * ((v25 - v26).toInt64)) + (x6 * v27.toInt64))) fun v28 =>
  (nq_rem x2 (10 : Int32)).bind fun v29 =>
  (nq_dv x2 (10 : Int32)).bind fun v30 =>
  (nq_dv x2 (10 : Int32)).bind fun v31 =>
  nq_lt (((x6 * ((v29 - v30).toInt64)) + (x4 * v31.toInt64))) fun v32 =>
  nq_lt (x8 + (1 : Int32)) fun v33 =>
  some (.inl (v28, v32, v33)))
set_option maxHeartbeats 4000000 in
theorem mX9_heirs_B54 {X : Cx} {E : Ev} {l : Launch} {K : List Sh} {x1 : Int32} {x2 : Int32} {x3 : Int32} {x4 : Int64} {x6 : Int64} {x8 : Int32} {M : Mem} (hL : nq_atModel E K) (hX : nq_OK X E l (nq_rm 3) cX9_heirs 11 RX9 wsX9_heirs) {x : (Int64 × Int64 × Int32) ⊕ (Int64 × Int64)} (hc : ∀ s' : Int64 × Int64 × Int32, x = .inl s' → nq_G X E 11 54 [(1, .int x1), (2, .int x2), (3, .int x3), (4, .long s'.1), (6, .long s'.2.1), (8, .int s'.2.2)] [] K M) (he : ∀ s' : Int64 × Int64, x = .inr s' → nq_G X E 11 118 [(3, .int x3), (4, .long s'.1), (6, .long s'.2)] [] K M) (h : fX9_heirs_B54 x1 x2 x3 x4 x6 x8 M = some x) : nq_G X E 11 54 [(1, .int x1), (2, .int x2), (3, .int x3), (4, .long x4), (6, .long x6), (8, .int x8)] [] K M := by
  unfold fX9_heirs_B54 at h
  refine nq_iload hX 5 rfl dX9_heirs_54 ?_
  refine nq_iload_n hX rfl 0 rfl dX9_heirs_56 ?_
  refine nq_icmp_ge hX (tgt := 118) (by decide) dX9_heirs_57 (fun c24 => ?_) (fun c24 => ?_)
  · rw [if_pos c24] at h
    refine nq_sub (lv' := [(3, .int x3), (4, .long x4), (6, .long x6)]) [2, 3, 4] rfl ?_
    exact he (x4, x6) (nq_sE h).symm
  · rw [if_neg c24] at h
    refine nq_lload hX 3 rfl dX9_heirs_60 ?_
    refine nq_lstore hX (lv' := [(9, .long x4), (1, .int x1), (2, .int x2), (3, .int x3), (4, .long x4), (6, .long x6), (8, .int x8)]) (by decide) rfl rfl dX9_heirs_62 ?_
    refine nq_lload hX 4 rfl dX9_heirs_64 ?_
    refine nq_iload_n hX rfl 2 rfl dX9_heirs_66 ?_
    refine nq_bipush hX (v := 10) (by decide) dX9_heirs_67 ?_
    obtain ⟨v25, e25, hn25, h⟩ := nq_ifE h
    refine nq_irem hX hn25 e25 dX9_heirs_69 ?_
    refine nq_iload_n hX rfl 2 rfl dX9_heirs_70 ?_
    refine nq_bipush hX (v := 10) (by decide) dX9_heirs_71 ?_
    obtain ⟨v26, e26, hn26, h⟩ := nq_ifE h
    refine nq_idiv hX hn26 e26 dX9_heirs_73 ?_
    refine nq_isub hX dX9_heirs_74 ?_
    refine nq_i2l hX dX9_heirs_75 ?_
    refine nq_lmul hX dX9_heirs_76 ?_
    refine nq_lload hX 5 rfl dX9_heirs_77 ?_
    refine nq_iload_n hX rfl 2 rfl dX9_heirs_79 ?_
    refine nq_bipush hX (v := 10) (by decide) dX9_heirs_80 ?_
    obtain ⟨v27, e27, hn27, h⟩ := nq_ifE h
    refine nq_idiv hX hn27 e27 dX9_heirs_82 ?_
    refine nq_i2l hX dX9_heirs_83 ?_
    refine nq_lmul hX dX9_heirs_84 ?_
    refine nq_ladd hX dX9_heirs_85 ?_
    obtain ⟨v28, e28, h⟩ := nq_ltE h
    refine nq_lstore hX (lv' := [(4, .long v28), (9, .long x4), (1, .int x1), (2, .int x2), (3, .int x3), (6, .long x6), (8, .int x8)]) (by decide) e28 rfl dX9_heirs_86 ?_
    refine nq_lload hX 5 rfl dX9_heirs_88 ?_
    refine nq_iload_n hX rfl 3 rfl dX9_heirs_90 ?_
    refine nq_bipush hX (v := 10) (by decide) dX9_heirs_91 ?_
    obtain ⟨v29, e29, hn29, h⟩ := nq_ifE h
    refine nq_irem hX hn29 e29 dX9_heirs_93 ?_
    refine nq_iload_n hX rfl 3 rfl dX9_heirs_94 ?_
    refine nq_bipush hX (v := 10) (by decide) dX9_heirs_95 ?_
    obtain ⟨v30, e30, hn30, h⟩ := nq_ifE h
    refine nq_idiv hX hn30 e30 dX9_heirs_97 ?_
    refine nq_isub hX dX9_heirs_98 ?_
    refine nq_i2l hX dX9_heirs_99 ?_
    refine nq_lmul hX dX9_heirs_100 ?_
    refine nq_lload hX 1 rfl dX9_heirs_101 ?_
    refine nq_iload_n hX rfl 3 rfl dX9_heirs_103 ?_
    refine nq_bipush hX (v := 10) (by decide) dX9_heirs_104 ?_
    obtain ⟨v31, e31, hn31, h⟩ := nq_ifE h
    refine nq_idiv hX hn31 e31 dX9_heirs_106 ?_
    refine nq_i2l hX dX9_heirs_107 ?_
    refine nq_lmul hX dX9_heirs_108 ?_
    refine nq_ladd hX dX9_heirs_109 ?_
    obtain ⟨v32, e32, h⟩ := nq_ltE h
    refine nq_lstore hX (lv' := [(6, .long v32), (4, .long v28), (9, .long x4), (1, .int x1), (2, .int x2), (3, .int x3), (8, .int x8)]) (by decide) e32 rfl dX9_heirs_110 ?_
    obtain ⟨v33, e33, h⟩ := nq_ltE h
    refine nq_iinc hX (lv' := [(8, .int v33), (6, .long v32), (4, .long v28), (9, .long x4), (1, .int x1), (2, .int x2), (3, .int x3)]) (j := 6) rfl (e33.trans rfl) (by decide) rfl dX9_heirs_112 ?_
    refine nq_goto hX (tgt := 54) (by decide) dX9_heirs_115 ?_
    refine nq_sub (lv' := [(1, .int x1), (2, .int x2), (3, .int x3), (4, .long v28), (6, .long v32), (8, .int v33)]) [4, 5, 6, 2, 1, 0] rfl ?_
    exact hc (v28, v32, v33) (nq_sE h).symm
def fX9_heirs_L118 (x3 : Int32) (x4 : Int64) (x6 : Int64) (M : Mem) : Option (Int64 × Mem) :=
  (fX9_common x4 (x4 + x6) M).bind fun v35 =>
  if x3 = 0 then
  ((nq_dvL x4 v35).bind fun v37 =>
  some (v37, M))
  else
  ((nq_dvL (x4 + x6) v35).bind fun v38 =>
  some (v38, M))
set_option maxHeartbeats 4000000 in
theorem mX9_heirs_L118 {X : Cx} {E : Ev} {l : Launch} {K : List Sh} {x3 : Int32} {x4 : Int64} {x6 : Int64} {M : Mem} {r : Int64} {M' : Mem} (hL : nq_atModel E K) (hX : nq_OK X E l (nq_rm 3) cX9_heirs 11 RX9 wsX9_heirs) (hr : nq_RT X E (some .long) (some (.long r)) K M') (h : fX9_heirs_L118 x3 x4 x6 M = some (r, M')) : nq_G X E 11 118 [(3, .int x3), (4, .long x4), (6, .long x6)] [] K M := by
  unfold fX9_heirs_L118 at h
  refine nq_lload hX 1 rfl dX9_heirs_118 ?_
  refine nq_lload hX 1 rfl dX9_heirs_120 ?_
  refine nq_lload hX 2 rfl dX9_heirs_122 ?_
  refine nq_ladd hX dX9_heirs_124 ?_
  obtain ⟨v35, hc34, h⟩ := nq_bE h
  refine nq_callSl hX (tX9_common  hc34) gX9_heirs_X9_common rfl rfl dsX9_common (by decide) rfl (Nat.le_of_ble_eq_true rfl) dX9_heirs_125 ?_
  refine nq_lstore hX (lv' := [(8, .long v35), (3, .int x3), (4, .long x4), (6, .long x6)]) (by decide) rfl rfl dX9_heirs_128 ?_
  refine nq_iload_n hX rfl 1 rfl dX9_heirs_130 ?_
  refine nq_if_ne hX (tgt := 142) (by decide) dX9_heirs_131 (fun c36 => ?_) (fun c36 => ?_)
  · rw [if_pos c36] at h
    refine nq_lload hX 2 rfl dX9_heirs_134 ?_
    refine nq_lload hX 0 rfl dX9_heirs_136 ?_
    obtain ⟨v37, e37, hn37, h⟩ := nq_ifE h
    refine nq_ldiv hX hn37 e37 dX9_heirs_138 ?_
    refine nq_goto hX (tgt := 150) (by decide) dX9_heirs_139 ?_
    obtain ⟨rfl, rfl⟩ := nq_sE2 h; exact nq_lret hX hr dX9_heirs_150
  · rw [if_neg c36] at h
    refine nq_lload hX 2 rfl dX9_heirs_142 ?_
    refine nq_lload hX 3 rfl dX9_heirs_144 ?_
    refine nq_ladd hX dX9_heirs_146 ?_
    refine nq_lload hX 0 rfl dX9_heirs_147 ?_
    obtain ⟨v38, e38, hn38, h⟩ := nq_ifE h
    refine nq_ldiv hX hn38 e38 dX9_heirs_149 ?_
    obtain ⟨rfl, rfl⟩ := nq_sE2 h; exact nq_lret hX hr dX9_heirs_150
def fX9_heirs_L54 (x1 : Int32) (x2 : Int32) (x3 : Int32) (x4 : Int64) (x6 : Int64) (x8 : Int32) (M : Mem) : Option (Int64 × Mem) :=
  (nq_lp (fun s : Int64 × Int64 × Int32 => fX9_heirs_B54 x1 x2 x3 s.1 s.2.1 s.2.2 M) nq_fuel (x4, x6, x8)).bind (fun e => fX9_heirs_L118 x3 e.1 e.2 M)
set_option maxHeartbeats 4000000 in
theorem mX9_heirs_L54 {X : Cx} {E : Ev} {l : Launch} {K : List Sh} {x1 : Int32} {x2 : Int32} {x3 : Int32} {x4 : Int64} {x6 : Int64} {x8 : Int32} {M : Mem} {r : Int64} {M' : Mem} (hL : nq_atModel E K) (hX : nq_OK X E l (nq_rm 3) cX9_heirs 11 RX9 wsX9_heirs) (hr : nq_RT X E (some .long) (some (.long r)) K M') (h : fX9_heirs_L54 x1 x2 x3 x4 x6 x8 M = some (r, M')) : nq_G X E 11 54 [(1, .int x1), (2, .int x2), (3, .int x3), (4, .long x4), (6, .long x6), (8, .int x8)] [] K M := by
  unfold fX9_heirs_L54 at h
  obtain ⟨e, h1, h⟩ := nq_bE h
  have key : ∀ (ex : Int64 × Int64), nq_lp (fun s : Int64 × Int64 × Int32 => fX9_heirs_B54 x1 x2 x3 s.1 s.2.1 s.2.2 M) nq_fuel (x4, x6, x8) = some ex → (∀ e, ex = e → nq_G X E 11 118 [(3, .int x3), (4, .long e.1), (6, .long e.2)] [] K M) → nq_G X E 11 54 [(1, .int x1), (2, .int x2), (3, .int x3), (4, .long ((x4, x6, x8).1)), (6, .long ((x4, x6, x8).2.1)), (8, .int ((x4, x6, x8).2.2))] [] K M := by
    intro ex h1 hE
    refine nq_lpE (P := fun s : Int64 × Int64 × Int32 => nq_G X E 11 54 [(1, .int x1), (2, .int x2), (3, .int x3), (4, .long s.1), (6, .long s.2.1), (8, .int s.2.2)] [] K M) (r := ex) ?_ nq_fuel (x4, x6, x8) h1
    intro s xx hx1 hc1 he1
    exact mX9_heirs_B54 hL hX hc1 (fun e q => hE e (he1 _ q).symm) hx1
  refine key e h1 (fun e q => ?_)
  subst q
  exact mX9_heirs_L118 hL hX hr h
def fX9_heirs (x1 : Int32) (x2 : Int32) (x3 : Int32) (M : Mem) : Option (Int64 × Mem) :=
  (fX9_in x1.toInt64 (0 : Int64) (8 : Int64) M).bind fun v2 =>
  if v2 = 0 then
  (nq_b2 (fX9_finds (1 : Int32) M) fun v5 M6 =>
  some (v5.toInt64, M6))
  else
  ((fX9_isPart x2 M).bind fun v8 =>
  if v8 = 0 then
  (nq_b2 (fX9_finds (1 : Int32) M) fun v11 M12 =>
  some (v11.toInt64, M12))
  else
  ((nq_rem x2 (10 : Int32)).bind fun v13 =>
  if (6 : Int32) < v13 then
  (nq_b2 (fX9_finds (1 : Int32) M) fun v16 M17 =>
  some (v16.toInt64, M17))
  else
  ((fX9_in x3.toInt64 (0 : Int64) (1 : Int64) M).bind fun v19 =>
  if v19 = 0 then
  (nq_b2 (fX9_finds (1 : Int32) M) fun v22 M23 =>
  some (v22.toInt64, M23))
  else
  (fX9_heirs_L54 x1 x2 x3 (1 : Int64) (0 : Int64) (0 : Int32) M))))
set_option maxHeartbeats 4000000 in
theorem mX9_heirs {X : Cx} {E : Ev} {l : Launch} {K : List Sh} {x1 : Int32} {x2 : Int32} {x3 : Int32} {M : Mem} {r : Int64} {M' : Mem} (hL : nq_atModel E K) (hX : nq_OK X E l (nq_rm 3) cX9_heirs 11 RX9 wsX9_heirs) (hr : nq_RT X E (some .long) (some (.long r)) K M') (h : fX9_heirs x1 x2 x3 M = some (r, M')) : nq_G X E 11 0 [(0, .ref (nq_ad E 0)), (1, .int x1), (2, .int x2), (3, .int x3)] [] K M := by
  unfold fX9_heirs at h
  refine nq_iload_n hX rfl 1 rfl dX9_heirs_0 ?_
  refine nq_i2l hX dX9_heirs_1 ?_
  refine nq_lconst hX (v := 0) (by decide) dX9_heirs_2 ?_
  refine nq_ldc2 hX (v := 8) mmX9_heirs_c234 dX9_heirs_3 ?_
  obtain ⟨v2, hc1, h⟩ := nq_bE h
  refine nq_callSi hX (tX9_in  hc1) gX9_heirs_X9_in rfl rfl dsX9_in (by decide) rfl (Nat.le_of_ble_eq_true rfl) dX9_heirs_6 ?_
  refine nq_if_eq hX (tgt := 38) (by decide) dX9_heirs_9 (fun c3 => ?_) (fun c3 => ?_)
  · rw [if_pos c3] at h
    refine nq_aload_n hX rfl 0 rfl dX9_heirs_38 ?_
    refine nq_iconst hX (v := 1) (by decide) dX9_heirs_39 ?_
    obtain ⟨v5, M6, hc4, h⟩ := nq_b2E h
    refine nq_callVi hX (tX9_finds hL hc4) gX9_heirs_X9_finds rfl rfl dsX9_finds (by decide) (nq_Model_0 hL) rfl rfl (Nat.le_of_ble_eq_true rfl) dX9_heirs_40 ?_
    refine nq_i2l hX dX9_heirs_43 ?_
    obtain ⟨rfl, rfl⟩ := nq_sE2 h; exact nq_lret hX hr dX9_heirs_44
  · rw [if_neg c3] at h
    refine nq_iload_n hX rfl 2 rfl dX9_heirs_12 ?_
    obtain ⟨v8, hc7, h⟩ := nq_bE h
    refine nq_callSi hX (tX9_isPart  hc7) gX9_heirs_X9_isPart rfl rfl dsX9_isPart (by decide) rfl (Nat.le_of_ble_eq_true rfl) dX9_heirs_13 ?_
    refine nq_if_eq hX (tgt := 38) (by decide) dX9_heirs_16 (fun c9 => ?_) (fun c9 => ?_)
    · rw [if_pos c9] at h
      refine nq_aload_n hX rfl 0 rfl dX9_heirs_38 ?_
      refine nq_iconst hX (v := 1) (by decide) dX9_heirs_39 ?_
      obtain ⟨v11, M12, hc10, h⟩ := nq_b2E h
      refine nq_callVi hX (tX9_finds hL hc10) gX9_heirs_X9_finds rfl rfl dsX9_finds (by decide) (nq_Model_0 hL) rfl rfl (Nat.le_of_ble_eq_true rfl) dX9_heirs_40 ?_
      refine nq_i2l hX dX9_heirs_43 ?_
      obtain ⟨rfl, rfl⟩ := nq_sE2 h; exact nq_lret hX hr dX9_heirs_44
    · rw [if_neg c9] at h
      refine nq_iload_n hX rfl 2 rfl dX9_heirs_19 ?_
      refine nq_bipush hX (v := 10) (by decide) dX9_heirs_20 ?_
      obtain ⟨v13, e13, hn13, h⟩ := nq_ifE h
      refine nq_irem hX hn13 e13 dX9_heirs_22 ?_
      refine nq_bipush hX (v := 6) (by decide) dX9_heirs_23 ?_
      refine nq_icmp_gt hX (tgt := 38) (by decide) dX9_heirs_25 (fun c14 => ?_) (fun c14 => ?_)
      · rw [if_pos c14] at h
        refine nq_aload_n hX rfl 0 rfl dX9_heirs_38 ?_
        refine nq_iconst hX (v := 1) (by decide) dX9_heirs_39 ?_
        obtain ⟨v16, M17, hc15, h⟩ := nq_b2E h
        refine nq_callVi hX (tX9_finds hL hc15) gX9_heirs_X9_finds rfl rfl dsX9_finds (by decide) (nq_Model_0 hL) rfl rfl (Nat.le_of_ble_eq_true rfl) dX9_heirs_40 ?_
        refine nq_i2l hX dX9_heirs_43 ?_
        obtain ⟨rfl, rfl⟩ := nq_sE2 h; exact nq_lret hX hr dX9_heirs_44
      · rw [if_neg c14] at h
        refine nq_iload_n hX rfl 3 rfl dX9_heirs_28 ?_
        refine nq_i2l hX dX9_heirs_29 ?_
        refine nq_lconst hX (v := 0) (by decide) dX9_heirs_30 ?_
        refine nq_lconst hX (v := 1) (by decide) dX9_heirs_31 ?_
        obtain ⟨v19, hc18, h⟩ := nq_bE h
        refine nq_callSi hX (tX9_in  hc18) gX9_heirs_X9_in rfl rfl dsX9_in (by decide) rfl (Nat.le_of_ble_eq_true rfl) dX9_heirs_32 ?_
        refine nq_if_ne hX (tgt := 45) (by decide) dX9_heirs_35 (fun c20 => ?_) (fun c20 => ?_)
        · rw [if_pos c20] at h
          refine nq_aload_n hX rfl 0 rfl dX9_heirs_38 ?_
          refine nq_iconst hX (v := 1) (by decide) dX9_heirs_39 ?_
          obtain ⟨v22, M23, hc21, h⟩ := nq_b2E h
          refine nq_callVi hX (tX9_finds hL hc21) gX9_heirs_X9_finds rfl rfl dsX9_finds (by decide) (nq_Model_0 hL) rfl rfl (Nat.le_of_ble_eq_true rfl) dX9_heirs_40 ?_
          refine nq_i2l hX dX9_heirs_43 ?_
          obtain ⟨rfl, rfl⟩ := nq_sE2 h; exact nq_lret hX hr dX9_heirs_44
        · rw [if_neg c20] at h
          refine nq_lconst hX (v := 1) (by decide) dX9_heirs_45 ?_
          refine nq_lstore hX (lv' := [(4, .long (1 : Int64)), (0, .ref (nq_ad E 0)), (1, .int x1), (2, .int x2), (3, .int x3)]) (by decide) rfl rfl dX9_heirs_46 ?_
          refine nq_lconst hX (v := 0) (by decide) dX9_heirs_48 ?_
          refine nq_lstore hX (lv' := [(6, .long (0 : Int64)), (4, .long (1 : Int64)), (0, .ref (nq_ad E 0)), (1, .int x1), (2, .int x2), (3, .int x3)]) (by decide) rfl rfl dX9_heirs_49 ?_
          refine nq_iconst hX (v := 0) (by decide) dX9_heirs_51 ?_
          refine nq_istore hX (lv' := [(8, .int (0 : Int32)), (6, .long (0 : Int64)), (4, .long (1 : Int64)), (0, .ref (nq_ad E 0)), (1, .int x1), (2, .int x2), (3, .int x3)]) (by decide) rfl rfl dX9_heirs_52 ?_
          refine nq_sub (lv' := [(1, .int x1), (2, .int x2), (3, .int x3), (4, .long (1 : Int64)), (6, .long (0 : Int64)), (8, .int (0 : Int32))]) [4, 5, 6, 2, 1, 0] rfl ?_
          exact mX9_heirs_L54 hL hX hr h
theorem dsX9_heirs : yX9_heirs.cls ≠ "java/lang/invoke/MethodHandle" ∧ yX9_heirs.cls ≠ "java/lang/invoke/VarHandle" ∧ (parseMethodDescriptor yX9_heirs.desc).map (fun d => d.parameters.length) = some 3 := by decide +kernel
theorem tX9_heirs {l : Launch} {E : Ev} {K : List Sh} {x1 : Int32} {x2 : Int32} {x3 : Int32} {M : Mem} {r : Int64} {M' : Mem} (hL : nq_atModel E K) (h : fX9_heirs x1 x2 x3 M = some (r, M')) : nq_MA l E yX9_heirs wsX9_heirs (nq_rm 3) [.ref (nq_ad E 0), .int x1, .int x2, .int x3] K M (some (.long r)) K M' :=
  nq_met (own := RX9) (cc := cX9_heirs) (maxL := 11) (ret := (some .long)) (by decide) rfl rfl (Nat.le_of_ble_eq_true rfl) (fun X hX hr => mX9_heirs hL hX hr h)

theorem mmX9_goods_c295 : Cond.constantLong RX9 295 (99999) ∈ wsX9_goods := by decide +kernel
theorem mmX9_goods_c89 : Cond.constantLong RX9 89 (99) ∈ wsX9_goods := by decide +kernel
theorem inX9_goods_9 : ∀ w ∈ u_ws RX9 TX9 23, w ∈ wsX9_goods := by
  intro w h; unfold wsX9_goods; simp only [List.mem_cons, List.mem_append]; simp only [h, true_or, or_true]
theorem lkX9_goods_7 : Cond.fieldLink RX9 7 (TX9 0).1 (TX9 0).2.1 (TX9 0).2.2.1 ∈ wsX9_goods := by decide +kernel
def fX9_goods_B77 (x3 : Int32) (x4 : Int32) (x5 : Int32) (x6 : Int32) (M : Mem) : Option ((Int32 × Int32) ⊕ (Int32)) :=
  if x4 ≤ x6 then
  (some (.inr x5))
  else
  ((nq_dv (x5 * x3) (100 : Int32)).bind fun v28 =>
  nq_lt ((x5 - v28)) fun v29 =>
  nq_lt (x6 + (1 : Int32)) fun v30 =>
  some (.inl (v29, v30)))
set_option maxHeartbeats 4000000 in
theorem mX9_goods_B77 {X : Cx} {E : Ev} {l : Launch} {K : List Sh} {x3 : Int32} {x4 : Int32} {x5 : Int32} {x6 : Int32} {M : Mem} (hL : nq_atModel E K) (hX : nq_OK X E l (nq_rm 5) cX9_goods 7 RX9 wsX9_goods) {x : (Int32 × Int32) ⊕ (Int32)} (hc : ∀ s' : Int32 × Int32, x = .inl s' → nq_G X E 7 77 [(3, .int x3), (4, .int x4), (5, .int s'.1), (6, .int s'.2)] [] K M) (he : ∀ s' : Int32, x = .inr s' → nq_G X E 7 102 [(5, .int s')] [] K M) (h : fX9_goods_B77 x3 x4 x5 x6 M = some x) : nq_G X E 7 77 [(3, .int x3), (4, .int x4), (5, .int x5), (6, .int x6)] [] K M := by
  unfold fX9_goods_B77 at h
  refine nq_iload hX 3 rfl dX9_goods_77 ?_
  refine nq_iload hX 1 rfl dX9_goods_79 ?_
  refine nq_icmp_ge hX (tgt := 102) (by decide) dX9_goods_81 (fun c27 => ?_) (fun c27 => ?_)
  · rw [if_pos c27] at h
    refine nq_sub (lv' := [(5, .int x5)]) [2] rfl ?_
    exact he x5 (nq_sE h).symm
  · rw [if_neg c27] at h
    refine nq_iload hX 2 rfl dX9_goods_84 ?_
    refine nq_iload hX 2 rfl dX9_goods_86 ?_
    refine nq_iload_n hX rfl 0 rfl dX9_goods_88 ?_
    refine nq_imul hX dX9_goods_89 ?_
    refine nq_bipush hX (v := 100) (by decide) dX9_goods_90 ?_
    obtain ⟨v28, e28, hn28, h⟩ := nq_ifE h
    refine nq_idiv hX hn28 e28 dX9_goods_92 ?_
    refine nq_isub hX dX9_goods_93 ?_
    obtain ⟨v29, e29, h⟩ := nq_ltE h
    refine nq_istore hX (lv' := [(5, .int v29), (3, .int x3), (4, .int x4), (6, .int x6)]) (by decide) e29 rfl dX9_goods_94 ?_
    obtain ⟨v30, e30, h⟩ := nq_ltE h
    refine nq_iinc hX (lv' := [(6, .int v30), (5, .int v29), (3, .int x3), (4, .int x4)]) (j := 3) rfl (e30.trans rfl) (by decide) rfl dX9_goods_96 ?_
    refine nq_goto hX (tgt := 77) (by decide) dX9_goods_99 ?_
    refine nq_sub (lv' := [(3, .int x3), (4, .int x4), (5, .int v29), (6, .int v30)]) [2, 3, 1, 0] rfl ?_
    exact hc (v29, v30) (nq_sE h).symm
def fX9_goods_L102 (x5 : Int32) (M : Mem) : Option (Int32 × Mem) :=
  some (x5, M)
set_option maxHeartbeats 4000000 in
theorem mX9_goods_L102 {X : Cx} {E : Ev} {l : Launch} {K : List Sh} {x5 : Int32} {M : Mem} {r : Int32} {M' : Mem} (hL : nq_atModel E K) (hX : nq_OK X E l (nq_rm 5) cX9_goods 7 RX9 wsX9_goods) (hr : nq_RT X E (some .int) (some (.int r)) K M') (h : fX9_goods_L102 x5 M = some (r, M')) : nq_G X E 7 102 [(5, .int x5)] [] K M := by
  unfold fX9_goods_L102 at h
  refine nq_iload hX 0 rfl dX9_goods_102 ?_
  obtain ⟨rfl, rfl⟩ := nq_sE2 h; exact nq_iret hX hr dX9_goods_104
def fX9_goods_L77 (x3 : Int32) (x4 : Int32) (x5 : Int32) (x6 : Int32) (M : Mem) : Option (Int32 × Mem) :=
  (nq_lp (fun s : Int32 × Int32 => fX9_goods_B77 x3 x4 s.1 s.2 M) nq_fuel (x5, x6)).bind (fun e => fX9_goods_L102 e M)
set_option maxHeartbeats 4000000 in
theorem mX9_goods_L77 {X : Cx} {E : Ev} {l : Launch} {K : List Sh} {x3 : Int32} {x4 : Int32} {x5 : Int32} {x6 : Int32} {M : Mem} {r : Int32} {M' : Mem} (hL : nq_atModel E K) (hX : nq_OK X E l (nq_rm 5) cX9_goods 7 RX9 wsX9_goods) (hr : nq_RT X E (some .int) (some (.int r)) K M') (h : fX9_goods_L77 x3 x4 x5 x6 M = some (r, M')) : nq_G X E 7 77 [(3, .int x3), (4, .int x4), (5, .int x5), (6, .int x6)] [] K M := by
  unfold fX9_goods_L77 at h
  obtain ⟨e, h1, h⟩ := nq_bE h
  have key : ∀ (ex : Int32), nq_lp (fun s : Int32 × Int32 => fX9_goods_B77 x3 x4 s.1 s.2 M) nq_fuel (x5, x6) = some ex → (∀ e, ex = e → nq_G X E 7 102 [(5, .int e)] [] K M) → nq_G X E 7 77 [(3, .int x3), (4, .int x4), (5, .int ((x5, x6).1)), (6, .int ((x5, x6).2))] [] K M := by
    intro ex h1 hE
    refine nq_lpE (P := fun s : Int32 × Int32 => nq_G X E 7 77 [(3, .int x3), (4, .int x4), (5, .int s.1), (6, .int s.2)] [] K M) (r := ex) ?_ nq_fuel (x5, x6) h1
    intro s xx hx1 hc1 he1
    exact mX9_goods_B77 hL hX hc1 (fun e q => hE e (he1 _ q).symm) hx1
  refine key e h1 (fun e q => ?_)
  subst q
  exact mX9_goods_L102 hL hX hr h
def fX9_goods (x1 : Int32) (x2 : Int32) (x3 : Int32) (M : Mem) : Option (Int32 × Mem) :=
  (fX9_areFt x1 M).bind fun v2 =>
  if v2 = 0 then
  (nq_b2 (fX9_finds (1 : Int32) M) fun v5 M6 =>
  some (v5, M6))
  else
  ((fX9_in x2.toInt64 (0 : Int64) (99999 : Int64) M).bind fun v8 =>
  if v8 = 0 then
  (nq_b2 (fX9_finds (1 : Int32) M) fun v11 M12 =>
  some (v11, M12))
  else
  ((fX9_in x3.toInt64 (0 : Int64) (99 : Int64) M).bind fun v14 =>
  if v14 = 0 then
  (nq_b2 (fX9_finds (1 : Int32) M) fun v17 M18 =>
  some (v17, M18))
  else
  ((nq_dv x1 (10 : Int32)).bind fun v19 =>
  (nq_rem x1 (10 : Int32)).bind fun v20 =>
  nq_b2 (fX9_wayOf v19 v20 M) fun v22 M23 =>
  (nq_ag (M23 1) 1250 (6 : Int32)).bind fun v24 =>
  nq_lt ((v22 * v24)) fun v25 =>
  if 0 ≤ v25 then
  (fX9_goods_L77 x3 v25 x2 (0 : Int32) M23)
  else
  (nq_b2 (fX9_finds (2 : Int32) M23) fun v32 M33 =>
  some (v32, M33)))))
set_option maxHeartbeats 4000000 in
theorem mX9_goods {X : Cx} {E : Ev} {l : Launch} {K : List Sh} {x1 : Int32} {x2 : Int32} {x3 : Int32} {M : Mem} {r : Int32} {M' : Mem} (hL : nq_atModel E K) (hX : nq_OK X E l (nq_rm 5) cX9_goods 7 RX9 wsX9_goods) (hr : nq_RT X E (some .int) (some (.int r)) K M') (h : fX9_goods x1 x2 x3 M = some (r, M')) : nq_G X E 7 0 [(0, .ref (nq_ad E 0)), (1, .int x1), (2, .int x2), (3, .int x3)] [] K M := by
  unfold fX9_goods at h
  refine nq_aload_n hX rfl 0 rfl dX9_goods_0 ?_
  refine nq_iload_n hX rfl 1 rfl dX9_goods_1 ?_
  obtain ⟨v2, hc1, h⟩ := nq_bE h
  refine nq_callVi hX (tX9_areFt hL hc1) gX9_goods_X9_areFt rfl rfl dsX9_areFt (by decide) (nq_Model_0 hL) rfl rfl (Nat.le_of_ble_eq_true rfl) dX9_goods_2 ?_
  refine nq_if_eq hX (tgt := 32) (by decide) dX9_goods_5 (fun c3 => ?_) (fun c3 => ?_)
  · rw [if_pos c3] at h
    refine nq_aload_n hX rfl 0 rfl dX9_goods_32 ?_
    refine nq_iconst hX (v := 1) (by decide) dX9_goods_33 ?_
    obtain ⟨v5, M6, hc4, h⟩ := nq_b2E h
    refine nq_callVi hX (tX9_finds hL hc4) gX9_goods_X9_finds rfl rfl dsX9_finds (by decide) (nq_Model_0 hL) rfl rfl (Nat.le_of_ble_eq_true rfl) dX9_goods_34 ?_
    obtain ⟨rfl, rfl⟩ := nq_sE2 h; exact nq_iret hX hr dX9_goods_37
  · rw [if_neg c3] at h
    refine nq_iload_n hX rfl 2 rfl dX9_goods_8 ?_
    refine nq_i2l hX dX9_goods_9 ?_
    refine nq_lconst hX (v := 0) (by decide) dX9_goods_10 ?_
    refine nq_ldc2 hX (v := 99999) mmX9_goods_c295 dX9_goods_11 ?_
    obtain ⟨v8, hc7, h⟩ := nq_bE h
    refine nq_callSi hX (tX9_in  hc7) gX9_goods_X9_in rfl rfl dsX9_in (by decide) rfl (Nat.le_of_ble_eq_true rfl) dX9_goods_14 ?_
    refine nq_if_eq hX (tgt := 32) (by decide) dX9_goods_17 (fun c9 => ?_) (fun c9 => ?_)
    · rw [if_pos c9] at h
      refine nq_aload_n hX rfl 0 rfl dX9_goods_32 ?_
      refine nq_iconst hX (v := 1) (by decide) dX9_goods_33 ?_
      obtain ⟨v11, M12, hc10, h⟩ := nq_b2E h
      refine nq_callVi hX (tX9_finds hL hc10) gX9_goods_X9_finds rfl rfl dsX9_finds (by decide) (nq_Model_0 hL) rfl rfl (Nat.le_of_ble_eq_true rfl) dX9_goods_34 ?_
      obtain ⟨rfl, rfl⟩ := nq_sE2 h; exact nq_iret hX hr dX9_goods_37
    · rw [if_neg c9] at h
      refine nq_iload_n hX rfl 3 rfl dX9_goods_20 ?_
      refine nq_i2l hX dX9_goods_21 ?_
      refine nq_lconst hX (v := 0) (by decide) dX9_goods_22 ?_
      refine nq_ldc2 hX (v := 99) mmX9_goods_c89 dX9_goods_23 ?_
      obtain ⟨v14, hc13, h⟩ := nq_bE h
      refine nq_callSi hX (tX9_in  hc13) gX9_goods_X9_in rfl rfl dsX9_in (by decide) rfl (Nat.le_of_ble_eq_true rfl) dX9_goods_26 ?_
      refine nq_if_ne hX (tgt := 38) (by decide) dX9_goods_29 (fun c15 => ?_) (fun c15 => ?_)
      · rw [if_pos c15] at h
        refine nq_aload_n hX rfl 0 rfl dX9_goods_32 ?_
        refine nq_iconst hX (v := 1) (by decide) dX9_goods_33 ?_
        obtain ⟨v17, M18, hc16, h⟩ := nq_b2E h
        refine nq_callVi hX (tX9_finds hL hc16) gX9_goods_X9_finds rfl rfl dsX9_finds (by decide) (nq_Model_0 hL) rfl rfl (Nat.le_of_ble_eq_true rfl) dX9_goods_34 ?_
        obtain ⟨rfl, rfl⟩ := nq_sE2 h; exact nq_iret hX hr dX9_goods_37
      · rw [if_neg c15] at h
        refine nq_aload_n hX rfl 0 rfl dX9_goods_38 ?_
        refine nq_iload_n hX rfl 1 rfl dX9_goods_39 ?_
        refine nq_bipush hX (v := 10) (by decide) dX9_goods_40 ?_
        obtain ⟨v19, e19, hn19, h⟩ := nq_ifE h
        refine nq_idiv hX hn19 e19 dX9_goods_42 ?_
        refine nq_iload_n hX rfl 1 rfl dX9_goods_43 ?_
        refine nq_bipush hX (v := 10) (by decide) dX9_goods_44 ?_
        obtain ⟨v20, e20, hn20, h⟩ := nq_ifE h
        refine nq_irem hX hn20 e20 dX9_goods_46 ?_
        obtain ⟨v22, M23, hc21, h⟩ := nq_b2E h
        refine nq_callVi hX (tX9_wayOf hL hc21) gX9_goods_X9_wayOf rfl rfl dsX9_wayOf (by decide) (nq_Model_0 hL) rfl rfl (Nat.le_of_ble_eq_true rfl) dX9_goods_47 ?_
        refine nq_aload_n hX rfl 0 rfl dX9_goods_50 ?_
        refine nq_getr (v := .ref (nq_ad E 1)) hX inX9_goods_9 (nq_Model_0 hL) rfl 0 (by decide) lkX9_goods_7 _ rfl rfl dX9_goods_51 ?_
        refine nq_bipush hX (v := 6) (by decide) dX9_goods_54 ?_
        obtain ⟨v24, e24, hi24, h⟩ := nq_agE h
        refine nq_iald hX (nq_Model_d hL) e24 hi24 dX9_goods_56 ?_
        refine nq_imul hX dX9_goods_57 ?_
        obtain ⟨v25, e25, h⟩ := nq_ltE h
        refine nq_istore hX (lv' := [(4, .int v25), (0, .ref (nq_ad E 0)), (1, .int x1), (2, .int x2), (3, .int x3)]) (by decide) e25 rfl dX9_goods_58 ?_
        refine nq_iload hX 0 rfl dX9_goods_60 ?_
        refine nq_if_ge hX (tgt := 71) (by decide) dX9_goods_62 (fun c26 => ?_) (fun c26 => ?_)
        · rw [if_pos c26] at h
          refine nq_iload_n hX rfl 3 rfl dX9_goods_71 ?_
          refine nq_istore hX (lv' := [(5, .int x2), (4, .int v25), (0, .ref (nq_ad E 0)), (1, .int x1), (2, .int x2), (3, .int x3)]) (by decide) rfl rfl dX9_goods_72 ?_
          refine nq_iconst hX (v := 0) (by decide) dX9_goods_74 ?_
          refine nq_istore hX (lv' := [(6, .int (0 : Int32)), (5, .int x2), (4, .int v25), (0, .ref (nq_ad E 0)), (1, .int x1), (2, .int x2), (3, .int x3)]) (by decide) rfl rfl dX9_goods_75 ?_
          refine nq_sub (lv' := [(3, .int x3), (4, .int v25), (5, .int x2), (6, .int (0 : Int32))]) [6, 2, 1, 0] rfl ?_
          exact mX9_goods_L77 hL hX hr h
        · rw [if_neg c26] at h
          refine nq_aload_n hX rfl 1 rfl dX9_goods_65 ?_
          refine nq_iconst hX (v := 2) (by decide) dX9_goods_66 ?_
          obtain ⟨v32, M33, hc31, h⟩ := nq_b2E h
          refine nq_callVi hX (tX9_finds hL hc31) gX9_goods_X9_finds rfl rfl dsX9_finds (by decide) (nq_Model_0 hL) rfl rfl (Nat.le_of_ble_eq_true rfl) dX9_goods_67 ?_
          obtain ⟨rfl, rfl⟩ := nq_sE2 h; exact nq_iret hX hr dX9_goods_70
theorem dsX9_goods : yX9_goods.cls ≠ "java/lang/invoke/MethodHandle" ∧ yX9_goods.cls ≠ "java/lang/invoke/VarHandle" ∧ (parseMethodDescriptor yX9_goods.desc).map (fun d => d.parameters.length) = some 3 := by decide +kernel
theorem tX9_goods {l : Launch} {E : Ev} {K : List Sh} {x1 : Int32} {x2 : Int32} {x3 : Int32} {M : Mem} {r : Int32} {M' : Mem} (hL : nq_atModel E K) (h : fX9_goods x1 x2 x3 M = some (r, M')) : nq_MA l E yX9_goods wsX9_goods (nq_rm 5) [.ref (nq_ad E 0), .int x1, .int x2, .int x3] K M (some (.int r)) K M' :=
  nq_met (own := RX9) (cc := cX9_goods) (maxL := 7) (ret := (some .int)) (by decide) rfl rfl (Nat.le_of_ble_eq_true rfl) (fun X hX hr => mX9_goods hL hX hr h)

theorem inX9_seed_9 : ∀ w ∈ u_ws RX9 TX9 23, w ∈ wsX9_seed := by
  intro w h; unfold wsX9_seed; simp only [List.mem_cons, List.mem_append]; simp only [h, true_or, or_true]
theorem lkX9_seed_7 : Cond.fieldLink RX9 7 (TX9 0).1 (TX9 0).2.1 (TX9 0).2.2.1 ∈ wsX9_seed := by decide +kernel
def fX9_seed (x1 : Int32) (M : Mem) : Option (Int32 × Mem) :=
  (nq_ag (M 1) 1250 (4 : Int32)).bind fun v1 =>
  (nq_as M 1 1250 (4 : Int32) x1).bind fun M2 =>
  some (v1, M2)
set_option maxHeartbeats 4000000 in
theorem mX9_seed {X : Cx} {E : Ev} {l : Launch} {K : List Sh} {x1 : Int32} {M : Mem} {r : Int32} {M' : Mem} (hL : nq_atModel E K) (hX : nq_OK X E l (nq_rm 1) cX9_seed 3 RX9 wsX9_seed) (hr : nq_RT X E (some .int) (some (.int r)) K M') (h : fX9_seed x1 M = some (r, M')) : nq_G X E 3 0 [(0, .ref (nq_ad E 0)), (1, .int x1)] [] K M := by
  unfold fX9_seed at h
  refine nq_aload_n hX rfl 0 rfl dX9_seed_0 ?_
  refine nq_getr (v := .ref (nq_ad E 1)) hX inX9_seed_9 (nq_Model_0 hL) rfl 0 (by decide) lkX9_seed_7 _ rfl rfl dX9_seed_1 ?_
  refine nq_iconst hX (v := 4) (by decide) dX9_seed_4 ?_
  obtain ⟨v1, e1, hi1, h⟩ := nq_agE h
  refine nq_iald hX (nq_Model_d hL) e1 hi1 dX9_seed_5 ?_
  refine nq_istore_n hX (lv' := [(2, .int v1), (0, .ref (nq_ad E 0)), (1, .int x1)]) rfl (by decide) rfl rfl dX9_seed_6 ?_
  refine nq_aload_n hX rfl 1 rfl dX9_seed_7 ?_
  refine nq_getr (v := .ref (nq_ad E 1)) hX inX9_seed_9 (nq_Model_0 hL) rfl 0 (by decide) lkX9_seed_7 _ rfl rfl dX9_seed_8 ?_
  refine nq_iconst hX (v := 4) (by decide) dX9_seed_11 ?_
  refine nq_iload_n hX rfl 2 rfl dX9_seed_12 ?_
  obtain ⟨M2, e2, hi2, h⟩ := nq_asE h
  refine nq_iast hX (nq_Model_d hL) e2 hi2 dX9_seed_13 ?_
  refine nq_iload_n hX rfl 0 rfl dX9_seed_14 ?_
  obtain ⟨rfl, rfl⟩ := nq_sE2 h; exact nq_iret hX hr dX9_seed_15
theorem dsX9_seed : yX9_seed.cls ≠ "java/lang/invoke/MethodHandle" ∧ yX9_seed.cls ≠ "java/lang/invoke/VarHandle" ∧ (parseMethodDescriptor yX9_seed.desc).map (fun d => d.parameters.length) = some 1 := by decide +kernel
theorem tX9_seed {l : Launch} {E : Ev} {K : List Sh} {x1 : Int32} {M : Mem} {r : Int32} {M' : Mem} (hL : nq_atModel E K) (h : fX9_seed x1 M = some (r, M')) : nq_MA l E yX9_seed wsX9_seed (nq_rm 1) [.ref (nq_ad E 0), .int x1] K M (some (.int r)) K M' :=
  nq_met (own := RX9) (cc := cX9_seed) (maxL := 3) (ret := (some .int)) (by decide) rfl rfl (Nat.le_of_ble_eq_true rfl) (fun X hX hr => mX9_seed hL hX hr h)

theorem inX9_ran_9 : ∀ w ∈ u_ws RX9 TX9 23, w ∈ wsX9_ran := by
  intro w h; unfold wsX9_ran; simp only [List.mem_cons, List.mem_append]; simp only [h, true_or, or_true]
theorem lkX9_ran_297 : Cond.fieldLink RX9 297 (TX9 17).1 (TX9 17).2.1 (TX9 17).2.2.1 ∈ wsX9_ran := by decide +kernel
theorem lkX9_ran_38 : Cond.fieldLink RX9 38 (TX9 16).1 (TX9 16).2.1 (TX9 16).2.2.1 ∈ wsX9_ran := by decide +kernel
def fX9_ran (x1 : Int32) (M : Mem) : Option (Mem) :=
  nq_lt (M 0 17) fun v1 =>
  if (40 : Int32) ≤ v1 then
  (some M)
  else
  (nq_lt (M 0 17) fun v3 =>
  (nq_as M 10 40 v3 x1).bind fun M4 =>
  nq_lt (M4 0 17) fun v5 =>
  nq_lt (nq_wr M4 0 17 (v5 + (1 : Int32))) fun M6 =>
  some M6)
set_option maxHeartbeats 4000000 in
theorem mX9_ran {X : Cx} {E : Ev} {l : Launch} {K : List Sh} {x1 : Int32} {M : Mem} {M' : Mem} (hL : nq_atModel E K) (hX : nq_OK X E l (nq_rm 1) cX9_ran 2 RX9 wsX9_ran) (hr : nq_RT X E none none K M') (h : fX9_ran x1 M = some M') : nq_G X E 2 0 [(0, .ref (nq_ad E 0)), (1, .int x1)] [] K M := by
  unfold fX9_ran at h
  refine nq_aload_n hX rfl 0 rfl dX9_ran_0 ?_
  obtain ⟨v1, e1, h⟩ := nq_ltE h
  refine nq_geti hX inX9_ran_9 (nq_Model_0 hL) rfl 17 (by decide) lkX9_ran_297 rfl e1 dX9_ran_1 ?_
  refine nq_bipush hX (v := 40) (by decide) dX9_ran_4 ?_
  refine nq_icmp_ge hX (tgt := 29) (by decide) dX9_ran_6 (fun c2 => ?_) (fun c2 => ?_)
  · rw [if_pos c2] at h
    obtain rfl := nq_sE1 h; exact nq_vret hX hr dX9_ran_29
  · rw [if_neg c2] at h
    refine nq_aload_n hX rfl 0 rfl dX9_ran_9 ?_
    refine nq_getr (v := .ref (nq_ad E 10)) hX inX9_ran_9 (nq_Model_0 hL) rfl 16 (by decide) lkX9_ran_38 _ rfl rfl dX9_ran_10 ?_
    refine nq_aload_n hX rfl 0 rfl dX9_ran_13 ?_
    obtain ⟨v3, e3, h⟩ := nq_ltE h
    refine nq_geti hX inX9_ran_9 (nq_Model_0 hL) rfl 17 (by decide) lkX9_ran_297 rfl e3 dX9_ran_14 ?_
    refine nq_iload_n hX rfl 1 rfl dX9_ran_17 ?_
    obtain ⟨M4, e4, hi4, h⟩ := nq_asE h
    refine nq_iast hX (nq_Model_traced hL) e4 hi4 dX9_ran_18 ?_
    refine nq_aload_n hX rfl 0 rfl dX9_ran_19 ?_
    refine nq_dup hX rfl dX9_ran_20 ?_
    obtain ⟨v5, e5, h⟩ := nq_ltE h
    refine nq_geti hX inX9_ran_9 (nq_Model_0 hL) rfl 17 (by decide) lkX9_ran_297 rfl e5 dX9_ran_21 ?_
    refine nq_iconst hX (v := 1) (by decide) dX9_ran_24 ?_
    refine nq_iadd hX dX9_ran_25 ?_
    obtain ⟨M6, eM6, h⟩ := nq_ltE h
    refine nq_puti hX inX9_ran_9 tyX9 tyX9_ok nmX9 (nq_Model_0 hL) rfl 17 (by decide) lkX9_ran_297 rfl rfl rfl rfl rfl eM6 dX9_ran_26 ?_
    obtain rfl := nq_sE1 h; exact nq_vret hX hr dX9_ran_29
theorem dsX9_ran : yX9_ran.cls ≠ "java/lang/invoke/MethodHandle" ∧ yX9_ran.cls ≠ "java/lang/invoke/VarHandle" ∧ (parseMethodDescriptor yX9_ran.desc).map (fun d => d.parameters.length) = some 1 := by decide +kernel
theorem tX9_ran {l : Launch} {E : Ev} {K : List Sh} {x1 : Int32} {M : Mem} {M' : Mem} (hL : nq_atModel E K) (h : fX9_ran x1 M = some M') : nq_MA l E yX9_ran wsX9_ran (nq_rm 1) [.ref (nq_ad E 0), .int x1] K M none K M' :=
  nq_met (own := RX9) (cc := cX9_ran) (maxL := 2) (ret := none) (by decide) rfl rfl (Nat.le_of_ble_eq_true rfl) (fun X hX hr => mX9_ran hL hX hr h)

def fX9_above (x0 : Int32) (M : Mem) : Option (Int32) :=
  if x0 = (2 : Int32) then
  (some (1 : Int32))
  else
  (if x0 = (5 : Int32) then
  (some (3 : Int32))
  else
  (some (0 : Int32)))
set_option maxHeartbeats 4000000 in
theorem mX9_above {X : Cx} {E : Ev} {l : Launch} {K : List Sh} {x0 : Int32} {M : Mem} {r : Int32}  (hX : nq_OK X E l (nq_rm 1) cX9_above 1 RX9 wsX9_above) (hr : nq_RT X E (some .int) (some (.int r)) K M) (h : fX9_above x0 M = some r) : nq_G X E 1 0 [(0, .int x0)] [] K M := by
  unfold fX9_above at h
  refine nq_iload_n hX rfl 0 rfl dX9_above_0 ?_
  refine nq_iconst hX (v := 2) (by decide) dX9_above_1 ?_
  refine nq_icmp_ne hX (tgt := 9) (by decide) dX9_above_2 (fun c1 => ?_) (fun c1 => ?_)
  · rw [if_pos c1] at h
    refine nq_iconst hX (v := 1) (by decide) dX9_above_5 ?_
    refine nq_goto hX (tgt := 19) (by decide) dX9_above_6 ?_
    obtain rfl := nq_sE1 h; exact nq_iret hX hr dX9_above_19
  · rw [if_neg c1] at h
    refine nq_iload_n hX rfl 0 rfl dX9_above_9 ?_
    refine nq_iconst hX (v := 5) (by decide) dX9_above_10 ?_
    refine nq_icmp_ne hX (tgt := 18) (by decide) dX9_above_11 (fun c2 => ?_) (fun c2 => ?_)
    · rw [if_pos c2] at h
      refine nq_iconst hX (v := 3) (by decide) dX9_above_14 ?_
      refine nq_goto hX (tgt := 19) (by decide) dX9_above_15 ?_
      obtain rfl := nq_sE1 h; exact nq_iret hX hr dX9_above_19
    · rw [if_neg c2] at h
      refine nq_iconst hX (v := 0) (by decide) dX9_above_18 ?_
      obtain rfl := nq_sE1 h; exact nq_iret hX hr dX9_above_19
theorem dsX9_above : yX9_above.cls ≠ "java/lang/invoke/MethodHandle" ∧ yX9_above.cls ≠ "java/lang/invoke/VarHandle" ∧ (parseMethodDescriptor yX9_above.desc).map (fun d => d.parameters.length) = some 1 := by decide +kernel
theorem tX9_above {l : Launch} {E : Ev} {K : List Sh} {x0 : Int32} {M : Mem} {r : Int32}  (h : fX9_above x0 M = some r) : nq_MA l E yX9_above wsX9_above (nq_rm 1) [.int x0] K M (some (.int r)) K M :=
  nq_met (own := RX9) (cc := cX9_above) (maxL := 1) (ret := (some .int)) (by decide) rfl rfl (Nat.le_of_ble_eq_true rfl) (fun X hX hr => mX9_above  hX hr h)

theorem inX9_own_9 : ∀ w ∈ u_ws RX9 TX9 23, w ∈ wsX9_own := by
  intro w h; unfold wsX9_own; simp only [List.mem_cons, List.mem_append]; simp only [h, true_or, or_true]
theorem lkX9_own_300 : Cond.fieldLink RX9 300 (TX9 18).1 (TX9 18).2.1 (TX9 18).2.2.1 ∈ wsX9_own := by decide +kernel
def fX9_own (M : Mem) : Option (Int32) :=
  nq_lt (M 0 18) fun v1 =>
  (fX9_wo v1 (0 : Int32) M).bind fun v3 =>
  some v3
set_option maxHeartbeats 4000000 in
theorem mX9_own {X : Cx} {E : Ev} {l : Launch} {K : List Sh} {M : Mem} {r : Int32} (hL : nq_atModel E K) (hX : nq_OK X E l (nq_rm 2) cX9_own 1 RX9 wsX9_own) (hr : nq_RT X E (some .int) (some (.int r)) K M) (h : fX9_own M = some r) : nq_G X E 1 0 [(0, .ref (nq_ad E 0))] [] K M := by
  unfold fX9_own at h
  refine nq_aload_n hX rfl 0 rfl dX9_own_0 ?_
  refine nq_aload_n hX rfl 0 rfl dX9_own_1 ?_
  obtain ⟨v1, e1, h⟩ := nq_ltE h
  refine nq_geti hX inX9_own_9 (nq_Model_0 hL) rfl 18 (by decide) lkX9_own_300 rfl e1 dX9_own_2 ?_
  refine nq_iconst hX (v := 0) (by decide) dX9_own_5 ?_
  obtain ⟨v3, hc2, h⟩ := nq_bE h
  refine nq_callVi hX (tX9_wo hL hc2) gX9_own_X9_wo rfl rfl dsX9_wo (by decide) (nq_Model_0 hL) rfl rfl (Nat.le_of_ble_eq_true rfl) dX9_own_6 ?_
  obtain rfl := nq_sE1 h; exact nq_iret hX hr dX9_own_9
theorem dsX9_own : yX9_own.cls ≠ "java/lang/invoke/MethodHandle" ∧ yX9_own.cls ≠ "java/lang/invoke/VarHandle" ∧ (parseMethodDescriptor yX9_own.desc).map (fun d => d.parameters.length) = some 0 := by decide +kernel
theorem tX9_own {l : Launch} {E : Ev} {K : List Sh} {M : Mem} {r : Int32} (hL : nq_atModel E K) (h : fX9_own M = some r) : nq_MA l E yX9_own wsX9_own (nq_rm 2) [.ref (nq_ad E 0)] K M (some (.int r)) K M :=
  nq_met (own := RX9) (cc := cX9_own) (maxL := 1) (ret := (some .int)) (by decide) rfl rfl (Nat.le_of_ble_eq_true rfl) (fun X hX hr => mX9_own hL hX hr h)

