/-! printed by dec.py: World 0 -/
theorem inX7_send_7 : ∀ w ∈ u_ws RX7 TX7 17, w ∈ wsX7_send := by
  intro w h; unfold wsX7_send; simp only [List.mem_cons, List.mem_append]; simp only [h, true_or, or_true]
theorem lkX7_send_63 : Cond.fieldLink RX7 63 (TX7 13).1 (TX7 13).2.1 (TX7 13).2.2.1 ∈ wsX7_send := by decide +kernel
theorem mmX7_send_c82 : Cond.constant RX7 82 (1103515245) ∈ wsX7_send := by decide +kernel
theorem lkX7_send_60 : Cond.fieldLink RX7 60 (TX7 12).1 (TX7 12).2.1 (TX7 12).2.2.1 ∈ wsX7_send := by decide +kernel
theorem mmX7_send_k83 : Cond.methodLink RX7 83 Lib.Math.max.name ∈ wsX7_send := by decide +kernel
theorem mmX7_send_stmax : Cond.static Lib.Math.max.name ∈ wsX7_send := by decide +kernel
theorem mmX7_send_im : Cond.initialized "java/lang/Math" ∈ wsX7_send := by decide +kernel
theorem mmX7_send_cdmax : Cond.code Lib.Math.max.name Lib.Math.max.code 2 (some .int) ∈ wsX7_send := by decide +kernel
theorem lkX7_send_50 : Cond.fieldLink RX7 50 (TX7 9).1 (TX7 9).2.1 (TX7 9).2.2.1 ∈ wsX7_send := by decide +kernel
theorem lkX7_send_12 : Cond.fieldLink RX7 12 (TX7 0).1 (TX7 0).2.1 (TX7 0).2.2.1 ∈ wsX7_send := by decide +kernel
theorem lkX7_send_21 : Cond.fieldLink RX7 21 (TX7 1).1 (TX7 1).2.1 (TX7 1).2.2.1 ∈ wsX7_send := by decide +kernel
theorem lkX7_send_54 : Cond.fieldLink RX7 54 (TX7 10).1 (TX7 10).2.1 (TX7 10).2.2.1 ∈ wsX7_send := by decide +kernel
def fX7_send_L76 (p : Nat) (x1 : Int32) (x2 : Int32) (x3 : Int32) (x4 : Int32) (x5 : Int32) (s0 : Int32) (s1 : Int32) (M : Mem) : Option (Int32 × Mem) :=
  nq_lt ((s1 + s0)) fun v15 =>
  nq_lt (M p 9) fun v16 =>
  if x5 = 0 then
  (nq_lt (M p 10) fun v18 =>
  nq_b2 (fX0_add (p + 4) x1 (((10 : Int32) * x2) + x3) x4 v16 v15 v18 M) fun v20 M21 =>
  some (v20, M21))
  else
  (nq_lt (M p 10) fun v22 =>
  nq_b2 (fX0_add (p + 4) x1 (((10 : Int32) * x2) + x3) x4 v16 (-1 : Int32) v22 M) fun v24 M25 =>
  some (v24, M25))
set_option maxHeartbeats 4000000 in
theorem mX7_send_L76 {X : Cx} {E : Ev} {l : Launch} {K : List Sh} {p : Nat} {x1 : Int32} {x2 : Int32} {x3 : Int32} {x4 : Int32} {x5 : Int32} {s0 : Int32} {s1 : Int32} {M : Mem} {r : Int32} {M' : Mem} (hL : nq_atWorld E K p) (hX : nq_OK X E l (nq_rm 4) cX7_send 7 RX7 wsX7_send) (hr : nq_RT X E (some .int) (some (.int r)) K M') (h : fX7_send_L76 p x1 x2 x3 x4 x5 s0 s1 M = some (r, M')) : nq_G X E 7 76 [(0, .ref (nq_ad E p)), (1, .int x1), (2, .int x2), (3, .int x3), (4, .int x4), (5, .int x5)] [.int s0, .int s1] K M := by
  unfold fX7_send_L76 at h
  refine nq_iadd hX dX7_send_76 ?_
  obtain ⟨v15, e15, h⟩ := nq_ltE h
  refine nq_istore hX (lv' := [(6, .int v15), (0, .ref (nq_ad E p)), (1, .int x1), (2, .int x2), (3, .int x3), (4, .int x4), (5, .int x5)]) (by decide) e15 rfl dX7_send_77 ?_
  refine nq_aload_n hX rfl 1 rfl dX7_send_79 ?_
  refine nq_getr (v := .ref (nq_ad E (p + 4))) hX inX7_send_7 (nq_World_0 hL) rfl 1 (by decide) lkX7_send_21 _ rfl rfl dX7_send_80 ?_
  refine nq_iload_n hX rfl 2 rfl dX7_send_83 ?_
  refine nq_bipush hX (v := 10) (by decide) dX7_send_84 ?_
  refine nq_iload_n hX rfl 3 rfl dX7_send_86 ?_
  refine nq_imul hX dX7_send_87 ?_
  refine nq_iload_n hX rfl 4 rfl dX7_send_88 ?_
  refine nq_iadd hX dX7_send_89 ?_
  refine nq_iload hX 5 rfl dX7_send_90 ?_
  refine nq_aload_n hX rfl 1 rfl dX7_send_92 ?_
  obtain ⟨v16, e16, h⟩ := nq_ltE h
  refine nq_geti hX inX7_send_7 (nq_World_0 hL) rfl 9 (by decide) lkX7_send_50 rfl e16 dX7_send_93 ?_
  refine nq_iload hX 6 rfl dX7_send_96 ?_
  refine nq_if_eq hX (tgt := 105) (by decide) dX7_send_98 (fun c17 => ?_) (fun c17 => ?_)
  · rw [if_pos c17] at h
    refine nq_iload hX 0 rfl dX7_send_105 ?_
    refine nq_aload_n hX rfl 1 rfl dX7_send_107 ?_
    obtain ⟨v18, e18, h⟩ := nq_ltE h
    refine nq_geti hX inX7_send_7 (nq_World_0 hL) rfl 10 (by decide) lkX7_send_54 rfl e18 dX7_send_108 ?_
    obtain ⟨v20, M21, hc19, h⟩ := nq_b2E h
    refine nq_callVi hX (tX0_add (nq_World_letters hL) hc19) gX7_send_X0_add rfl rfl dsX0_add (by decide) (nq_Letters_0 (nq_World_letters hL)) rfl rfl (Nat.le_of_ble_eq_true rfl) dX7_send_111 ?_
    obtain ⟨rfl, rfl⟩ := nq_sE2 h; exact nq_iret hX hr dX7_send_114
  · rw [if_neg c17] at h
    refine nq_iconst hX (v := -1) (by decide) dX7_send_101 ?_
    refine nq_goto hX (tgt := 107) (by decide) dX7_send_102 ?_
    refine nq_aload_n hX rfl 1 rfl dX7_send_107 ?_
    obtain ⟨v22, e22, h⟩ := nq_ltE h
    refine nq_geti hX inX7_send_7 (nq_World_0 hL) rfl 10 (by decide) lkX7_send_54 rfl e22 dX7_send_108 ?_
    obtain ⟨v24, M25, hc23, h⟩ := nq_b2E h
    refine nq_callVi hX (tX0_add (nq_World_letters hL) hc23) gX7_send_X0_add rfl rfl dsX0_add (by decide) (nq_Letters_0 (nq_World_letters hL)) rfl rfl (Nat.le_of_ble_eq_true rfl) dX7_send_111 ?_
    obtain ⟨rfl, rfl⟩ := nq_sE2 h; exact nq_iret hX hr dX7_send_114
def fX7_send_L49 (p : Nat) (x1 : Int32) (x2 : Int32) (x3 : Int32) (x4 : Int32) (s0 : Int32) (M : Mem) : Option (Int32 × Mem) :=
  nq_lt (M p 9) fun v11 =>
  (fX2_years (p + 1) x2 x3 M).bind fun v13 =>
  if x1 = (6 : Int32) then
  (fX7_send_L76 p x1 x2 x3 x4 s0 (2 : Int32) (v11 + v13) M)
  else
  (fX7_send_L76 p x1 x2 x3 x4 s0 (0 : Int32) (v11 + v13) M)
set_option maxHeartbeats 4000000 in
theorem mX7_send_L49 {X : Cx} {E : Ev} {l : Launch} {K : List Sh} {p : Nat} {x1 : Int32} {x2 : Int32} {x3 : Int32} {x4 : Int32} {s0 : Int32} {M : Mem} {r : Int32} {M' : Mem} (hL : nq_atWorld E K p) (hX : nq_OK X E l (nq_rm 4) cX7_send 7 RX7 wsX7_send) (hr : nq_RT X E (some .int) (some (.int r)) K M') (h : fX7_send_L49 p x1 x2 x3 x4 s0 M = some (r, M')) : nq_G X E 7 49 [(0, .ref (nq_ad E p)), (1, .int x1), (2, .int x2), (3, .int x3), (4, .int x4)] [.int s0] K M := by
  unfold fX7_send_L49 at h
  refine nq_istore hX (lv' := [(5, .int s0), (0, .ref (nq_ad E p)), (1, .int x1), (2, .int x2), (3, .int x3), (4, .int x4)]) (by decide) rfl rfl dX7_send_49 ?_
  refine nq_aload_n hX rfl 1 rfl dX7_send_51 ?_
  obtain ⟨v11, e11, h⟩ := nq_ltE h
  refine nq_geti hX inX7_send_7 (nq_World_0 hL) rfl 9 (by decide) lkX7_send_50 rfl e11 dX7_send_52 ?_
  refine nq_aload_n hX rfl 1 rfl dX7_send_55 ?_
  refine nq_getr (v := .ref (nq_ad E (p + 1))) hX inX7_send_7 (nq_World_0 hL) rfl 0 (by decide) lkX7_send_12 _ rfl rfl dX7_send_56 ?_
  refine nq_iload_n hX rfl 3 rfl dX7_send_59 ?_
  refine nq_iload_n hX rfl 4 rfl dX7_send_60 ?_
  obtain ⟨v13, hc12, h⟩ := nq_bE h
  refine nq_callVi hX (tX2_years (nq_World_roads hL) hc12) gX7_send_X2_years rfl rfl dsX2_years (by decide) (nq_Roads_0 (nq_World_roads hL)) rfl rfl (Nat.le_of_ble_eq_true rfl) dX7_send_61 ?_
  refine nq_iadd hX dX7_send_64 ?_
  refine nq_iload_n hX rfl 2 rfl dX7_send_65 ?_
  refine nq_bipush hX (v := 6) (by decide) dX7_send_66 ?_
  refine nq_icmp_ne hX (tgt := 75) (by decide) dX7_send_68 (fun c14 => ?_) (fun c14 => ?_)
  · rw [if_pos c14] at h
    refine nq_iconst hX (v := 2) (by decide) dX7_send_71 ?_
    refine nq_goto hX (tgt := 76) (by decide) dX7_send_72 ?_
    refine nq_sub (lv' := [(0, .ref (nq_ad E p)), (1, .int x1), (2, .int x2), (3, .int x3), (4, .int x4), (5, .int s0)]) [1, 2, 3, 4, 5, 0] rfl ?_
    exact mX7_send_L76 hL hX hr h
  · rw [if_neg c14] at h
    refine nq_iconst hX (v := 0) (by decide) dX7_send_75 ?_
    refine nq_sub (lv' := [(0, .ref (nq_ad E p)), (1, .int x1), (2, .int x2), (3, .int x3), (4, .int x4), (5, .int s0)]) [1, 2, 3, 4, 5, 0] rfl ?_
    exact mX7_send_L76 hL hX hr h
def fX7_send (p : Nat) (x1 : Int32) (x2 : Int32) (x3 : Int32) (x4 : Int32) (M : Mem) : Option (Int32 × Mem) :=
  nq_lt (M p 13) fun v1 =>
  nq_lt (nq_wr M p 13 ((v1 * (1103515245 : Int32)) + (12345 : Int32))) fun M2 =>
  nq_lt (M2 p 13) fun v3 =>
  nq_lt (M2 p 12) fun v4 =>
  (nq_rem v4 (10 : Int32)).bind fun v5 =>
  nq_lt (if (1 : Int32) < v5 then v5 else (1 : Int32)) fun v6 =>
  (nq_rem ((v3.toUInt32 >>> ((8 : Int32).toUInt32 &&& Int32.toUInt32 31)).toInt32) v6).bind fun v7 =>
  nq_lt (M2 p 12) fun v8 =>
  (nq_dv v8 (10 : Int32)).bind fun v9 =>
  if v9 ≤ v7 then
  (fX7_send_L49 p x1 x2 x3 x4 (0 : Int32) M2)
  else
  (fX7_send_L49 p x1 x2 x3 x4 (1 : Int32) M2)
set_option maxHeartbeats 4000000 in
theorem mX7_send {X : Cx} {E : Ev} {l : Launch} {K : List Sh} {p : Nat} {x1 : Int32} {x2 : Int32} {x3 : Int32} {x4 : Int32} {M : Mem} {r : Int32} {M' : Mem} (hL : nq_atWorld E K p) (hX : nq_OK X E l (nq_rm 4) cX7_send 7 RX7 wsX7_send) (hr : nq_RT X E (some .int) (some (.int r)) K M') (h : fX7_send p x1 x2 x3 x4 M = some (r, M')) : nq_G X E 7 0 [(0, .ref (nq_ad E p)), (1, .int x1), (2, .int x2), (3, .int x3), (4, .int x4)] [] K M := by
  unfold fX7_send at h
  refine nq_aload_n hX rfl 0 rfl dX7_send_0 ?_
  refine nq_aload_n hX rfl 0 rfl dX7_send_1 ?_
  obtain ⟨v1, e1, h⟩ := nq_ltE h
  refine nq_geti hX inX7_send_7 (nq_World_0 hL) rfl 13 (by decide) lkX7_send_63 rfl e1 dX7_send_2 ?_
  refine nq_ldc hX (v := 1103515245) mmX7_send_c82 dX7_send_5 ?_
  refine nq_imul hX dX7_send_7 ?_
  refine nq_sipush hX (v := 12345) (by decide) dX7_send_8 ?_
  refine nq_iadd hX dX7_send_11 ?_
  obtain ⟨M2, eM2, h⟩ := nq_ltE h
  refine nq_puti hX inX7_send_7 tyX7 tyX7_ok nmX7 (nq_World_0 hL) rfl 13 (by decide) lkX7_send_63 rfl rfl rfl rfl rfl eM2 dX7_send_12 ?_
  refine nq_aload_n hX rfl 0 rfl dX7_send_15 ?_
  obtain ⟨v3, e3, h⟩ := nq_ltE h
  refine nq_geti hX inX7_send_7 (nq_World_0 hL) rfl 13 (by decide) lkX7_send_63 rfl e3 dX7_send_16 ?_
  refine nq_bipush hX (v := 8) (by decide) dX7_send_19 ?_
  refine nq_iushr hX dX7_send_21 ?_
  refine nq_iconst hX (v := 1) (by decide) dX7_send_22 ?_
  refine nq_aload_n hX rfl 0 rfl dX7_send_23 ?_
  obtain ⟨v4, e4, h⟩ := nq_ltE h
  refine nq_geti hX inX7_send_7 (nq_World_0 hL) rfl 12 (by decide) lkX7_send_60 rfl e4 dX7_send_24 ?_
  refine nq_bipush hX (v := 10) (by decide) dX7_send_27 ?_
  obtain ⟨v5, e5, hn5, h⟩ := nq_ifE h
  refine nq_irem hX hn5 e5 dX7_send_29 ?_
  refine nq_mmax hX mmX7_send_k83 mmX7_send_stmax mmX7_send_im mmX7_send_cdmax (by decide) (Nat.le_of_ble_eq_true rfl) dX7_send_30 ?_
  obtain ⟨v6, e6, h⟩ := nq_ltE h
  rw [← e6]
  obtain ⟨v7, e7, hn7, h⟩ := nq_ifE h
  refine nq_irem hX hn7 e7 dX7_send_33 ?_
  refine nq_aload_n hX rfl 0 rfl dX7_send_34 ?_
  obtain ⟨v8, e8, h⟩ := nq_ltE h
  refine nq_geti hX inX7_send_7 (nq_World_0 hL) rfl 12 (by decide) lkX7_send_60 rfl e8 dX7_send_35 ?_
  refine nq_bipush hX (v := 10) (by decide) dX7_send_38 ?_
  obtain ⟨v9, e9, hn9, h⟩ := nq_ifE h
  refine nq_idiv hX hn9 e9 dX7_send_40 ?_
  refine nq_icmp_ge hX (tgt := 48) (by decide) dX7_send_41 (fun c10 => ?_) (fun c10 => ?_)
  · rw [if_pos c10] at h
    refine nq_iconst hX (v := 0) (by decide) dX7_send_48 ?_
    exact mX7_send_L49 hL hX hr h
  · rw [if_neg c10] at h
    refine nq_iconst hX (v := 1) (by decide) dX7_send_44 ?_
    refine nq_goto hX (tgt := 49) (by decide) dX7_send_45 ?_
    exact mX7_send_L49 hL hX hr h
theorem dsX7_send : yX7_send.cls ≠ "java/lang/invoke/MethodHandle" ∧ yX7_send.cls ≠ "java/lang/invoke/VarHandle" ∧ (parseMethodDescriptor yX7_send.desc).map (fun d => d.parameters.length) = some 4 := by decide +kernel
theorem tX7_send {l : Launch} {E : Ev} {K : List Sh} {p : Nat} {x1 : Int32} {x2 : Int32} {x3 : Int32} {x4 : Int32} {M : Mem} {r : Int32} {M' : Mem} (hL : nq_atWorld E K p) (h : fX7_send p x1 x2 x3 x4 M = some (r, M')) : nq_MA l E yX7_send wsX7_send (nq_rm 4) [.ref (nq_ad E p), .int x1, .int x2, .int x3, .int x4] K M (some (.int r)) K M' :=
  nq_met (own := RX7) (cc := cX7_send) (maxL := 7) (ret := (some .int)) (by decide) rfl rfl (Nat.le_of_ble_eq_true rfl) (fun X hX hr => mX7_send hL hX hr h)

theorem inX7_become_7 : ∀ w ∈ u_ws RX7 TX7 17, w ∈ wsX7_become := by
  intro w h; unfold wsX7_become; simp only [List.mem_cons, List.mem_append]; simp only [h, true_or, or_true]
theorem lkX7_become_12 : Cond.fieldLink RX7 12 (TX7 0).1 (TX7 0).2.1 (TX7 0).2.2.1 ∈ wsX7_become := by decide +kernel
theorem lkX7_become_21 : Cond.fieldLink RX7 21 (TX7 1).1 (TX7 1).2.1 (TX7 1).2.2.1 ∈ wsX7_become := by decide +kernel
theorem lkX7_become_27 : Cond.fieldLink RX7 27 (TX7 2).1 (TX7 2).2.1 (TX7 2).2.2.1 ∈ wsX7_become := by decide +kernel
theorem inX7_become_5 : ∀ w ∈ u_ws RX5 TX5 2, w ∈ wsX7_become := by
  intro w h; unfold wsX7_become; simp only [List.mem_cons, List.mem_append]; simp only [h, true_or, or_true]
theorem lkX7_become_103 : Cond.fieldLink RX7 103 (TX5 0).1 (TX5 0).2.1 (TX5 0).2.2.1 ∈ wsX7_become := by decide +kernel
theorem lkX7_become_106 : Cond.fieldLink RX7 106 (TX5 1).1 (TX5 1).2.1 (TX5 1).2.2.1 ∈ wsX7_become := by decide +kernel
theorem lkX7_become_31 : Cond.fieldLink RX7 31 (TX7 3).1 (TX7 3).2.1 (TX7 3).2.2.1 ∈ wsX7_become := by decide +kernel
theorem mmX7_become_k111 : Cond.methodLink RX7 111 arraycopyName ∈ wsX7_become := by decide +kernel
theorem mmX7_become_nacp : Cond.native arraycopyName ∈ wsX7_become := by decide +kernel
theorem mmX7_become_stcp : Cond.static arraycopyName ∈ wsX7_become := by decide +kernel
theorem mmX7_become_isy : Cond.initialized "java/lang/System" ∈ wsX7_become := by decide +kernel
theorem lkX7_become_35 : Cond.fieldLink RX7 35 (TX7 4).1 (TX7 4).2.1 (TX7 4).2.2.1 ∈ wsX7_become := by decide +kernel
theorem lkX7_become_38 : Cond.fieldLink RX7 38 (TX7 5).1 (TX7 5).2.1 (TX7 5).2.2.1 ∈ wsX7_become := by decide +kernel
theorem lkX7_become_41 : Cond.fieldLink RX7 41 (TX7 6).1 (TX7 6).2.1 (TX7 6).2.2.1 ∈ wsX7_become := by decide +kernel
theorem lkX7_become_44 : Cond.fieldLink RX7 44 (TX7 7).1 (TX7 7).2.1 (TX7 7).2.2.1 ∈ wsX7_become := by decide +kernel
theorem lkX7_become_47 : Cond.fieldLink RX7 47 (TX7 8).1 (TX7 8).2.1 (TX7 8).2.2.1 ∈ wsX7_become := by decide +kernel
theorem lkX7_become_50 : Cond.fieldLink RX7 50 (TX7 9).1 (TX7 9).2.1 (TX7 9).2.2.1 ∈ wsX7_become := by decide +kernel
theorem lkX7_become_54 : Cond.fieldLink RX7 54 (TX7 10).1 (TX7 10).2.1 (TX7 10).2.2.1 ∈ wsX7_become := by decide +kernel
theorem lkX7_become_57 : Cond.fieldLink RX7 57 (TX7 11).1 (TX7 11).2.1 (TX7 11).2.2.1 ∈ wsX7_become := by decide +kernel
theorem lkX7_become_60 : Cond.fieldLink RX7 60 (TX7 12).1 (TX7 12).2.1 (TX7 12).2.2.1 ∈ wsX7_become := by decide +kernel
theorem lkX7_become_63 : Cond.fieldLink RX7 63 (TX7 13).1 (TX7 13).2.1 (TX7 13).2.2.1 ∈ wsX7_become := by decide +kernel
theorem lkX7_become_66 : Cond.fieldLink RX7 66 (TX7 14).1 (TX7 14).2.1 (TX7 14).2.2.1 ∈ wsX7_become := by decide +kernel
theorem lkX7_become_69 : Cond.fieldLink RX7 69 (TX7 15).1 (TX7 15).2.1 (TX7 15).2.2.1 ∈ wsX7_become := by decide +kernel
theorem lkX7_become_72 : Cond.fieldLink RX7 72 (TX7 16).1 (TX7 16).2.1 (TX7 16).2.2.1 ∈ wsX7_become := by decide +kernel
def fX7_become_B24 (p : Nat) (a0 : Nat) (x2 : Int32) (M : Mem) : Option ((Int32 × Mem) ⊕ (Mem)) :=
  if (8 : Int32) ≤ x2 then
  (some (.inr M))
  else
  ((nq_ar (p + 21) 8 x2).bind fun q6 =>
  (nq_ar (a0 + 21) 8 x2).bind fun q7 =>
  (nq_ar (a0 + 21) 8 x2).bind fun q8 =>
  nq_lt (M q8 1) fun v9 =>
  (fX5_become q6 (q7 + 1) v9 M).bind fun M11 =>
  nq_lt (x2 + (1 : Int32)) fun v12 =>
  some (.inl (v12, M11)))
set_option maxHeartbeats 4000000 in
theorem mX7_become_B24 {X : Cx} {E : Ev} {l : Launch} {K : List Sh} {p : Nat} {a0 : Nat} {x2 : Int32} {M : Mem} (hL : nq_atWorld E K p) (ha0 : nq_atWorld E K a0) (hX : nq_OK X E l (nq_rm 3) cX7_become 3 RX7 wsX7_become) {x : (Int32 × Mem) ⊕ (Mem)} (hc : ∀ s' : Int32 × Mem, x = .inl s' → nq_G X E 3 24 [(0, .ref (nq_ad E p)), (1, .ref (nq_ad E a0)), (2, .int s'.1)] [] K s'.2) (he : ∀ s' : Mem, x = .inr s' → nq_G X E 3 63 [(0, .ref (nq_ad E p)), (1, .ref (nq_ad E a0))] [] K s') (h : fX7_become_B24 p a0 x2 M = some x) : nq_G X E 3 24 [(0, .ref (nq_ad E p)), (1, .ref (nq_ad E a0)), (2, .int x2)] [] K M := by
  unfold fX7_become_B24 at h
  refine nq_iload_n hX rfl 2 rfl dX7_become_24 ?_
  refine nq_bipush hX (v := 8) (by decide) dX7_become_25 ?_
  refine nq_icmp_ge hX (tgt := 63) (by decide) dX7_become_27 (fun c5 => ?_) (fun c5 => ?_)
  · rw [if_pos c5] at h
    refine nq_sub (lv' := [(0, .ref (nq_ad E p)), (1, .ref (nq_ad E a0))]) [0, 1] rfl ?_
    exact he M (nq_sE h).symm
  · rw [if_neg c5] at h
    refine nq_aload_n hX rfl 0 rfl dX7_become_30 ?_
    refine nq_getr (v := .ref (nq_ad E (p + 14))) hX inX7_become_7 (nq_World_0 hL) rfl 2 (by decide) lkX7_become_27 _ rfl rfl dX7_become_31 ?_
    refine nq_iload_n hX rfl 2 rfl dX7_become_34 ?_
    obtain ⟨q6, e6, hi6, h⟩ := nq_arE h
    have hq6 : nq_atText E K q6 := by rw [e6]; exact nq_World_textsT hL _ (nq_inLt hi6)
    refine nq_aald hX (q := q6) (nq_World_texts hL) rfl hi6 (by rw [e6]; exact nq_World_textsQ _ (nq_inLt hi6)) dX7_become_35 ?_
    refine nq_aload_n hX rfl 1 rfl dX7_become_36 ?_
    refine nq_getr (v := .ref (nq_ad E (a0 + 14))) hX inX7_become_7 (nq_World_0 ha0) rfl 2 (by decide) lkX7_become_27 _ rfl rfl dX7_become_37 ?_
    refine nq_iload_n hX rfl 2 rfl dX7_become_40 ?_
    obtain ⟨q7, e7, hi7, h⟩ := nq_arE h
    have hq7 : nq_atText E K q7 := by rw [e7]; exact nq_World_textsT ha0 _ (nq_inLt hi7)
    refine nq_aald hX (q := q7) (nq_World_texts ha0) rfl hi7 (by rw [e7]; exact nq_World_textsQ _ (nq_inLt hi7)) dX7_become_41 ?_
    refine nq_getr (v := .ref (nq_ad E (q7 + 1))) hX inX7_become_5 (nq_Text_0 hq7) rfl 0 (by decide) lkX7_become_103 _ rfl rfl dX7_become_42 ?_
    refine nq_aload_n hX rfl 1 rfl dX7_become_45 ?_
    refine nq_getr (v := .ref (nq_ad E (a0 + 14))) hX inX7_become_7 (nq_World_0 ha0) rfl 2 (by decide) lkX7_become_27 _ rfl rfl dX7_become_46 ?_
    refine nq_iload_n hX rfl 2 rfl dX7_become_49 ?_
    obtain ⟨q8, e8, hi8, h⟩ := nq_arE h
    have hq8 : nq_atText E K q8 := by rw [e8]; exact nq_World_textsT ha0 _ (nq_inLt hi8)
    refine nq_aald hX (q := q8) (nq_World_texts ha0) rfl hi8 (by rw [e8]; exact nq_World_textsQ _ (nq_inLt hi8)) dX7_become_50 ?_
    obtain ⟨v9, e9, h⟩ := nq_ltE h
    refine nq_geti hX inX7_become_5 (nq_Text_0 hq8) rfl 1 (by decide) lkX7_become_106 rfl e9 dX7_become_51 ?_
    obtain ⟨M11, hc10, h⟩ := nq_bE h
    refine nq_callVv hX (tX5_become hq6 (nq_Text_codes hq7) hc10) gX7_become_X5_become rfl rfl dsX5_become (by decide) (nq_Text_0 hq6) rfl rfl (Nat.le_of_ble_eq_true rfl) dX7_become_54 ?_
    obtain ⟨v12, e12, h⟩ := nq_ltE h
    refine nq_iinc hX (lv' := [(2, .int v12), (0, .ref (nq_ad E p)), (1, .ref (nq_ad E a0))]) (j := 2) rfl (e12.trans rfl) (by decide) rfl dX7_become_57 ?_
    refine nq_goto hX (tgt := 24) (by decide) dX7_become_60 ?_
    refine nq_sub (lv' := [(0, .ref (nq_ad E p)), (1, .ref (nq_ad E a0)), (2, .int v12)]) [1, 2, 0] rfl ?_
    exact hc (v12, M11) (nq_sE h).symm
def fX7_become_L63 (p : Nat) (a0 : Nat) (M : Mem) : Option (Mem) :=
  (nq_cp M (a0 + 15) 50 (0 : Int32) (p + 15) 50 (0 : Int32) (50 : Int32)).bind fun M13 =>
  (nq_cp M13 (a0 + 16) 6 (0 : Int32) (p + 16) 6 (0 : Int32) (6 : Int32)).bind fun M14 =>
  (nq_cp M14 (a0 + 17) 32 (0 : Int32) (p + 17) 32 (0 : Int32) (32 : Int32)).bind fun M15 =>
  (nq_cp M15 (a0 + 18) 8 (0 : Int32) (p + 18) 8 (0 : Int32) (8 : Int32)).bind fun M16 =>
  (nq_cp M16 (a0 + 19) 8 (0 : Int32) (p + 19) 8 (0 : Int32) (8 : Int32)).bind fun M17 =>
  (nq_cp M17 (a0 + 20) 20 (0 : Int32) (p + 20) 20 (0 : Int32) (20 : Int32)).bind fun M18 =>
  nq_lt (M18 a0 9) fun v19 =>
  nq_lt (nq_wr M18 p 9 v19) fun M20 =>
  nq_lt (M20 a0 10) fun v21 =>
  nq_lt (nq_wr M20 p 10 v21) fun M22 =>
  nq_lt (M22 a0 11) fun v23 =>
  nq_lt (nq_wr M22 p 11 v23) fun M24 =>
  nq_lt (M24 a0 12) fun v25 =>
  nq_lt (nq_wr M24 p 12 v25) fun M26 =>
  nq_lt (M26 a0 13) fun v27 =>
  nq_lt (nq_wr M26 p 13 v27) fun M28 =>
  nq_lt (M28 a0 14) fun v29 =>
  nq_lt (nq_wr M28 p 14 v29) fun M30 =>
  nq_lt (M30 a0 15) fun v31 =>
  nq_lt (nq_wr M30 p 15 v31) fun M32 =>
  nq_lt (M32 a0 16) fun v33 =>
  nq_lt (nq_wr M32 p 16 v33) fun M34 =>
  some M34
set_option maxHeartbeats 4000000 in
theorem mX7_become_L63 {X : Cx} {E : Ev} {l : Launch} {K : List Sh} {p : Nat} {a0 : Nat} {M : Mem} {M' : Mem} (hL : nq_atWorld E K p) (ha0 : nq_atWorld E K a0) (hX : nq_OK X E l (nq_rm 3) cX7_become 3 RX7 wsX7_become) (hr : nq_RT X E none none K M') (h : fX7_become_L63 p a0 M = some M') : nq_G X E 3 63 [(0, .ref (nq_ad E p)), (1, .ref (nq_ad E a0))] [] K M := by
  unfold fX7_become_L63 at h
  refine nq_aload_n hX rfl 1 rfl dX7_become_63 ?_
  refine nq_getr (v := .ref (nq_ad E (a0 + 15))) hX inX7_become_7 (nq_World_0 ha0) rfl 3 (by decide) lkX7_become_31 _ rfl rfl dX7_become_64 ?_
  refine nq_iconst hX (v := 0) (by decide) dX7_become_67 ?_
  refine nq_aload_n hX rfl 0 rfl dX7_become_68 ?_
  refine nq_getr (v := .ref (nq_ad E (p + 15))) hX inX7_become_7 (nq_World_0 hL) rfl 3 (by decide) lkX7_become_31 _ rfl rfl dX7_become_69 ?_
  refine nq_iconst hX (v := 0) (by decide) dX7_become_72 ?_
  refine nq_bipush hX (v := 50) (by decide) dX7_become_73 ?_
  obtain ⟨M13, e13, hi13, h⟩ := nq_cpE h
  refine nq_acopy hX mmX7_become_k111 mmX7_become_nacp mmX7_become_stcp mmX7_become_isy (nq_World_tape ha0) (nq_World_tape hL) e13 hi13 (by decide) (Nat.le_of_ble_eq_true rfl) dX7_become_75 ?_
  refine nq_aload_n hX rfl 1 rfl dX7_become_78 ?_
  refine nq_getr (v := .ref (nq_ad E (a0 + 16))) hX inX7_become_7 (nq_World_0 ha0) rfl 4 (by decide) lkX7_become_35 _ rfl rfl dX7_become_79 ?_
  refine nq_iconst hX (v := 0) (by decide) dX7_become_82 ?_
  refine nq_aload_n hX rfl 0 rfl dX7_become_83 ?_
  refine nq_getr (v := .ref (nq_ad E (p + 16))) hX inX7_become_7 (nq_World_0 hL) rfl 4 (by decide) lkX7_become_35 _ rfl rfl dX7_become_84 ?_
  refine nq_iconst hX (v := 0) (by decide) dX7_become_87 ?_
  refine nq_bipush hX (v := 6) (by decide) dX7_become_88 ?_
  obtain ⟨M14, e14, hi14, h⟩ := nq_cpE h
  refine nq_acopy hX mmX7_become_k111 mmX7_become_nacp mmX7_become_stcp mmX7_become_isy (nq_World_aims ha0) (nq_World_aims hL) e14 hi14 (by decide) (Nat.le_of_ble_eq_true rfl) dX7_become_90 ?_
  refine nq_aload_n hX rfl 1 rfl dX7_become_93 ?_
  refine nq_getr (v := .ref (nq_ad E (a0 + 17))) hX inX7_become_7 (nq_World_0 ha0) rfl 5 (by decide) lkX7_become_38 _ rfl rfl dX7_become_94 ?_
  refine nq_iconst hX (v := 0) (by decide) dX7_become_97 ?_
  refine nq_aload_n hX rfl 0 rfl dX7_become_98 ?_
  refine nq_getr (v := .ref (nq_ad E (p + 17))) hX inX7_become_7 (nq_World_0 hL) rfl 5 (by decide) lkX7_become_38 _ rfl rfl dX7_become_99 ?_
  refine nq_iconst hX (v := 0) (by decide) dX7_become_102 ?_
  refine nq_bipush hX (v := 32) (by decide) dX7_become_103 ?_
  obtain ⟨M15, e15, hi15, h⟩ := nq_cpE h
  refine nq_acopy hX mmX7_become_k111 mmX7_become_nacp mmX7_become_stcp mmX7_become_isy (nq_World_pays ha0) (nq_World_pays hL) e15 hi15 (by decide) (Nat.le_of_ble_eq_true rfl) dX7_become_105 ?_
  refine nq_aload_n hX rfl 1 rfl dX7_become_108 ?_
  refine nq_getr (v := .ref (nq_ad E (a0 + 18))) hX inX7_become_7 (nq_World_0 ha0) rfl 6 (by decide) lkX7_become_41 _ rfl rfl dX7_become_109 ?_
  refine nq_iconst hX (v := 0) (by decide) dX7_become_112 ?_
  refine nq_aload_n hX rfl 0 rfl dX7_become_113 ?_
  refine nq_getr (v := .ref (nq_ad E (p + 18))) hX inX7_become_7 (nq_World_0 hL) rfl 6 (by decide) lkX7_become_41 _ rfl rfl dX7_become_114 ?_
  refine nq_iconst hX (v := 0) (by decide) dX7_become_117 ?_
  refine nq_bipush hX (v := 8) (by decide) dX7_become_118 ?_
  obtain ⟨M16, e16, hi16, h⟩ := nq_cpE h
  refine nq_acopy hX mmX7_become_k111 mmX7_become_nacp mmX7_become_stcp mmX7_become_isy (nq_World_costs ha0) (nq_World_costs hL) e16 hi16 (by decide) (Nat.le_of_ble_eq_true rfl) dX7_become_120 ?_
  refine nq_aload_n hX rfl 1 rfl dX7_become_123 ?_
  refine nq_getr (v := .ref (nq_ad E (a0 + 19))) hX inX7_become_7 (nq_World_0 ha0) rfl 7 (by decide) lkX7_become_44 _ rfl rfl dX7_become_124 ?_
  refine nq_iconst hX (v := 0) (by decide) dX7_become_127 ?_
  refine nq_aload_n hX rfl 0 rfl dX7_become_128 ?_
  refine nq_getr (v := .ref (nq_ad E (p + 19))) hX inX7_become_7 (nq_World_0 hL) rfl 7 (by decide) lkX7_become_44 _ rfl rfl dX7_become_129 ?_
  refine nq_iconst hX (v := 0) (by decide) dX7_become_132 ?_
  refine nq_bipush hX (v := 8) (by decide) dX7_become_133 ?_
  obtain ⟨M17, e17, hi17, h⟩ := nq_cpE h
  refine nq_acopy hX mmX7_become_k111 mmX7_become_nacp mmX7_become_stcp mmX7_become_isy (nq_World_worths ha0) (nq_World_worths hL) e17 hi17 (by decide) (Nat.le_of_ble_eq_true rfl) dX7_become_135 ?_
  refine nq_aload_n hX rfl 1 rfl dX7_become_138 ?_
  refine nq_getr (v := .ref (nq_ad E (a0 + 20))) hX inX7_become_7 (nq_World_0 ha0) rfl 8 (by decide) lkX7_become_47 _ rfl rfl dX7_become_139 ?_
  refine nq_iconst hX (v := 0) (by decide) dX7_become_142 ?_
  refine nq_aload_n hX rfl 0 rfl dX7_become_143 ?_
  refine nq_getr (v := .ref (nq_ad E (p + 20))) hX inX7_become_7 (nq_World_0 hL) rfl 8 (by decide) lkX7_become_47 _ rfl rfl dX7_become_144 ?_
  refine nq_iconst hX (v := 0) (by decide) dX7_become_147 ?_
  refine nq_bipush hX (v := 20) (by decide) dX7_become_148 ?_
  obtain ⟨M18, e18, hi18, h⟩ := nq_cpE h
  refine nq_acopy hX mmX7_become_k111 mmX7_become_nacp mmX7_become_stcp mmX7_become_isy (nq_World_waiting ha0) (nq_World_waiting hL) e18 hi18 (by decide) (Nat.le_of_ble_eq_true rfl) dX7_become_150 ?_
  refine nq_aload_n hX rfl 0 rfl dX7_become_153 ?_
  refine nq_aload_n hX rfl 1 rfl dX7_become_154 ?_
  obtain ⟨v19, e19, h⟩ := nq_ltE h
  refine nq_geti hX inX7_become_7 (nq_World_0 ha0) rfl 9 (by decide) lkX7_become_50 rfl e19 dX7_become_155 ?_
  obtain ⟨M20, eM20, h⟩ := nq_ltE h
  refine nq_puti hX inX7_become_7 tyX7 tyX7_ok nmX7 (nq_World_0 hL) rfl 9 (by decide) lkX7_become_50 rfl rfl rfl rfl rfl eM20 dX7_become_158 ?_
  refine nq_aload_n hX rfl 0 rfl dX7_become_161 ?_
  refine nq_aload_n hX rfl 1 rfl dX7_become_162 ?_
  obtain ⟨v21, e21, h⟩ := nq_ltE h
  refine nq_geti hX inX7_become_7 (nq_World_0 ha0) rfl 10 (by decide) lkX7_become_54 rfl e21 dX7_become_163 ?_
  obtain ⟨M22, eM22, h⟩ := nq_ltE h
  refine nq_puti hX inX7_become_7 tyX7 tyX7_ok nmX7 (nq_World_0 hL) rfl 10 (by decide) lkX7_become_54 rfl rfl rfl rfl rfl eM22 dX7_become_166 ?_
  refine nq_aload_n hX rfl 0 rfl dX7_become_169 ?_
  refine nq_aload_n hX rfl 1 rfl dX7_become_170 ?_
  obtain ⟨v23, e23, h⟩ := nq_ltE h
  refine nq_geti hX inX7_become_7 (nq_World_0 ha0) rfl 11 (by decide) lkX7_become_57 rfl e23 dX7_become_171 ?_
  obtain ⟨M24, eM24, h⟩ := nq_ltE h
  refine nq_puti hX inX7_become_7 tyX7 tyX7_ok nmX7 (nq_World_0 hL) rfl 11 (by decide) lkX7_become_57 rfl rfl rfl rfl rfl eM24 dX7_become_174 ?_
  refine nq_aload_n hX rfl 0 rfl dX7_become_177 ?_
  refine nq_aload_n hX rfl 1 rfl dX7_become_178 ?_
  obtain ⟨v25, e25, h⟩ := nq_ltE h
  refine nq_geti hX inX7_become_7 (nq_World_0 ha0) rfl 12 (by decide) lkX7_become_60 rfl e25 dX7_become_179 ?_
  obtain ⟨M26, eM26, h⟩ := nq_ltE h
  refine nq_puti hX inX7_become_7 tyX7 tyX7_ok nmX7 (nq_World_0 hL) rfl 12 (by decide) lkX7_become_60 rfl rfl rfl rfl rfl eM26 dX7_become_182 ?_
  refine nq_aload_n hX rfl 0 rfl dX7_become_185 ?_
  refine nq_aload_n hX rfl 1 rfl dX7_become_186 ?_
  obtain ⟨v27, e27, h⟩ := nq_ltE h
  refine nq_geti hX inX7_become_7 (nq_World_0 ha0) rfl 13 (by decide) lkX7_become_63 rfl e27 dX7_become_187 ?_
  obtain ⟨M28, eM28, h⟩ := nq_ltE h
  refine nq_puti hX inX7_become_7 tyX7 tyX7_ok nmX7 (nq_World_0 hL) rfl 13 (by decide) lkX7_become_63 rfl rfl rfl rfl rfl eM28 dX7_become_190 ?_
  refine nq_aload_n hX rfl 0 rfl dX7_become_193 ?_
  refine nq_aload_n hX rfl 1 rfl dX7_become_194 ?_
  obtain ⟨v29, e29, h⟩ := nq_ltE h
  refine nq_geti hX inX7_become_7 (nq_World_0 ha0) rfl 14 (by decide) lkX7_become_66 rfl e29 dX7_become_195 ?_
  obtain ⟨M30, eM30, h⟩ := nq_ltE h
  refine nq_puti hX inX7_become_7 tyX7 tyX7_ok nmX7 (nq_World_0 hL) rfl 14 (by decide) lkX7_become_66 rfl rfl rfl rfl rfl eM30 dX7_become_198 ?_
  refine nq_aload_n hX rfl 0 rfl dX7_become_201 ?_
  refine nq_aload_n hX rfl 1 rfl dX7_become_202 ?_
  obtain ⟨v31, e31, h⟩ := nq_ltE h
  refine nq_geti hX inX7_become_7 (nq_World_0 ha0) rfl 15 (by decide) lkX7_become_69 rfl e31 dX7_become_203 ?_
  obtain ⟨M32, eM32, h⟩ := nq_ltE h
  refine nq_puti hX inX7_become_7 tyX7 tyX7_ok nmX7 (nq_World_0 hL) rfl 15 (by decide) lkX7_become_69 rfl rfl rfl rfl rfl eM32 dX7_become_206 ?_
  refine nq_aload_n hX rfl 0 rfl dX7_become_209 ?_
  refine nq_aload_n hX rfl 1 rfl dX7_become_210 ?_
  obtain ⟨v33, e33, h⟩ := nq_ltE h
  refine nq_geti hX inX7_become_7 (nq_World_0 ha0) rfl 16 (by decide) lkX7_become_72 rfl e33 dX7_become_211 ?_
  obtain ⟨M34, eM34, h⟩ := nq_ltE h
  refine nq_puti hX inX7_become_7 tyX7 tyX7_ok nmX7 (nq_World_0 hL) rfl 16 (by decide) lkX7_become_72 rfl rfl rfl rfl rfl eM34 dX7_become_214 ?_
  obtain rfl := nq_sE1 h; exact nq_vret hX hr dX7_become_217
def fX7_become_L24 (p : Nat) (a0 : Nat) (x2 : Int32) (M : Mem) : Option (Mem) :=
  (nq_lp (fun s : Int32 × Mem => fX7_become_B24 p a0 s.1 s.2) nq_fuel (x2, M)).bind (fun e => fX7_become_L63 p a0 e)
set_option maxHeartbeats 4000000 in
theorem mX7_become_L24 {X : Cx} {E : Ev} {l : Launch} {K : List Sh} {p : Nat} {a0 : Nat} {x2 : Int32} {M : Mem} {M' : Mem} (hL : nq_atWorld E K p) (ha0 : nq_atWorld E K a0) (hX : nq_OK X E l (nq_rm 3) cX7_become 3 RX7 wsX7_become) (hr : nq_RT X E none none K M') (h : fX7_become_L24 p a0 x2 M = some M') : nq_G X E 3 24 [(0, .ref (nq_ad E p)), (1, .ref (nq_ad E a0)), (2, .int x2)] [] K M := by
  unfold fX7_become_L24 at h
  obtain ⟨e, h1, h⟩ := nq_bE h
  have key : ∀ (ex : Mem), nq_lp (fun s : Int32 × Mem => fX7_become_B24 p a0 s.1 s.2) nq_fuel (x2, M) = some ex → (∀ e, ex = e → nq_G X E 3 63 [(0, .ref (nq_ad E p)), (1, .ref (nq_ad E a0))] [] K e) → nq_G X E 3 24 [(0, .ref (nq_ad E p)), (1, .ref (nq_ad E a0)), (2, .int ((x2, M).1))] [] K (x2, M).2 := by
    intro ex h1 hE
    refine nq_lpE (P := fun s : Int32 × Mem => nq_G X E 3 24 [(0, .ref (nq_ad E p)), (1, .ref (nq_ad E a0)), (2, .int s.1)] [] K s.2) (r := ex) ?_ nq_fuel (x2, M) h1
    intro s xx hx1 hc1 he1
    exact mX7_become_B24 hL ha0 hX hc1 (fun e q => hE e (he1 _ q).symm) hx1
  refine key e h1 (fun e q => ?_)
  subst q
  exact mX7_become_L63 hL ha0 hX hr h
def fX7_become (p : Nat) (a0 : Nat) (M : Mem) : Option (Mem) :=
  (fX2_become (p + 1) (a0 + 1) M).bind fun M2 =>
  (fX0_become (p + 4) (a0 + 4) M2).bind fun M4 =>
  fX7_become_L24 p a0 (0 : Int32) M4
set_option maxHeartbeats 4000000 in
theorem mX7_become {X : Cx} {E : Ev} {l : Launch} {K : List Sh} {p : Nat} {a0 : Nat} {M : Mem} {M' : Mem} (hL : nq_atWorld E K p) (ha0 : nq_atWorld E K a0) (hX : nq_OK X E l (nq_rm 3) cX7_become 3 RX7 wsX7_become) (hr : nq_RT X E none none K M') (h : fX7_become p a0 M = some M') : nq_G X E 3 0 [(0, .ref (nq_ad E p)), (1, .ref (nq_ad E a0))] [] K M := by
  unfold fX7_become at h
  refine nq_aload_n hX rfl 0 rfl dX7_become_0 ?_
  refine nq_getr (v := .ref (nq_ad E (p + 1))) hX inX7_become_7 (nq_World_0 hL) rfl 0 (by decide) lkX7_become_12 _ rfl rfl dX7_become_1 ?_
  refine nq_aload_n hX rfl 1 rfl dX7_become_4 ?_
  refine nq_getr (v := .ref (nq_ad E (a0 + 1))) hX inX7_become_7 (nq_World_0 ha0) rfl 0 (by decide) lkX7_become_12 _ rfl rfl dX7_become_5 ?_
  obtain ⟨M2, hc1, h⟩ := nq_bE h
  refine nq_callVv hX (tX2_become (nq_World_roads hL) (nq_World_roads ha0) hc1) gX7_become_X2_become rfl rfl dsX2_become (by decide) (nq_Roads_0 (nq_World_roads hL)) rfl rfl (Nat.le_of_ble_eq_true rfl) dX7_become_8 ?_
  refine nq_aload_n hX rfl 0 rfl dX7_become_11 ?_
  refine nq_getr (v := .ref (nq_ad E (p + 4))) hX inX7_become_7 (nq_World_0 hL) rfl 1 (by decide) lkX7_become_21 _ rfl rfl dX7_become_12 ?_
  refine nq_aload_n hX rfl 1 rfl dX7_become_15 ?_
  refine nq_getr (v := .ref (nq_ad E (a0 + 4))) hX inX7_become_7 (nq_World_0 ha0) rfl 1 (by decide) lkX7_become_21 _ rfl rfl dX7_become_16 ?_
  obtain ⟨M4, hc3, h⟩ := nq_bE h
  refine nq_callVv hX (tX0_become (nq_World_letters hL) (nq_World_letters ha0) hc3) gX7_become_X0_become rfl rfl dsX0_become (by decide) (nq_Letters_0 (nq_World_letters hL)) rfl rfl (Nat.le_of_ble_eq_true rfl) dX7_become_19 ?_
  refine nq_iconst hX (v := 0) (by decide) dX7_become_22 ?_
  refine nq_istore_n hX (lv' := [(2, .int (0 : Int32)), (0, .ref (nq_ad E p)), (1, .ref (nq_ad E a0))]) rfl (by decide) rfl rfl dX7_become_23 ?_
  refine nq_sub (lv' := [(0, .ref (nq_ad E p)), (1, .ref (nq_ad E a0)), (2, .int (0 : Int32))]) [1, 2, 0] rfl ?_
  exact mX7_become_L24 hL ha0 hX hr h
theorem dsX7_become : yX7_become.cls ≠ "java/lang/invoke/MethodHandle" ∧ yX7_become.cls ≠ "java/lang/invoke/VarHandle" ∧ (parseMethodDescriptor yX7_become.desc).map (fun d => d.parameters.length) = some 1 := by decide +kernel
theorem tX7_become {l : Launch} {E : Ev} {K : List Sh} {p : Nat} {a0 : Nat} {M : Mem} {M' : Mem} (hL : nq_atWorld E K p) (ha0 : nq_atWorld E K a0) (h : fX7_become p a0 M = some M') : nq_MA l E yX7_become wsX7_become (nq_rm 3) [.ref (nq_ad E p), .ref (nq_ad E a0)] K M none K M' :=
  nq_met (own := RX7) (cc := cX7_become) (maxL := 3) (ret := none) (by decide) rfl rfl (Nat.le_of_ble_eq_true rfl) (fun X hX hr => mX7_become hL ha0 hX hr h)

