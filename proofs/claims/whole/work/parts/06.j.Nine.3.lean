/-! printed by dec.py: Nine 3 -/
theorem inX8_pays_8 : ∀ w ∈ u_ws RX8 TX8 11, w ∈ wsX8_pays := by
  intro w h; unfold wsX8_pays; simp only [List.mem_cons, List.mem_append]; simp only [h, true_or, or_true]
theorem lkX8_pays_16 : Cond.fieldLink RX8 16 (TX8 1).1 (TX8 1).2.1 (TX8 1).2.2.1 ∈ wsX8_pays := by decide +kernel
theorem inX8_pays_7 : ∀ w ∈ u_ws RX7 TX7 17, w ∈ wsX8_pays := by
  intro w h; unfold wsX8_pays; simp only [List.mem_cons, List.mem_append]; simp only [h, true_or, or_true]
theorem lkX8_pays_249 : Cond.fieldLink RX8 249 (TX7 5).1 (TX7 5).2.1 (TX7 5).2.2.1 ∈ wsX8_pays := by decide +kernel
def fX8_pays (x1 : Int32) (x2 : Int32) (M : Mem) : Option (Int32 × Mem) :=
  (fX8_isOutside x1 (0 : Int32) (79 : Int32) M).bind fun v2 =>
  if v2 = 0 then
  ((nq_rem x1 (10 : Int32)).bind fun v4 =>
  if (3 : Int32) < v4 then
  (nq_b2 (fX8_refuse (1 : Int32) M) fun v7 M8 =>
  some (v7, M8))
  else
  ((fX8_isOutside x2 (-99 : Int32) (99 : Int32) M).bind fun v10 =>
  if v10 = 0 then
  ((nq_dv x1 (20 : Int32)).bind fun v12 =>
  (nq_dv x1 (10 : Int32)).bind fun v13 =>
  (nq_rem v13 (2 : Int32)).bind fun v14 =>
  (nq_rem x1 (10 : Int32)).bind fun v15 =>
  (fX8_payAt v12 v14 v15 M).bind fun v17 =>
  (nq_ag (M 19) 32 v17).bind fun v18 =>
  (nq_as M 19 32 v17 x2).bind fun M19 =>
  some (v18, M19))
  else
  (nq_b2 (fX8_refuse (1 : Int32) M) fun v21 M22 =>
  some (v21, M22))))
  else
  (nq_b2 (fX8_refuse (1 : Int32) M) fun v24 M25 =>
  some (v24, M25))
set_option maxHeartbeats 4000000 in
theorem mX8_pays {X : Cx} {E : Ev} {l : Launch} {K : List Sh} {x1 : Int32} {x2 : Int32} {M : Mem} {r : Int32} {M' : Mem} (hL : nq_atNine E K) (hX : nq_OK X E l (nq_rm 2) cX8_pays 5 RX8 wsX8_pays) (hr : nq_RT X E (some .int) (some (.int r)) K M') (h : fX8_pays x1 x2 M = some (r, M')) : nq_G X E 5 0 [(0, .ref (nq_ad E 0)), (1, .int x1), (2, .int x2)] [] K M := by
  unfold fX8_pays at h
  refine nq_iload_n hX rfl 1 rfl dX8_pays_0 ?_
  refine nq_iconst hX (v := 0) (by decide) dX8_pays_1 ?_
  refine nq_bipush hX (v := 79) (by decide) dX8_pays_2 ?_
  obtain ⟨v2, hc1, h⟩ := nq_bE h
  refine nq_callSi hX (tX8_isOutside  hc1) gX8_pays_X8_isOutside rfl rfl dsX8_isOutside (by decide) rfl (Nat.le_of_ble_eq_true rfl) dX8_pays_4 ?_
  refine nq_if_ne hX (tgt := 29) (by decide) dX8_pays_7 (fun c3 => ?_) (fun c3 => ?_)
  · rw [if_pos c3] at h
    refine nq_iload_n hX rfl 1 rfl dX8_pays_10 ?_
    refine nq_bipush hX (v := 10) (by decide) dX8_pays_11 ?_
    obtain ⟨v4, e4, hn4, h⟩ := nq_ifE h
    refine nq_irem hX hn4 e4 dX8_pays_13 ?_
    refine nq_iconst hX (v := 3) (by decide) dX8_pays_14 ?_
    refine nq_icmp_gt hX (tgt := 29) (by decide) dX8_pays_15 (fun c5 => ?_) (fun c5 => ?_)
    · rw [if_pos c5] at h
      refine nq_aload_n hX rfl 0 rfl dX8_pays_29 ?_
      refine nq_iconst hX (v := 1) (by decide) dX8_pays_30 ?_
      obtain ⟨v7, M8, hc6, h⟩ := nq_b2E h
      refine nq_callVi hX (tX8_refuse hL hc6) gX8_pays_X8_refuse rfl rfl dsX8_refuse (by decide) (nq_Nine_0 hL) rfl rfl (Nat.le_of_ble_eq_true rfl) dX8_pays_31 ?_
      obtain ⟨rfl, rfl⟩ := nq_sE2 h; exact nq_iret hX hr dX8_pays_34
    · rw [if_neg c5] at h
      refine nq_iload_n hX rfl 2 rfl dX8_pays_18 ?_
      refine nq_bipush hX (v := -99) (by decide) dX8_pays_19 ?_
      refine nq_bipush hX (v := 99) (by decide) dX8_pays_21 ?_
      obtain ⟨v10, hc9, h⟩ := nq_bE h
      refine nq_callSi hX (tX8_isOutside  hc9) gX8_pays_X8_isOutside rfl rfl dsX8_isOutside (by decide) rfl (Nat.le_of_ble_eq_true rfl) dX8_pays_23 ?_
      refine nq_if_eq hX (tgt := 35) (by decide) dX8_pays_26 (fun c11 => ?_) (fun c11 => ?_)
      · rw [if_pos c11] at h
        refine nq_iload_n hX rfl 1 rfl dX8_pays_35 ?_
        refine nq_bipush hX (v := 20) (by decide) dX8_pays_36 ?_
        obtain ⟨v12, e12, hn12, h⟩ := nq_ifE h
        refine nq_idiv hX hn12 e12 dX8_pays_38 ?_
        refine nq_iload_n hX rfl 1 rfl dX8_pays_39 ?_
        refine nq_bipush hX (v := 10) (by decide) dX8_pays_40 ?_
        obtain ⟨v13, e13, hn13, h⟩ := nq_ifE h
        refine nq_idiv hX hn13 e13 dX8_pays_42 ?_
        refine nq_iconst hX (v := 2) (by decide) dX8_pays_43 ?_
        obtain ⟨v14, e14, hn14, h⟩ := nq_ifE h
        refine nq_irem hX hn14 e14 dX8_pays_44 ?_
        refine nq_iload_n hX rfl 1 rfl dX8_pays_45 ?_
        refine nq_bipush hX (v := 10) (by decide) dX8_pays_46 ?_
        obtain ⟨v15, e15, hn15, h⟩ := nq_ifE h
        refine nq_irem hX hn15 e15 dX8_pays_48 ?_
        obtain ⟨v17, hc16, h⟩ := nq_bE h
        refine nq_callSi hX (tX8_payAt  hc16) gX8_pays_X8_payAt rfl rfl dsX8_payAt (by decide) rfl (Nat.le_of_ble_eq_true rfl) dX8_pays_49 ?_
        refine nq_istore_n hX (lv' := [(3, .int v17), (0, .ref (nq_ad E 0)), (1, .int x1), (2, .int x2)]) rfl (by decide) rfl rfl dX8_pays_52 ?_
        refine nq_aload_n hX rfl 1 rfl dX8_pays_53 ?_
        refine nq_getr (v := .ref (nq_ad E 2)) hX inX8_pays_8 (nq_Nine_0 hL) rfl 1 (by decide) lkX8_pays_16 _ rfl rfl dX8_pays_54 ?_
        refine nq_getr (v := .ref (nq_ad E 19)) hX inX8_pays_7 (nq_World_0 (nq_Nine_world hL)) rfl 5 (by decide) lkX8_pays_249 _ rfl rfl dX8_pays_57 ?_
        refine nq_iload_n hX rfl 0 rfl dX8_pays_60 ?_
        obtain ⟨v18, e18, hi18, h⟩ := nq_agE h
        refine nq_iald hX (nq_World_pays (nq_Nine_world hL)) e18 hi18 dX8_pays_61 ?_
        refine nq_istore hX (lv' := [(4, .int v18), (3, .int v17), (0, .ref (nq_ad E 0)), (1, .int x1), (2, .int x2)]) (by decide) rfl rfl dX8_pays_62 ?_
        refine nq_aload_n hX rfl 2 rfl dX8_pays_64 ?_
        refine nq_getr (v := .ref (nq_ad E 2)) hX inX8_pays_8 (nq_Nine_0 hL) rfl 1 (by decide) lkX8_pays_16 _ rfl rfl dX8_pays_65 ?_
        refine nq_getr (v := .ref (nq_ad E 19)) hX inX8_pays_7 (nq_World_0 (nq_Nine_world hL)) rfl 5 (by decide) lkX8_pays_249 _ rfl rfl dX8_pays_68 ?_
        refine nq_iload_n hX rfl 1 rfl dX8_pays_71 ?_
        refine nq_iload_n hX rfl 4 rfl dX8_pays_72 ?_
        obtain ⟨M19, e19, hi19, h⟩ := nq_asE h
        refine nq_iast hX (nq_World_pays (nq_Nine_world hL)) e19 hi19 dX8_pays_73 ?_
        refine nq_iload hX 0 rfl dX8_pays_74 ?_
        obtain ⟨rfl, rfl⟩ := nq_sE2 h; exact nq_iret hX hr dX8_pays_76
      · rw [if_neg c11] at h
        refine nq_aload_n hX rfl 0 rfl dX8_pays_29 ?_
        refine nq_iconst hX (v := 1) (by decide) dX8_pays_30 ?_
        obtain ⟨v21, M22, hc20, h⟩ := nq_b2E h
        refine nq_callVi hX (tX8_refuse hL hc20) gX8_pays_X8_refuse rfl rfl dsX8_refuse (by decide) (nq_Nine_0 hL) rfl rfl (Nat.le_of_ble_eq_true rfl) dX8_pays_31 ?_
        obtain ⟨rfl, rfl⟩ := nq_sE2 h; exact nq_iret hX hr dX8_pays_34
  · rw [if_neg c3] at h
    refine nq_aload_n hX rfl 0 rfl dX8_pays_29 ?_
    refine nq_iconst hX (v := 1) (by decide) dX8_pays_30 ?_
    obtain ⟨v24, M25, hc23, h⟩ := nq_b2E h
    refine nq_callVi hX (tX8_refuse hL hc23) gX8_pays_X8_refuse rfl rfl dsX8_refuse (by decide) (nq_Nine_0 hL) rfl rfl (Nat.le_of_ble_eq_true rfl) dX8_pays_31 ?_
    obtain ⟨rfl, rfl⟩ := nq_sE2 h; exact nq_iret hX hr dX8_pays_34
theorem dsX8_pays : yX8_pays.cls ≠ "java/lang/invoke/MethodHandle" ∧ yX8_pays.cls ≠ "java/lang/invoke/VarHandle" ∧ (parseMethodDescriptor yX8_pays.desc).map (fun d => d.parameters.length) = some 2 := by decide +kernel
theorem tX8_pays {l : Launch} {E : Ev} {K : List Sh} {x1 : Int32} {x2 : Int32} {M : Mem} {r : Int32} {M' : Mem} (hL : nq_atNine E K) (h : fX8_pays x1 x2 M = some (r, M')) : nq_MA l E yX8_pays wsX8_pays (nq_rm 2) [.ref (nq_ad E 0), .int x1, .int x2] K M (some (.int r)) K M' :=
  nq_met (own := RX8) (cc := cX8_pays) (maxL := 5) (ret := (some .int)) (by decide) rfl rfl (Nat.le_of_ble_eq_true rfl) (fun X hX hr => mX8_pays hL hX hr h)

theorem inX8_gain_8 : ∀ w ∈ u_ws RX8 TX8 11, w ∈ wsX8_gain := by
  intro w h; unfold wsX8_gain; simp only [List.mem_cons, List.mem_append]; simp only [h, true_or, or_true]
theorem lkX8_gain_16 : Cond.fieldLink RX8 16 (TX8 1).1 (TX8 1).2.1 (TX8 1).2.2.1 ∈ wsX8_gain := by decide +kernel
theorem inX8_gain_7 : ∀ w ∈ u_ws RX7 TX7 17, w ∈ wsX8_gain := by
  intro w h; unfold wsX8_gain; simp only [List.mem_cons, List.mem_append]; simp only [h, true_or, or_true]
theorem lkX8_gain_249 : Cond.fieldLink RX8 249 (TX7 5).1 (TX7 5).2.1 (TX7 5).2.2.1 ∈ wsX8_gain := by decide +kernel
def fX8_gain (x1 : Int32) (x2 : Int32) (x3 : Int32) (x4 : Int32) (M : Mem) : Option (Int32) :=
  (fX8_payAt x1 x2 (((2 : Int32) * x3) + x4) M).bind fun v2 =>
  (nq_ag (M 19) 32 v2).bind fun v3 =>
  (fX8_payAt x1 x2 (((2 : Int32) * ((1 : Int32) - x3)) + x4) M).bind fun v5 =>
  (nq_ag (M 19) 32 v5).bind fun v6 =>
  some (v3 - v6)
set_option maxHeartbeats 4000000 in
theorem mX8_gain {X : Cx} {E : Ev} {l : Launch} {K : List Sh} {x1 : Int32} {x2 : Int32} {x3 : Int32} {x4 : Int32} {M : Mem} {r : Int32} (hL : nq_atNine E K) (hX : nq_OK X E l (nq_rm 2) cX8_gain 6 RX8 wsX8_gain) (hr : nq_RT X E (some .int) (some (.int r)) K M) (h : fX8_gain x1 x2 x3 x4 M = some r) : nq_G X E 6 0 [(0, .ref (nq_ad E 0)), (1, .int x1), (2, .int x2), (3, .int x3), (4, .int x4)] [] K M := by
  unfold fX8_gain at h
  refine nq_aload_n hX rfl 0 rfl dX8_gain_0 ?_
  refine nq_getr (v := .ref (nq_ad E 2)) hX inX8_gain_8 (nq_Nine_0 hL) rfl 1 (by decide) lkX8_gain_16 _ rfl rfl dX8_gain_1 ?_
  refine nq_getr (v := .ref (nq_ad E 19)) hX inX8_gain_7 (nq_World_0 (nq_Nine_world hL)) rfl 5 (by decide) lkX8_gain_249 _ rfl rfl dX8_gain_4 ?_
  refine nq_iload_n hX rfl 1 rfl dX8_gain_7 ?_
  refine nq_iload_n hX rfl 2 rfl dX8_gain_8 ?_
  refine nq_iconst hX (v := 2) (by decide) dX8_gain_9 ?_
  refine nq_iload_n hX rfl 3 rfl dX8_gain_10 ?_
  refine nq_imul hX dX8_gain_11 ?_
  refine nq_iload hX 4 rfl dX8_gain_12 ?_
  refine nq_iadd hX dX8_gain_14 ?_
  obtain ⟨v2, hc1, h⟩ := nq_bE h
  refine nq_callSi hX (tX8_payAt  hc1) gX8_gain_X8_payAt rfl rfl dsX8_payAt (by decide) rfl (Nat.le_of_ble_eq_true rfl) dX8_gain_15 ?_
  obtain ⟨v3, e3, hi3, h⟩ := nq_agE h
  refine nq_iald hX (nq_World_pays (nq_Nine_world hL)) e3 hi3 dX8_gain_18 ?_
  refine nq_istore hX (lv' := [(5, .int v3), (0, .ref (nq_ad E 0)), (1, .int x1), (2, .int x2), (3, .int x3), (4, .int x4)]) (by decide) rfl rfl dX8_gain_19 ?_
  refine nq_iload hX 0 rfl dX8_gain_21 ?_
  refine nq_aload_n hX rfl 1 rfl dX8_gain_23 ?_
  refine nq_getr (v := .ref (nq_ad E 2)) hX inX8_gain_8 (nq_Nine_0 hL) rfl 1 (by decide) lkX8_gain_16 _ rfl rfl dX8_gain_24 ?_
  refine nq_getr (v := .ref (nq_ad E 19)) hX inX8_gain_7 (nq_World_0 (nq_Nine_world hL)) rfl 5 (by decide) lkX8_gain_249 _ rfl rfl dX8_gain_27 ?_
  refine nq_iload_n hX rfl 2 rfl dX8_gain_30 ?_
  refine nq_iload_n hX rfl 3 rfl dX8_gain_31 ?_
  refine nq_iconst hX (v := 2) (by decide) dX8_gain_32 ?_
  refine nq_iconst hX (v := 1) (by decide) dX8_gain_33 ?_
  refine nq_iload_n hX rfl 4 rfl dX8_gain_34 ?_
  refine nq_isub hX dX8_gain_35 ?_
  refine nq_imul hX dX8_gain_36 ?_
  refine nq_iload hX 5 rfl dX8_gain_37 ?_
  refine nq_iadd hX dX8_gain_39 ?_
  obtain ⟨v5, hc4, h⟩ := nq_bE h
  refine nq_callSi hX (tX8_payAt  hc4) gX8_gain_X8_payAt rfl rfl dsX8_payAt (by decide) rfl (Nat.le_of_ble_eq_true rfl) dX8_gain_40 ?_
  obtain ⟨v6, e6, hi6, h⟩ := nq_agE h
  refine nq_iald hX (nq_World_pays (nq_Nine_world hL)) e6 hi6 dX8_gain_43 ?_
  refine nq_isub hX dX8_gain_44 ?_
  obtain rfl := nq_sE1 h; exact nq_iret hX hr dX8_gain_45
theorem dsX8_gain : yX8_gain.cls ≠ "java/lang/invoke/MethodHandle" ∧ yX8_gain.cls ≠ "java/lang/invoke/VarHandle" ∧ (parseMethodDescriptor yX8_gain.desc).map (fun d => d.parameters.length) = some 4 := by decide +kernel
theorem tX8_gain {l : Launch} {E : Ev} {K : List Sh} {x1 : Int32} {x2 : Int32} {x3 : Int32} {x4 : Int32} {M : Mem} {r : Int32} (hL : nq_atNine E K) (h : fX8_gain x1 x2 x3 x4 M = some r) : nq_MA l E yX8_gain wsX8_gain (nq_rm 2) [.ref (nq_ad E 0), .int x1, .int x2, .int x3, .int x4] K M (some (.int r)) K M :=
  nq_met (own := RX8) (cc := cX8_gain) (maxL := 6) (ret := (some .int)) (by decide) rfl rfl (Nat.le_of_ble_eq_true rfl) (fun X hX hr => mX8_gain hL hX hr h)

def fX8_rest_B17 (x1 : Int32) (x2 : Int32) (x3 : Int32) (M : Mem) : Option ((Int32 × Int32) ⊕ (Int32)) :=
  if (4 : Int32) ≤ x3 then
  (some (.inr x2))
  else
  ((nq_dv x3 (2 : Int32)).bind fun v8 =>
  (nq_rem x3 (2 : Int32)).bind fun v9 =>
  (fX8_gain x1 (0 : Int32) v8 v9 M).bind fun v11 =>
  if v11 < 0 then
  (nq_lt (x3 + (1 : Int32)) fun v13 =>
  some (.inl (x2, v13)))
  else
  ((fX8_gain x1 (1 : Int32) v9 v8 M).bind fun v15 =>
  if v15 < 0 then
  (nq_lt (x3 + (1 : Int32)) fun v17 =>
  some (.inl (x2, v17)))
  else
  (nq_lt ((x2 ||| ((1 : Int32) <<< (x3 &&& 31)))) fun v18 =>
  nq_lt (x3 + (1 : Int32)) fun v19 =>
  some (.inl (v18, v19)))))
set_option maxHeartbeats 4000000 in
theorem mX8_rest_B17 {X : Cx} {E : Ev} {l : Launch} {K : List Sh} {x1 : Int32} {x2 : Int32} {x3 : Int32} {M : Mem} (hL : nq_atNine E K) (hX : nq_OK X E l (nq_rm 3) cX8_rest 6 RX8 wsX8_rest) {x : (Int32 × Int32) ⊕ (Int32)} (hc : ∀ s' : Int32 × Int32, x = .inl s' → nq_G X E 6 17 [(0, .ref (nq_ad E 0)), (1, .int x1), (2, .int s'.1), (3, .int s'.2)] [] K M) (he : ∀ s' : Int32, x = .inr s' → nq_G X E 6 70 [(2, .int s')] [] K M) (h : fX8_rest_B17 x1 x2 x3 M = some x) : nq_G X E 6 17 [(0, .ref (nq_ad E 0)), (1, .int x1), (2, .int x2), (3, .int x3)] [] K M := by
  unfold fX8_rest_B17 at h
  refine nq_iload_n hX rfl 3 rfl dX8_rest_17 ?_
  refine nq_iconst hX (v := 4) (by decide) dX8_rest_18 ?_
  refine nq_icmp_ge hX (tgt := 70) (by decide) dX8_rest_19 (fun c7 => ?_) (fun c7 => ?_)
  · rw [if_pos c7] at h
    refine nq_sub (lv' := [(2, .int x2)]) [2] rfl ?_
    exact he x2 (nq_sE h).symm
  · rw [if_neg c7] at h
    refine nq_iload_n hX rfl 3 rfl dX8_rest_22 ?_
    refine nq_iconst hX (v := 2) (by decide) dX8_rest_23 ?_
    obtain ⟨v8, e8, hn8, h⟩ := nq_ifE h
    refine nq_idiv hX hn8 e8 dX8_rest_24 ?_
    refine nq_istore hX (lv' := [(4, .int v8), (0, .ref (nq_ad E 0)), (1, .int x1), (2, .int x2), (3, .int x3)]) (by decide) rfl rfl dX8_rest_25 ?_
    refine nq_iload_n hX rfl 4 rfl dX8_rest_27 ?_
    refine nq_iconst hX (v := 2) (by decide) dX8_rest_28 ?_
    obtain ⟨v9, e9, hn9, h⟩ := nq_ifE h
    refine nq_irem hX hn9 e9 dX8_rest_29 ?_
    refine nq_istore hX (lv' := [(5, .int v9), (4, .int v8), (0, .ref (nq_ad E 0)), (1, .int x1), (2, .int x2), (3, .int x3)]) (by decide) rfl rfl dX8_rest_30 ?_
    refine nq_aload_n hX rfl 2 rfl dX8_rest_32 ?_
    refine nq_iload_n hX rfl 3 rfl dX8_rest_33 ?_
    refine nq_iconst hX (v := 0) (by decide) dX8_rest_34 ?_
    refine nq_iload hX 1 rfl dX8_rest_35 ?_
    refine nq_iload hX 0 rfl dX8_rest_37 ?_
    obtain ⟨v11, hc10, h⟩ := nq_bE h
    refine nq_callVi hX (tX8_gain hL hc10) gX8_rest_X8_gain rfl rfl dsX8_gain (by decide) (nq_Nine_0 hL) rfl rfl (Nat.le_of_ble_eq_true rfl) dX8_rest_39 ?_
    refine nq_if_lt hX (tgt := 64) (by decide) dX8_rest_42 (fun c12 => ?_) (fun c12 => ?_)
    · rw [if_pos c12] at h
      obtain ⟨v13, e13, h⟩ := nq_ltE h
      refine nq_iinc hX (lv' := [(3, .int v13), (5, .int v9), (4, .int v8), (0, .ref (nq_ad E 0)), (1, .int x1), (2, .int x2)]) (j := 5) rfl (e13.trans rfl) (by decide) rfl dX8_rest_64 ?_
      refine nq_goto hX (tgt := 17) (by decide) dX8_rest_67 ?_
      refine nq_sub (lv' := [(0, .ref (nq_ad E 0)), (1, .int x1), (2, .int x2), (3, .int v13)]) [3, 4, 5, 0] rfl ?_
      exact hc (x2, v13) (nq_sE h).symm
    · rw [if_neg c12] at h
      refine nq_aload_n hX rfl 2 rfl dX8_rest_45 ?_
      refine nq_iload_n hX rfl 3 rfl dX8_rest_46 ?_
      refine nq_iconst hX (v := 1) (by decide) dX8_rest_47 ?_
      refine nq_iload hX 0 rfl dX8_rest_48 ?_
      refine nq_iload hX 1 rfl dX8_rest_50 ?_
      obtain ⟨v15, hc14, h⟩ := nq_bE h
      refine nq_callVi hX (tX8_gain hL hc14) gX8_rest_X8_gain rfl rfl dsX8_gain (by decide) (nq_Nine_0 hL) rfl rfl (Nat.le_of_ble_eq_true rfl) dX8_rest_52 ?_
      refine nq_if_lt hX (tgt := 64) (by decide) dX8_rest_55 (fun c16 => ?_) (fun c16 => ?_)
      · rw [if_pos c16] at h
        obtain ⟨v17, e17, h⟩ := nq_ltE h
        refine nq_iinc hX (lv' := [(3, .int v17), (5, .int v9), (4, .int v8), (0, .ref (nq_ad E 0)), (1, .int x1), (2, .int x2)]) (j := 5) rfl (e17.trans rfl) (by decide) rfl dX8_rest_64 ?_
        refine nq_goto hX (tgt := 17) (by decide) dX8_rest_67 ?_
        refine nq_sub (lv' := [(0, .ref (nq_ad E 0)), (1, .int x1), (2, .int x2), (3, .int v17)]) [3, 4, 5, 0] rfl ?_
        exact hc (x2, v17) (nq_sE h).symm
      · rw [if_neg c16] at h
        refine nq_iload_n hX rfl 4 rfl dX8_rest_58 ?_
        refine nq_iconst hX (v := 1) (by decide) dX8_rest_59 ?_
        refine nq_iload_n hX rfl 5 rfl dX8_rest_60 ?_
        refine nq_ishl hX dX8_rest_61 ?_
        refine nq_ior hX dX8_rest_62 ?_
        obtain ⟨v18, e18, h⟩ := nq_ltE h
        refine nq_istore_n hX (lv' := [(2, .int v18), (5, .int v9), (4, .int v8), (0, .ref (nq_ad E 0)), (1, .int x1), (3, .int x3)]) rfl (by decide) e18 rfl dX8_rest_63 ?_
        obtain ⟨v19, e19, h⟩ := nq_ltE h
        refine nq_iinc hX (lv' := [(3, .int v19), (2, .int v18), (5, .int v9), (4, .int v8), (0, .ref (nq_ad E 0)), (1, .int x1)]) (j := 5) rfl (e19.trans rfl) (by decide) rfl dX8_rest_64 ?_
        refine nq_goto hX (tgt := 17) (by decide) dX8_rest_67 ?_
        refine nq_sub (lv' := [(0, .ref (nq_ad E 0)), (1, .int x1), (2, .int v18), (3, .int v19)]) [4, 5, 1, 0] rfl ?_
        exact hc (v18, v19) (nq_sE h).symm
def fX8_rest_L70 (x2 : Int32) (M : Mem) : Option (Int32 × Mem) :=
  some (x2, M)
set_option maxHeartbeats 4000000 in
theorem mX8_rest_L70 {X : Cx} {E : Ev} {l : Launch} {K : List Sh} {x2 : Int32} {M : Mem} {r : Int32} {M' : Mem} (hL : nq_atNine E K) (hX : nq_OK X E l (nq_rm 3) cX8_rest 6 RX8 wsX8_rest) (hr : nq_RT X E (some .int) (some (.int r)) K M') (h : fX8_rest_L70 x2 M = some (r, M')) : nq_G X E 6 70 [(2, .int x2)] [] K M := by
  unfold fX8_rest_L70 at h
  refine nq_iload_n hX rfl 0 rfl dX8_rest_70 ?_
  obtain ⟨rfl, rfl⟩ := nq_sE2 h; exact nq_iret hX hr dX8_rest_71
def fX8_rest_L17 (x1 : Int32) (x2 : Int32) (x3 : Int32) (M : Mem) : Option (Int32 × Mem) :=
  (nq_lp (fun s : Int32 × Int32 => fX8_rest_B17 x1 s.1 s.2 M) nq_fuel (x2, x3)).bind (fun e => fX8_rest_L70 e M)
set_option maxHeartbeats 4000000 in
theorem mX8_rest_L17 {X : Cx} {E : Ev} {l : Launch} {K : List Sh} {x1 : Int32} {x2 : Int32} {x3 : Int32} {M : Mem} {r : Int32} {M' : Mem} (hL : nq_atNine E K) (hX : nq_OK X E l (nq_rm 3) cX8_rest 6 RX8 wsX8_rest) (hr : nq_RT X E (some .int) (some (.int r)) K M') (h : fX8_rest_L17 x1 x2 x3 M = some (r, M')) : nq_G X E 6 17 [(0, .ref (nq_ad E 0)), (1, .int x1), (2, .int x2), (3, .int x3)] [] K M := by
  unfold fX8_rest_L17 at h
  obtain ⟨e, h1, h⟩ := nq_bE h
  have key : ∀ (ex : Int32), nq_lp (fun s : Int32 × Int32 => fX8_rest_B17 x1 s.1 s.2 M) nq_fuel (x2, x3) = some ex → (∀ e, ex = e → nq_G X E 6 70 [(2, .int e)] [] K M) → nq_G X E 6 17 [(0, .ref (nq_ad E 0)), (1, .int x1), (2, .int ((x2, x3).1)), (3, .int ((x2, x3).2))] [] K M := by
    intro ex h1 hE
    refine nq_lpE (P := fun s : Int32 × Int32 => nq_G X E 6 17 [(0, .ref (nq_ad E 0)), (1, .int x1), (2, .int s.1), (3, .int s.2)] [] K M) (r := ex) ?_ nq_fuel (x2, x3) h1
    intro s xx hx1 hc1 he1
    exact mX8_rest_B17 hL hX hc1 (fun e q => hE e (he1 _ q).symm) hx1
  refine key e h1 (fun e q => ?_)
  subst q
  exact mX8_rest_L70 hL hX hr h
def fX8_rest (x1 : Int32) (M : Mem) : Option (Int32 × Mem) :=
  (fX8_isPact x1 M).bind fun v2 =>
  if v2 = 0 then
  (nq_b2 (fX8_refuse (1 : Int32) M) fun v5 M6 =>
  some (v5, M6))
  else
  (fX8_rest_L17 x1 (0 : Int32) (0 : Int32) M)
set_option maxHeartbeats 4000000 in
theorem mX8_rest {X : Cx} {E : Ev} {l : Launch} {K : List Sh} {x1 : Int32} {M : Mem} {r : Int32} {M' : Mem} (hL : nq_atNine E K) (hX : nq_OK X E l (nq_rm 3) cX8_rest 6 RX8 wsX8_rest) (hr : nq_RT X E (some .int) (some (.int r)) K M') (h : fX8_rest x1 M = some (r, M')) : nq_G X E 6 0 [(0, .ref (nq_ad E 0)), (1, .int x1)] [] K M := by
  unfold fX8_rest at h
  refine nq_iload_n hX rfl 1 rfl dX8_rest_0 ?_
  obtain ⟨v2, hc1, h⟩ := nq_bE h
  refine nq_callSi hX (tX8_isPact  hc1) gX8_rest_X8_isPact rfl rfl dsX8_isPact (by decide) rfl (Nat.le_of_ble_eq_true rfl) dX8_rest_1 ?_
  refine nq_if_ne hX (tgt := 13) (by decide) dX8_rest_4 (fun c3 => ?_) (fun c3 => ?_)
  · rw [if_pos c3] at h
    refine nq_aload_n hX rfl 0 rfl dX8_rest_7 ?_
    refine nq_iconst hX (v := 1) (by decide) dX8_rest_8 ?_
    obtain ⟨v5, M6, hc4, h⟩ := nq_b2E h
    refine nq_callVi hX (tX8_refuse hL hc4) gX8_rest_X8_refuse rfl rfl dsX8_refuse (by decide) (nq_Nine_0 hL) rfl rfl (Nat.le_of_ble_eq_true rfl) dX8_rest_9 ?_
    obtain ⟨rfl, rfl⟩ := nq_sE2 h; exact nq_iret hX hr dX8_rest_12
  · rw [if_neg c3] at h
    refine nq_iconst hX (v := 0) (by decide) dX8_rest_13 ?_
    refine nq_istore_n hX (lv' := [(2, .int (0 : Int32)), (0, .ref (nq_ad E 0)), (1, .int x1)]) rfl (by decide) rfl rfl dX8_rest_14 ?_
    refine nq_iconst hX (v := 0) (by decide) dX8_rest_15 ?_
    refine nq_istore_n hX (lv' := [(3, .int (0 : Int32)), (2, .int (0 : Int32)), (0, .ref (nq_ad E 0)), (1, .int x1)]) rfl (by decide) rfl rfl dX8_rest_16 ?_
    refine nq_sub (lv' := [(0, .ref (nq_ad E 0)), (1, .int x1), (2, .int (0 : Int32)), (3, .int (0 : Int32))]) [2, 3, 1, 0] rfl ?_
    exact mX8_rest_L17 hL hX hr h
theorem dsX8_rest : yX8_rest.cls ≠ "java/lang/invoke/MethodHandle" ∧ yX8_rest.cls ≠ "java/lang/invoke/VarHandle" ∧ (parseMethodDescriptor yX8_rest.desc).map (fun d => d.parameters.length) = some 1 := by decide +kernel
theorem tX8_rest {l : Launch} {E : Ev} {K : List Sh} {x1 : Int32} {M : Mem} {r : Int32} {M' : Mem} (hL : nq_atNine E K) (h : fX8_rest x1 M = some (r, M')) : nq_MA l E yX8_rest wsX8_rest (nq_rm 3) [.ref (nq_ad E 0), .int x1] K M (some (.int r)) K M' :=
  nq_met (own := RX8) (cc := cX8_rest) (maxL := 6) (ret := (some .int)) (by decide) rfl rfl (Nat.le_of_ble_eq_true rfl) (fun X hX hr => mX8_rest hL hX hr h)

def fX8_answer (x1 : Int32) (x2 : Int32) (x3 : Int32) (M : Mem) : Option (Int32 × Mem) :=
  (fX8_isPact x1 M).bind fun v2 =>
  if v2 = 0 then
  (nq_b2 (fX8_refuse (1 : Int32) M) fun v5 M6 =>
  some (v5, M6))
  else
  ((fX8_isOutside x2 (0 : Int32) (1 : Int32) M).bind fun v8 =>
  if v8 = 0 then
  ((fX8_isOutside x3 (0 : Int32) (1 : Int32) M).bind fun v11 =>
  if v11 = 0 then
  ((fX8_gain x1 x2 (1 : Int32) x3 M).bind fun v14 =>
  if v14 ≤ 0 then
  (some ((0 : Int32), M))
  else
  (some ((1 : Int32), M)))
  else
  (nq_b2 (fX8_refuse (1 : Int32) M) fun v17 M18 =>
  some (v17, M18)))
  else
  (nq_b2 (fX8_refuse (1 : Int32) M) fun v20 M21 =>
  some (v20, M21)))
set_option maxHeartbeats 4000000 in
theorem mX8_answer {X : Cx} {E : Ev} {l : Launch} {K : List Sh} {x1 : Int32} {x2 : Int32} {x3 : Int32} {M : Mem} {r : Int32} {M' : Mem} (hL : nq_atNine E K) (hX : nq_OK X E l (nq_rm 3) cX8_answer 4 RX8 wsX8_answer) (hr : nq_RT X E (some .int) (some (.int r)) K M') (h : fX8_answer x1 x2 x3 M = some (r, M')) : nq_G X E 4 0 [(0, .ref (nq_ad E 0)), (1, .int x1), (2, .int x2), (3, .int x3)] [] K M := by
  unfold fX8_answer at h
  refine nq_iload_n hX rfl 1 rfl dX8_answer_0 ?_
  obtain ⟨v2, hc1, h⟩ := nq_bE h
  refine nq_callSi hX (tX8_isPact  hc1) gX8_answer_X8_isPact rfl rfl dsX8_isPact (by decide) rfl (Nat.le_of_ble_eq_true rfl) dX8_answer_1 ?_
  refine nq_if_eq hX (tgt := 25) (by decide) dX8_answer_4 (fun c3 => ?_) (fun c3 => ?_)
  · rw [if_pos c3] at h
    refine nq_aload_n hX rfl 0 rfl dX8_answer_25 ?_
    refine nq_iconst hX (v := 1) (by decide) dX8_answer_26 ?_
    obtain ⟨v5, M6, hc4, h⟩ := nq_b2E h
    refine nq_callVi hX (tX8_refuse hL hc4) gX8_answer_X8_refuse rfl rfl dsX8_refuse (by decide) (nq_Nine_0 hL) rfl rfl (Nat.le_of_ble_eq_true rfl) dX8_answer_27 ?_
    obtain ⟨rfl, rfl⟩ := nq_sE2 h; exact nq_iret hX hr dX8_answer_30
  · rw [if_neg c3] at h
    refine nq_iload_n hX rfl 2 rfl dX8_answer_7 ?_
    refine nq_iconst hX (v := 0) (by decide) dX8_answer_8 ?_
    refine nq_iconst hX (v := 1) (by decide) dX8_answer_9 ?_
    obtain ⟨v8, hc7, h⟩ := nq_bE h
    refine nq_callSi hX (tX8_isOutside  hc7) gX8_answer_X8_isOutside rfl rfl dsX8_isOutside (by decide) rfl (Nat.le_of_ble_eq_true rfl) dX8_answer_10 ?_
    refine nq_if_ne hX (tgt := 25) (by decide) dX8_answer_13 (fun c9 => ?_) (fun c9 => ?_)
    · rw [if_pos c9] at h
      refine nq_iload_n hX rfl 3 rfl dX8_answer_16 ?_
      refine nq_iconst hX (v := 0) (by decide) dX8_answer_17 ?_
      refine nq_iconst hX (v := 1) (by decide) dX8_answer_18 ?_
      obtain ⟨v11, hc10, h⟩ := nq_bE h
      refine nq_callSi hX (tX8_isOutside  hc10) gX8_answer_X8_isOutside rfl rfl dsX8_isOutside (by decide) rfl (Nat.le_of_ble_eq_true rfl) dX8_answer_19 ?_
      refine nq_if_eq hX (tgt := 31) (by decide) dX8_answer_22 (fun c12 => ?_) (fun c12 => ?_)
      · rw [if_pos c12] at h
        refine nq_aload_n hX rfl 0 rfl dX8_answer_31 ?_
        refine nq_iload_n hX rfl 1 rfl dX8_answer_32 ?_
        refine nq_iload_n hX rfl 2 rfl dX8_answer_33 ?_
        refine nq_iconst hX (v := 1) (by decide) dX8_answer_34 ?_
        refine nq_iload_n hX rfl 3 rfl dX8_answer_35 ?_
        obtain ⟨v14, hc13, h⟩ := nq_bE h
        refine nq_callVi hX (tX8_gain hL hc13) gX8_answer_X8_gain rfl rfl dsX8_gain (by decide) (nq_Nine_0 hL) rfl rfl (Nat.le_of_ble_eq_true rfl) dX8_answer_36 ?_
        refine nq_if_le hX (tgt := 46) (by decide) dX8_answer_39 (fun c15 => ?_) (fun c15 => ?_)
        · rw [if_pos c15] at h
          refine nq_iconst hX (v := 0) (by decide) dX8_answer_46 ?_
          obtain ⟨rfl, rfl⟩ := nq_sE2 h; exact nq_iret hX hr dX8_answer_47
        · rw [if_neg c15] at h
          refine nq_iconst hX (v := 1) (by decide) dX8_answer_42 ?_
          refine nq_goto hX (tgt := 47) (by decide) dX8_answer_43 ?_
          obtain ⟨rfl, rfl⟩ := nq_sE2 h; exact nq_iret hX hr dX8_answer_47
      · rw [if_neg c12] at h
        refine nq_aload_n hX rfl 0 rfl dX8_answer_25 ?_
        refine nq_iconst hX (v := 1) (by decide) dX8_answer_26 ?_
        obtain ⟨v17, M18, hc16, h⟩ := nq_b2E h
        refine nq_callVi hX (tX8_refuse hL hc16) gX8_answer_X8_refuse rfl rfl dsX8_refuse (by decide) (nq_Nine_0 hL) rfl rfl (Nat.le_of_ble_eq_true rfl) dX8_answer_27 ?_
        obtain ⟨rfl, rfl⟩ := nq_sE2 h; exact nq_iret hX hr dX8_answer_30
    · rw [if_neg c9] at h
      refine nq_aload_n hX rfl 0 rfl dX8_answer_25 ?_
      refine nq_iconst hX (v := 1) (by decide) dX8_answer_26 ?_
      obtain ⟨v20, M21, hc19, h⟩ := nq_b2E h
      refine nq_callVi hX (tX8_refuse hL hc19) gX8_answer_X8_refuse rfl rfl dsX8_refuse (by decide) (nq_Nine_0 hL) rfl rfl (Nat.le_of_ble_eq_true rfl) dX8_answer_27 ?_
      obtain ⟨rfl, rfl⟩ := nq_sE2 h; exact nq_iret hX hr dX8_answer_30
theorem dsX8_answer : yX8_answer.cls ≠ "java/lang/invoke/MethodHandle" ∧ yX8_answer.cls ≠ "java/lang/invoke/VarHandle" ∧ (parseMethodDescriptor yX8_answer.desc).map (fun d => d.parameters.length) = some 3 := by decide +kernel
theorem tX8_answer {l : Launch} {E : Ev} {K : List Sh} {x1 : Int32} {x2 : Int32} {x3 : Int32} {M : Mem} {r : Int32} {M' : Mem} (hL : nq_atNine E K) (h : fX8_answer x1 x2 x3 M = some (r, M')) : nq_MA l E yX8_answer wsX8_answer (nq_rm 3) [.ref (nq_ad E 0), .int x1, .int x2, .int x3] K M (some (.int r)) K M' :=
  nq_met (own := RX8) (cc := cX8_answer) (maxL := 4) (ret := (some .int)) (by decide) rfl rfl (Nat.le_of_ble_eq_true rfl) (fun X hX hr => mX8_answer hL hX hr h)

theorem inX8_work_8 : ∀ w ∈ u_ws RX8 TX8 11, w ∈ wsX8_work := by
  intro w h; unfold wsX8_work; simp only [List.mem_cons, List.mem_append]; simp only [h, true_or, or_true]
theorem lkX8_work_16 : Cond.fieldLink RX8 16 (TX8 1).1 (TX8 1).2.1 (TX8 1).2.2.1 ∈ wsX8_work := by decide +kernel
theorem inX8_work_7 : ∀ w ∈ u_ws RX7 TX7 17, w ∈ wsX8_work := by
  intro w h; unfold wsX8_work; simp only [List.mem_cons, List.mem_append]; simp only [h, true_or, or_true]
theorem lkX8_work_255 : Cond.fieldLink RX8 255 (TX7 15).1 (TX7 15).2.1 (TX7 15).2.2.1 ∈ wsX8_work := by decide +kernel
theorem lkX8_work_258 : Cond.fieldLink RX8 258 (TX7 6).1 (TX7 6).2.1 (TX7 6).2.2.1 ∈ wsX8_work := by decide +kernel
theorem lkX8_work_261 : Cond.fieldLink RX8 261 (TX7 7).1 (TX7 7).2.1 (TX7 7).2.2.1 ∈ wsX8_work := by decide +kernel
def fX8_work (x1 : Int32) (x2 : Int32) (M : Mem) : Option (Int32 × Mem) :=
  (fX8_isOutside x1 (0 : Int32) (999 : Int32) M).bind fun v2 =>
  if v2 = 0 then
  ((fX8_isOutside x2 (0 : Int32) (999 : Int32) M).bind fun v5 =>
  if v5 = 0 then
  (nq_lt (M 2 15) fun v7 =>
  if v7 < (8 : Int32) then
  (nq_lt (M 2 15) fun v9 =>
  (nq_as M 20 8 v9 x1).bind fun M10 =>
  nq_lt (M10 2 15) fun v11 =>
  (nq_as M10 21 8 v11 x2).bind fun M12 =>
  nq_lt (M12 2 15) fun v13 =>
  nq_lt (nq_wr M12 2 15 (v13 + (1 : Int32))) fun M14 =>
  nq_lt (M14 2 15) fun v15 =>
  some ((v15 - (1 : Int32)), M14))
  else
  (nq_b2 (fX8_refuse (4 : Int32) M) fun v17 M18 =>
  some (v17, M18)))
  else
  (nq_b2 (fX8_refuse (1 : Int32) M) fun v20 M21 =>
  some (v20, M21)))
  else
  (nq_b2 (fX8_refuse (1 : Int32) M) fun v23 M24 =>
  some (v23, M24))
set_option maxHeartbeats 4000000 in
theorem mX8_work {X : Cx} {E : Ev} {l : Launch} {K : List Sh} {x1 : Int32} {x2 : Int32} {M : Mem} {r : Int32} {M' : Mem} (hL : nq_atNine E K) (hX : nq_OK X E l (nq_rm 2) cX8_work 3 RX8 wsX8_work) (hr : nq_RT X E (some .int) (some (.int r)) K M') (h : fX8_work x1 x2 M = some (r, M')) : nq_G X E 3 0 [(0, .ref (nq_ad E 0)), (1, .int x1), (2, .int x2)] [] K M := by
  unfold fX8_work at h
  refine nq_iload_n hX rfl 1 rfl dX8_work_0 ?_
  refine nq_iconst hX (v := 0) (by decide) dX8_work_1 ?_
  refine nq_sipush hX (v := 999) (by decide) dX8_work_2 ?_
  obtain ⟨v2, hc1, h⟩ := nq_bE h
  refine nq_callSi hX (tX8_isOutside  hc1) gX8_work_X8_isOutside rfl rfl dsX8_isOutside (by decide) rfl (Nat.le_of_ble_eq_true rfl) dX8_work_5 ?_
  refine nq_if_ne hX (tgt := 22) (by decide) dX8_work_8 (fun c3 => ?_) (fun c3 => ?_)
  · rw [if_pos c3] at h
    refine nq_iload_n hX rfl 2 rfl dX8_work_11 ?_
    refine nq_iconst hX (v := 0) (by decide) dX8_work_12 ?_
    refine nq_sipush hX (v := 999) (by decide) dX8_work_13 ?_
    obtain ⟨v5, hc4, h⟩ := nq_bE h
    refine nq_callSi hX (tX8_isOutside  hc4) gX8_work_X8_isOutside rfl rfl dsX8_isOutside (by decide) rfl (Nat.le_of_ble_eq_true rfl) dX8_work_16 ?_
    refine nq_if_eq hX (tgt := 28) (by decide) dX8_work_19 (fun c6 => ?_) (fun c6 => ?_)
    · rw [if_pos c6] at h
      refine nq_aload_n hX rfl 0 rfl dX8_work_28 ?_
      refine nq_getr (v := .ref (nq_ad E 2)) hX inX8_work_8 (nq_Nine_0 hL) rfl 1 (by decide) lkX8_work_16 _ rfl rfl dX8_work_29 ?_
      obtain ⟨v7, e7, h⟩ := nq_ltE h
      refine nq_geti hX inX8_work_7 (nq_World_0 (nq_Nine_world hL)) rfl 15 (by decide) lkX8_work_255 rfl e7 dX8_work_32 ?_
      refine nq_bipush hX (v := 8) (by decide) dX8_work_35 ?_
      refine nq_icmp_lt hX (tgt := 46) (by decide) dX8_work_37 (fun c8 => ?_) (fun c8 => ?_)
      · rw [if_pos c8] at h
        refine nq_aload_n hX rfl 0 rfl dX8_work_46 ?_
        refine nq_getr (v := .ref (nq_ad E 2)) hX inX8_work_8 (nq_Nine_0 hL) rfl 1 (by decide) lkX8_work_16 _ rfl rfl dX8_work_47 ?_
        refine nq_getr (v := .ref (nq_ad E 20)) hX inX8_work_7 (nq_World_0 (nq_Nine_world hL)) rfl 6 (by decide) lkX8_work_258 _ rfl rfl dX8_work_50 ?_
        refine nq_aload_n hX rfl 0 rfl dX8_work_53 ?_
        refine nq_getr (v := .ref (nq_ad E 2)) hX inX8_work_8 (nq_Nine_0 hL) rfl 1 (by decide) lkX8_work_16 _ rfl rfl dX8_work_54 ?_
        obtain ⟨v9, e9, h⟩ := nq_ltE h
        refine nq_geti hX inX8_work_7 (nq_World_0 (nq_Nine_world hL)) rfl 15 (by decide) lkX8_work_255 rfl e9 dX8_work_57 ?_
        refine nq_iload_n hX rfl 1 rfl dX8_work_60 ?_
        obtain ⟨M10, e10, hi10, h⟩ := nq_asE h
        refine nq_iast hX (nq_World_costs (nq_Nine_world hL)) e10 hi10 dX8_work_61 ?_
        refine nq_aload_n hX rfl 0 rfl dX8_work_62 ?_
        refine nq_getr (v := .ref (nq_ad E 2)) hX inX8_work_8 (nq_Nine_0 hL) rfl 1 (by decide) lkX8_work_16 _ rfl rfl dX8_work_63 ?_
        refine nq_getr (v := .ref (nq_ad E 21)) hX inX8_work_7 (nq_World_0 (nq_Nine_world hL)) rfl 7 (by decide) lkX8_work_261 _ rfl rfl dX8_work_66 ?_
        refine nq_aload_n hX rfl 0 rfl dX8_work_69 ?_
        refine nq_getr (v := .ref (nq_ad E 2)) hX inX8_work_8 (nq_Nine_0 hL) rfl 1 (by decide) lkX8_work_16 _ rfl rfl dX8_work_70 ?_
        obtain ⟨v11, e11, h⟩ := nq_ltE h
        refine nq_geti hX inX8_work_7 (nq_World_0 (nq_Nine_world hL)) rfl 15 (by decide) lkX8_work_255 rfl e11 dX8_work_73 ?_
        refine nq_iload_n hX rfl 2 rfl dX8_work_76 ?_
        obtain ⟨M12, e12, hi12, h⟩ := nq_asE h
        refine nq_iast hX (nq_World_worths (nq_Nine_world hL)) e12 hi12 dX8_work_77 ?_
        refine nq_aload_n hX rfl 0 rfl dX8_work_78 ?_
        refine nq_getr (v := .ref (nq_ad E 2)) hX inX8_work_8 (nq_Nine_0 hL) rfl 1 (by decide) lkX8_work_16 _ rfl rfl dX8_work_79 ?_
        refine nq_dup hX rfl dX8_work_82 ?_
        obtain ⟨v13, e13, h⟩ := nq_ltE h
        refine nq_geti hX inX8_work_7 (nq_World_0 (nq_Nine_world hL)) rfl 15 (by decide) lkX8_work_255 rfl e13 dX8_work_83 ?_
        refine nq_iconst hX (v := 1) (by decide) dX8_work_86 ?_
        refine nq_iadd hX dX8_work_87 ?_
        obtain ⟨M14, eM14, h⟩ := nq_ltE h
        refine nq_puti hX inX8_work_7 tyX7 tyX7_ok nmX7 (nq_World_0 (nq_Nine_world hL)) rfl 15 (by decide) lkX8_work_255 rfl rfl rfl rfl rfl eM14 dX8_work_88 ?_
        refine nq_aload_n hX rfl 0 rfl dX8_work_91 ?_
        refine nq_getr (v := .ref (nq_ad E 2)) hX inX8_work_8 (nq_Nine_0 hL) rfl 1 (by decide) lkX8_work_16 _ rfl rfl dX8_work_92 ?_
        obtain ⟨v15, e15, h⟩ := nq_ltE h
        refine nq_geti hX inX8_work_7 (nq_World_0 (nq_Nine_world hL)) rfl 15 (by decide) lkX8_work_255 rfl e15 dX8_work_95 ?_
        refine nq_iconst hX (v := 1) (by decide) dX8_work_98 ?_
        refine nq_isub hX dX8_work_99 ?_
        obtain ⟨rfl, rfl⟩ := nq_sE2 h; exact nq_iret hX hr dX8_work_100
      · rw [if_neg c8] at h
        refine nq_aload_n hX rfl 0 rfl dX8_work_40 ?_
        refine nq_iconst hX (v := 4) (by decide) dX8_work_41 ?_
        obtain ⟨v17, M18, hc16, h⟩ := nq_b2E h
        refine nq_callVi hX (tX8_refuse hL hc16) gX8_work_X8_refuse rfl rfl dsX8_refuse (by decide) (nq_Nine_0 hL) rfl rfl (Nat.le_of_ble_eq_true rfl) dX8_work_42 ?_
        obtain ⟨rfl, rfl⟩ := nq_sE2 h; exact nq_iret hX hr dX8_work_45
    · rw [if_neg c6] at h
      refine nq_aload_n hX rfl 0 rfl dX8_work_22 ?_
      refine nq_iconst hX (v := 1) (by decide) dX8_work_23 ?_
      obtain ⟨v20, M21, hc19, h⟩ := nq_b2E h
      refine nq_callVi hX (tX8_refuse hL hc19) gX8_work_X8_refuse rfl rfl dsX8_refuse (by decide) (nq_Nine_0 hL) rfl rfl (Nat.le_of_ble_eq_true rfl) dX8_work_24 ?_
      obtain ⟨rfl, rfl⟩ := nq_sE2 h; exact nq_iret hX hr dX8_work_27
  · rw [if_neg c3] at h
    refine nq_aload_n hX rfl 0 rfl dX8_work_22 ?_
    refine nq_iconst hX (v := 1) (by decide) dX8_work_23 ?_
    obtain ⟨v23, M24, hc22, h⟩ := nq_b2E h
    refine nq_callVi hX (tX8_refuse hL hc22) gX8_work_X8_refuse rfl rfl dsX8_refuse (by decide) (nq_Nine_0 hL) rfl rfl (Nat.le_of_ble_eq_true rfl) dX8_work_24 ?_
    obtain ⟨rfl, rfl⟩ := nq_sE2 h; exact nq_iret hX hr dX8_work_27
theorem dsX8_work : yX8_work.cls ≠ "java/lang/invoke/MethodHandle" ∧ yX8_work.cls ≠ "java/lang/invoke/VarHandle" ∧ (parseMethodDescriptor yX8_work.desc).map (fun d => d.parameters.length) = some 2 := by decide +kernel
theorem tX8_work {l : Launch} {E : Ev} {K : List Sh} {x1 : Int32} {x2 : Int32} {M : Mem} {r : Int32} {M' : Mem} (hL : nq_atNine E K) (h : fX8_work x1 x2 M = some (r, M')) : nq_MA l E yX8_work wsX8_work (nq_rm 2) [.ref (nq_ad E 0), .int x1, .int x2] K M (some (.int r)) K M' :=
  nq_met (own := RX8) (cc := cX8_work) (maxL := 3) (ret := (some .int)) (by decide) rfl rfl (Nat.le_of_ble_eq_true rfl) (fun X hX hr => mX8_work hL hX hr h)

theorem inX8_isWorthwhile_8 : ∀ w ∈ u_ws RX8 TX8 11, w ∈ wsX8_isWorthwhile := by
  intro w h; unfold wsX8_isWorthwhile; simp only [List.mem_cons, List.mem_append]; simp only [h, true_or, or_true]
theorem lkX8_isWorthwhile_16 : Cond.fieldLink RX8 16 (TX8 1).1 (TX8 1).2.1 (TX8 1).2.2.1 ∈ wsX8_isWorthwhile := by decide +kernel
theorem inX8_isWorthwhile_7 : ∀ w ∈ u_ws RX7 TX7 17, w ∈ wsX8_isWorthwhile := by
  intro w h; unfold wsX8_isWorthwhile; simp only [List.mem_cons, List.mem_append]; simp only [h, true_or, or_true]
theorem lkX8_isWorthwhile_261 : Cond.fieldLink RX8 261 (TX7 7).1 (TX7 7).2.1 (TX7 7).2.2.1 ∈ wsX8_isWorthwhile := by decide +kernel
theorem lkX8_isWorthwhile_258 : Cond.fieldLink RX8 258 (TX7 6).1 (TX7 6).2.1 (TX7 6).2.2.1 ∈ wsX8_isWorthwhile := by decide +kernel
def fX8_isWorthwhile (x1 : Int32) (x2 : Int32) (x3 : Int32) (M : Mem) : Option (Int32) :=
  (nq_ag (M 21) 8 x1).bind fun v1 =>
  (nq_ag (M 20) 8 x1).bind fun v2 =>
  if (v1 * x2) ≤ (v2 * x3) then
  (some (0 : Int32))
  else
  (some (1 : Int32))
set_option maxHeartbeats 4000000 in
theorem mX8_isWorthwhile {X : Cx} {E : Ev} {l : Launch} {K : List Sh} {x1 : Int32} {x2 : Int32} {x3 : Int32} {M : Mem} {r : Int32} (hL : nq_atNine E K) (hX : nq_OK X E l (nq_rm 1) cX8_isWorthwhile 4 RX8 wsX8_isWorthwhile) (hr : nq_RT X E (some .boolean) (some (.int r)) K M) (h : fX8_isWorthwhile x1 x2 x3 M = some r) : nq_G X E 4 0 [(0, .ref (nq_ad E 0)), (1, .int x1), (2, .int x2), (3, .int x3)] [] K M := by
  unfold fX8_isWorthwhile at h
  refine nq_aload_n hX rfl 0 rfl dX8_isWorthwhile_0 ?_
  refine nq_getr (v := .ref (nq_ad E 2)) hX inX8_isWorthwhile_8 (nq_Nine_0 hL) rfl 1 (by decide) lkX8_isWorthwhile_16 _ rfl rfl dX8_isWorthwhile_1 ?_
  refine nq_getr (v := .ref (nq_ad E 21)) hX inX8_isWorthwhile_7 (nq_World_0 (nq_Nine_world hL)) rfl 7 (by decide) lkX8_isWorthwhile_261 _ rfl rfl dX8_isWorthwhile_4 ?_
  refine nq_iload_n hX rfl 1 rfl dX8_isWorthwhile_7 ?_
  obtain ⟨v1, e1, hi1, h⟩ := nq_agE h
  refine nq_iald hX (nq_World_worths (nq_Nine_world hL)) e1 hi1 dX8_isWorthwhile_8 ?_
  refine nq_iload_n hX rfl 2 rfl dX8_isWorthwhile_9 ?_
  refine nq_imul hX dX8_isWorthwhile_10 ?_
  refine nq_aload_n hX rfl 0 rfl dX8_isWorthwhile_11 ?_
  refine nq_getr (v := .ref (nq_ad E 2)) hX inX8_isWorthwhile_8 (nq_Nine_0 hL) rfl 1 (by decide) lkX8_isWorthwhile_16 _ rfl rfl dX8_isWorthwhile_12 ?_
  refine nq_getr (v := .ref (nq_ad E 20)) hX inX8_isWorthwhile_7 (nq_World_0 (nq_Nine_world hL)) rfl 6 (by decide) lkX8_isWorthwhile_258 _ rfl rfl dX8_isWorthwhile_15 ?_
  refine nq_iload_n hX rfl 1 rfl dX8_isWorthwhile_18 ?_
  obtain ⟨v2, e2, hi2, h⟩ := nq_agE h
  refine nq_iald hX (nq_World_costs (nq_Nine_world hL)) e2 hi2 dX8_isWorthwhile_19 ?_
  refine nq_iload_n hX rfl 3 rfl dX8_isWorthwhile_20 ?_
  refine nq_imul hX dX8_isWorthwhile_21 ?_
  refine nq_icmp_le hX (tgt := 29) (by decide) dX8_isWorthwhile_22 (fun c3 => ?_) (fun c3 => ?_)
  · rw [if_pos c3] at h
    refine nq_iconst hX (v := 0) (by decide) dX8_isWorthwhile_29 ?_
    obtain rfl := nq_sE1 h; exact nq_zret hX hr rfl dX8_isWorthwhile_30
  · rw [if_neg c3] at h
    refine nq_iconst hX (v := 1) (by decide) dX8_isWorthwhile_25 ?_
    refine nq_goto hX (tgt := 30) (by decide) dX8_isWorthwhile_26 ?_
    obtain rfl := nq_sE1 h; exact nq_zret hX hr rfl dX8_isWorthwhile_30
theorem dsX8_isWorthwhile : yX8_isWorthwhile.cls ≠ "java/lang/invoke/MethodHandle" ∧ yX8_isWorthwhile.cls ≠ "java/lang/invoke/VarHandle" ∧ (parseMethodDescriptor yX8_isWorthwhile.desc).map (fun d => d.parameters.length) = some 3 := by decide +kernel
theorem tX8_isWorthwhile {l : Launch} {E : Ev} {K : List Sh} {x1 : Int32} {x2 : Int32} {x3 : Int32} {M : Mem} {r : Int32} (hL : nq_atNine E K) (h : fX8_isWorthwhile x1 x2 x3 M = some r) : nq_MA l E yX8_isWorthwhile wsX8_isWorthwhile (nq_rm 1) [.ref (nq_ad E 0), .int x1, .int x2, .int x3] K M (some (.int r)) K M :=
  nq_met (own := RX8) (cc := cX8_isWorthwhile) (maxL := 4) (ret := (some .boolean)) (by decide) rfl rfl (Nat.le_of_ble_eq_true rfl) (fun X hX hr => mX8_isWorthwhile hL hX hr h)

theorem inX8_blind_8 : ∀ w ∈ u_ws RX8 TX8 11, w ∈ wsX8_blind := by
  intro w h; unfold wsX8_blind; simp only [List.mem_cons, List.mem_append]; simp only [h, true_or, or_true]
theorem lkX8_blind_16 : Cond.fieldLink RX8 16 (TX8 1).1 (TX8 1).2.1 (TX8 1).2.2.1 ∈ wsX8_blind := by decide +kernel
theorem inX8_blind_7 : ∀ w ∈ u_ws RX7 TX7 17, w ∈ wsX8_blind := by
  intro w h; unfold wsX8_blind; simp only [List.mem_cons, List.mem_append]; simp only [h, true_or, or_true]
theorem lkX8_blind_255 : Cond.fieldLink RX8 255 (TX7 15).1 (TX7 15).2.1 (TX7 15).2.2.1 ∈ wsX8_blind := by decide +kernel
def fX8_blind (x1 : Int32) (x2 : Int32) (M : Mem) : Option (Int32 × Mem) :=
  nq_lt (M 2 15) fun v1 =>
  (fX8_isOutside x1 (0 : Int32) (v1 - (1 : Int32)) M).bind fun v3 =>
  if v3 = 0 then
  ((fX8_isPart x2 (9 : Int32) M).bind fun v6 =>
  if v6 = 0 then
  (nq_b2 (fX8_refuse (1 : Int32) M) fun v9 M10 =>
  some (v9, M10))
  else
  ((nq_dv x2 (10 : Int32)).bind fun v11 =>
  (nq_rem x2 (10 : Int32)).bind fun v12 =>
  (fX8_isWorthwhile x1 v11 v12 M).bind fun v14 =>
  if v14 = 0 then
  (some ((0 : Int32), M))
  else
  (some ((1 : Int32), M))))
  else
  (nq_b2 (fX8_refuse (1 : Int32) M) fun v17 M18 =>
  some (v17, M18))
set_option maxHeartbeats 4000000 in
theorem mX8_blind {X : Cx} {E : Ev} {l : Launch} {K : List Sh} {x1 : Int32} {x2 : Int32} {M : Mem} {r : Int32} {M' : Mem} (hL : nq_atNine E K) (hX : nq_OK X E l (nq_rm 3) cX8_blind 3 RX8 wsX8_blind) (hr : nq_RT X E (some .int) (some (.int r)) K M') (h : fX8_blind x1 x2 M = some (r, M')) : nq_G X E 3 0 [(0, .ref (nq_ad E 0)), (1, .int x1), (2, .int x2)] [] K M := by
  unfold fX8_blind at h
  refine nq_iload_n hX rfl 1 rfl dX8_blind_0 ?_
  refine nq_iconst hX (v := 0) (by decide) dX8_blind_1 ?_
  refine nq_aload_n hX rfl 0 rfl dX8_blind_2 ?_
  refine nq_getr (v := .ref (nq_ad E 2)) hX inX8_blind_8 (nq_Nine_0 hL) rfl 1 (by decide) lkX8_blind_16 _ rfl rfl dX8_blind_3 ?_
  obtain ⟨v1, e1, h⟩ := nq_ltE h
  refine nq_geti hX inX8_blind_7 (nq_World_0 (nq_Nine_world hL)) rfl 15 (by decide) lkX8_blind_255 rfl e1 dX8_blind_6 ?_
  refine nq_iconst hX (v := 1) (by decide) dX8_blind_9 ?_
  refine nq_isub hX dX8_blind_10 ?_
  obtain ⟨v3, hc2, h⟩ := nq_bE h
  refine nq_callSi hX (tX8_isOutside  hc2) gX8_blind_X8_isOutside rfl rfl dsX8_isOutside (by decide) rfl (Nat.le_of_ble_eq_true rfl) dX8_blind_11 ?_
  refine nq_if_ne hX (tgt := 26) (by decide) dX8_blind_14 (fun c4 => ?_) (fun c4 => ?_)
  · rw [if_pos c4] at h
    refine nq_iload_n hX rfl 2 rfl dX8_blind_17 ?_
    refine nq_bipush hX (v := 9) (by decide) dX8_blind_18 ?_
    obtain ⟨v6, hc5, h⟩ := nq_bE h
    refine nq_callSi hX (tX8_isPart  hc5) gX8_blind_X8_isPart rfl rfl dsX8_isPart (by decide) rfl (Nat.le_of_ble_eq_true rfl) dX8_blind_20 ?_
    refine nq_if_ne hX (tgt := 32) (by decide) dX8_blind_23 (fun c7 => ?_) (fun c7 => ?_)
    · rw [if_pos c7] at h
      refine nq_aload_n hX rfl 0 rfl dX8_blind_26 ?_
      refine nq_iconst hX (v := 1) (by decide) dX8_blind_27 ?_
      obtain ⟨v9, M10, hc8, h⟩ := nq_b2E h
      refine nq_callVi hX (tX8_refuse hL hc8) gX8_blind_X8_refuse rfl rfl dsX8_refuse (by decide) (nq_Nine_0 hL) rfl rfl (Nat.le_of_ble_eq_true rfl) dX8_blind_28 ?_
      obtain ⟨rfl, rfl⟩ := nq_sE2 h; exact nq_iret hX hr dX8_blind_31
    · rw [if_neg c7] at h
      refine nq_aload_n hX rfl 0 rfl dX8_blind_32 ?_
      refine nq_iload_n hX rfl 1 rfl dX8_blind_33 ?_
      refine nq_iload_n hX rfl 2 rfl dX8_blind_34 ?_
      refine nq_bipush hX (v := 10) (by decide) dX8_blind_35 ?_
      obtain ⟨v11, e11, hn11, h⟩ := nq_ifE h
      refine nq_idiv hX hn11 e11 dX8_blind_37 ?_
      refine nq_iload_n hX rfl 2 rfl dX8_blind_38 ?_
      refine nq_bipush hX (v := 10) (by decide) dX8_blind_39 ?_
      obtain ⟨v12, e12, hn12, h⟩ := nq_ifE h
      refine nq_irem hX hn12 e12 dX8_blind_41 ?_
      obtain ⟨v14, hc13, h⟩ := nq_bE h
      refine nq_callVi hX (tX8_isWorthwhile hL hc13) gX8_blind_X8_isWorthwhile rfl rfl dsX8_isWorthwhile (by decide) (nq_Nine_0 hL) rfl rfl (Nat.le_of_ble_eq_true rfl) dX8_blind_42 ?_
      refine nq_if_eq hX (tgt := 52) (by decide) dX8_blind_45 (fun c15 => ?_) (fun c15 => ?_)
      · rw [if_pos c15] at h
        refine nq_iconst hX (v := 0) (by decide) dX8_blind_52 ?_
        obtain ⟨rfl, rfl⟩ := nq_sE2 h; exact nq_iret hX hr dX8_blind_53
      · rw [if_neg c15] at h
        refine nq_iconst hX (v := 1) (by decide) dX8_blind_48 ?_
        refine nq_goto hX (tgt := 53) (by decide) dX8_blind_49 ?_
        obtain ⟨rfl, rfl⟩ := nq_sE2 h; exact nq_iret hX hr dX8_blind_53
  · rw [if_neg c4] at h
    refine nq_aload_n hX rfl 0 rfl dX8_blind_26 ?_
    refine nq_iconst hX (v := 1) (by decide) dX8_blind_27 ?_
    obtain ⟨v17, M18, hc16, h⟩ := nq_b2E h
    refine nq_callVi hX (tX8_refuse hL hc16) gX8_blind_X8_refuse rfl rfl dsX8_refuse (by decide) (nq_Nine_0 hL) rfl rfl (Nat.le_of_ble_eq_true rfl) dX8_blind_28 ?_
    obtain ⟨rfl, rfl⟩ := nq_sE2 h; exact nq_iret hX hr dX8_blind_31
theorem dsX8_blind : yX8_blind.cls ≠ "java/lang/invoke/MethodHandle" ∧ yX8_blind.cls ≠ "java/lang/invoke/VarHandle" ∧ (parseMethodDescriptor yX8_blind.desc).map (fun d => d.parameters.length) = some 2 := by decide +kernel
theorem tX8_blind {l : Launch} {E : Ev} {K : List Sh} {x1 : Int32} {x2 : Int32} {M : Mem} {r : Int32} {M' : Mem} (hL : nq_atNine E K) (h : fX8_blind x1 x2 M = some (r, M')) : nq_MA l E yX8_blind wsX8_blind (nq_rm 3) [.ref (nq_ad E 0), .int x1, .int x2] K M (some (.int r)) K M' :=
  nq_met (own := RX8) (cc := cX8_blind) (maxL := 3) (ret := (some .int)) (by decide) rfl rfl (Nat.le_of_ble_eq_true rfl) (fun X hX hr => mX8_blind hL hX hr h)

theorem inX8_edge_8 : ∀ w ∈ u_ws RX8 TX8 11, w ∈ wsX8_edge := by
  intro w h; unfold wsX8_edge; simp only [List.mem_cons, List.mem_append]; simp only [h, true_or, or_true]
theorem lkX8_edge_16 : Cond.fieldLink RX8 16 (TX8 1).1 (TX8 1).2.1 (TX8 1).2.2.1 ∈ wsX8_edge := by decide +kernel
theorem inX8_edge_7 : ∀ w ∈ u_ws RX7 TX7 17, w ∈ wsX8_edge := by
  intro w h; unfold wsX8_edge; simp only [List.mem_cons, List.mem_append]; simp only [h, true_or, or_true]
theorem lkX8_edge_255 : Cond.fieldLink RX8 255 (TX7 15).1 (TX7 15).2.1 (TX7 15).2.2.1 ∈ wsX8_edge := by decide +kernel
def fX8_edge_B35 (x1 : Int32) (x2 : Int32) (x3 : Int32) (M : Mem) : Option ((Int32) ⊕ ((Unit) ⊕ (Int32 × Mem))) :=
  if x2 < x3 then
  (some (.inr (.inl ())))
  else
  ((fX8_isWorthwhile x1 x3 x2 M).bind fun v10 =>
  if v10 = 0 then
  (nq_lt (x3 + (1 : Int32)) fun v12 =>
  some (.inl v12))
  else
  (some (.inr (.inr (x3, M)))))
set_option maxHeartbeats 4000000 in
theorem mX8_edge_B35 {X : Cx} {E : Ev} {l : Launch} {K : List Sh} {x1 : Int32} {x2 : Int32} {x3 : Int32} {M : Mem} (hL : nq_atNine E K) (hX : nq_OK X E l (nq_rm 2) cX8_edge 4 RX8 wsX8_edge) {x : (Int32) ⊕ ((Unit) ⊕ (Int32 × Mem))} (hc : ∀ s' : Int32, x = .inl s' → nq_G X E 4 35 [(0, .ref (nq_ad E 0)), (1, .int x1), (2, .int x2), (3, .int s')] [] K M) (he : ∀ s' : Unit, x = .inr (.inl s') → nq_G X E 4 58 [(0, .ref (nq_ad E 0))] [] K M) (hret : ∀ r : Int32 × Mem, x = .inr (.inr r) → nq_RT X E (some .int) (some (.int r.1)) K r.2) (h : fX8_edge_B35 x1 x2 x3 M = some x) : nq_G X E 4 35 [(0, .ref (nq_ad E 0)), (1, .int x1), (2, .int x2), (3, .int x3)] [] K M := by
  unfold fX8_edge_B35 at h
  refine nq_iload_n hX rfl 3 rfl dX8_edge_35 ?_
  refine nq_iload_n hX rfl 2 rfl dX8_edge_36 ?_
  refine nq_icmp_gt hX (tgt := 58) (by decide) dX8_edge_37 (fun c8 => ?_) (fun c8 => ?_)
  · rw [if_pos c8] at h
    refine nq_sub (lv' := [(0, .ref (nq_ad E 0))]) [0] rfl ?_
    exact he () (nq_sE h).symm
  · rw [if_neg c8] at h
    refine nq_aload_n hX rfl 0 rfl dX8_edge_40 ?_
    refine nq_iload_n hX rfl 1 rfl dX8_edge_41 ?_
    refine nq_iload_n hX rfl 3 rfl dX8_edge_42 ?_
    refine nq_iload_n hX rfl 2 rfl dX8_edge_43 ?_
    obtain ⟨v10, hc9, h⟩ := nq_bE h
    refine nq_callVi hX (tX8_isWorthwhile hL hc9) gX8_edge_X8_isWorthwhile rfl rfl dsX8_isWorthwhile (by decide) (nq_Nine_0 hL) rfl rfl (Nat.le_of_ble_eq_true rfl) dX8_edge_44 ?_
    refine nq_if_eq hX (tgt := 52) (by decide) dX8_edge_47 (fun c11 => ?_) (fun c11 => ?_)
    · rw [if_pos c11] at h
      obtain ⟨v12, e12, h⟩ := nq_ltE h
      refine nq_iinc hX (lv' := [(3, .int v12), (0, .ref (nq_ad E 0)), (1, .int x1), (2, .int x2)]) (j := 3) rfl (e12.trans rfl) (by decide) rfl dX8_edge_52 ?_
      refine nq_goto hX (tgt := 35) (by decide) dX8_edge_55 ?_
      refine nq_sub (lv' := [(0, .ref (nq_ad E 0)), (1, .int x1), (2, .int x2), (3, .int v12)]) [1, 2, 3, 0] rfl ?_
      exact hc v12 (nq_sE h).symm
    · rw [if_neg c11] at h
      refine nq_iload_n hX rfl 3 rfl dX8_edge_50 ?_
      exact nq_iret hX (hret (x3, M) (nq_sE h).symm) dX8_edge_51
def fX8_edge_L58 (M : Mem) : Option (Int32 × Mem) :=
  nq_b2 (fX8_refuse (2 : Int32) M) fun v14 M15 =>
  some (v14, M15)
set_option maxHeartbeats 4000000 in
theorem mX8_edge_L58 {X : Cx} {E : Ev} {l : Launch} {K : List Sh} {M : Mem} {r : Int32} {M' : Mem} (hL : nq_atNine E K) (hX : nq_OK X E l (nq_rm 2) cX8_edge 4 RX8 wsX8_edge) (hr : nq_RT X E (some .int) (some (.int r)) K M') (h : fX8_edge_L58 M = some (r, M')) : nq_G X E 4 58 [(0, .ref (nq_ad E 0))] [] K M := by
  unfold fX8_edge_L58 at h
  refine nq_aload_n hX rfl 0 rfl dX8_edge_58 ?_
  refine nq_iconst hX (v := 2) (by decide) dX8_edge_59 ?_
  obtain ⟨v14, M15, hc13, h⟩ := nq_b2E h
  refine nq_callVi hX (tX8_refuse hL hc13) gX8_edge_X8_refuse rfl rfl dsX8_refuse (by decide) (nq_Nine_0 hL) rfl rfl (Nat.le_of_ble_eq_true rfl) dX8_edge_60 ?_
  obtain ⟨rfl, rfl⟩ := nq_sE2 h; exact nq_iret hX hr dX8_edge_63
def fX8_edge_L35 (x1 : Int32) (x2 : Int32) (x3 : Int32) (M : Mem) : Option (Int32 × Mem) :=
  (nq_lp (fun s : Int32 => fX8_edge_B35 x1 x2 s M) nq_fuel x3).bind (Sum.elim (fun e => fX8_edge_L58 M) (fun r1 => some r1))
set_option maxHeartbeats 4000000 in
theorem mX8_edge_L35 {X : Cx} {E : Ev} {l : Launch} {K : List Sh} {x1 : Int32} {x2 : Int32} {x3 : Int32} {M : Mem} {r : Int32} {M' : Mem} (hL : nq_atNine E K) (hX : nq_OK X E l (nq_rm 2) cX8_edge 4 RX8 wsX8_edge) (hr : nq_RT X E (some .int) (some (.int r)) K M') (h : fX8_edge_L35 x1 x2 x3 M = some (r, M')) : nq_G X E 4 35 [(0, .ref (nq_ad E 0)), (1, .int x1), (2, .int x2), (3, .int x3)] [] K M := by
  unfold fX8_edge_L35 at h
  obtain ⟨e, h1, h⟩ := nq_bE h
  have key : ∀ (ex : (Unit) ⊕ (Int32 × Mem)), nq_lp (fun s : Int32 => fX8_edge_B35 x1 x2 s M) nq_fuel x3 = some ex → (∀ e, ex = .inl e → nq_G X E 4 58 [(0, .ref (nq_ad E 0))] [] K M) → (∀ r, ex = .inr r → nq_RT X E (some .int) (some (.int r.1)) K r.2) → nq_G X E 4 35 [(0, .ref (nq_ad E 0)), (1, .int x1), (2, .int x2), (3, .int x3)] [] K M := by
    intro ex h1 hE hR
    refine nq_lpE (P := fun s : Int32 => nq_G X E 4 35 [(0, .ref (nq_ad E 0)), (1, .int x1), (2, .int x2), (3, .int s)] [] K M) (r := ex) ?_ nq_fuel x3 h1
    intro s xx hx1 hc1 he1
    exact mX8_edge_B35 hL hX hc1 (fun e q => hE e (he1 _ q).symm) (fun r q => hR r (he1 _ q).symm) hx1
  refine key e h1 (fun e q => ?_) (fun r1 q => ?_)
  · subst q
    have h : fX8_edge_L58 M = some (r, M') := h
    exact mX8_edge_L58 hL hX hr h
  · subst q
    have h : some r1 = some (r, M') := h
    obtain rfl := nq_sE1 h; exact hr
def fX8_edge (x1 : Int32) (x2 : Int32) (M : Mem) : Option (Int32 × Mem) :=
  nq_lt (M 2 15) fun v1 =>
  (fX8_isOutside x1 (0 : Int32) (v1 - (1 : Int32)) M).bind fun v3 =>
  if v3 = 0 then
  ((fX8_isOutside x2 (1 : Int32) (9 : Int32) M).bind fun v6 =>
  if v6 = 0 then
  (fX8_edge_L35 x1 x2 (0 : Int32) M)
  else
  (nq_b2 (fX8_refuse (1 : Int32) M) fun v17 M18 =>
  some (v17, M18)))
  else
  (nq_b2 (fX8_refuse (1 : Int32) M) fun v20 M21 =>
  some (v20, M21))
set_option maxHeartbeats 4000000 in
theorem mX8_edge {X : Cx} {E : Ev} {l : Launch} {K : List Sh} {x1 : Int32} {x2 : Int32} {M : Mem} {r : Int32} {M' : Mem} (hL : nq_atNine E K) (hX : nq_OK X E l (nq_rm 2) cX8_edge 4 RX8 wsX8_edge) (hr : nq_RT X E (some .int) (some (.int r)) K M') (h : fX8_edge x1 x2 M = some (r, M')) : nq_G X E 4 0 [(0, .ref (nq_ad E 0)), (1, .int x1), (2, .int x2)] [] K M := by
  unfold fX8_edge at h
  refine nq_iload_n hX rfl 1 rfl dX8_edge_0 ?_
  refine nq_iconst hX (v := 0) (by decide) dX8_edge_1 ?_
  refine nq_aload_n hX rfl 0 rfl dX8_edge_2 ?_
  refine nq_getr (v := .ref (nq_ad E 2)) hX inX8_edge_8 (nq_Nine_0 hL) rfl 1 (by decide) lkX8_edge_16 _ rfl rfl dX8_edge_3 ?_
  obtain ⟨v1, e1, h⟩ := nq_ltE h
  refine nq_geti hX inX8_edge_7 (nq_World_0 (nq_Nine_world hL)) rfl 15 (by decide) lkX8_edge_255 rfl e1 dX8_edge_6 ?_
  refine nq_iconst hX (v := 1) (by decide) dX8_edge_9 ?_
  refine nq_isub hX dX8_edge_10 ?_
  obtain ⟨v3, hc2, h⟩ := nq_bE h
  refine nq_callSi hX (tX8_isOutside  hc2) gX8_edge_X8_isOutside rfl rfl dsX8_isOutside (by decide) rfl (Nat.le_of_ble_eq_true rfl) dX8_edge_11 ?_
  refine nq_if_ne hX (tgt := 27) (by decide) dX8_edge_14 (fun c4 => ?_) (fun c4 => ?_)
  · rw [if_pos c4] at h
    refine nq_iload_n hX rfl 2 rfl dX8_edge_17 ?_
    refine nq_iconst hX (v := 1) (by decide) dX8_edge_18 ?_
    refine nq_bipush hX (v := 9) (by decide) dX8_edge_19 ?_
    obtain ⟨v6, hc5, h⟩ := nq_bE h
    refine nq_callSi hX (tX8_isOutside  hc5) gX8_edge_X8_isOutside rfl rfl dsX8_isOutside (by decide) rfl (Nat.le_of_ble_eq_true rfl) dX8_edge_21 ?_
    refine nq_if_eq hX (tgt := 33) (by decide) dX8_edge_24 (fun c7 => ?_) (fun c7 => ?_)
    · rw [if_pos c7] at h
      refine nq_iconst hX (v := 0) (by decide) dX8_edge_33 ?_
      refine nq_istore_n hX (lv' := [(3, .int (0 : Int32)), (0, .ref (nq_ad E 0)), (1, .int x1), (2, .int x2)]) rfl (by decide) rfl rfl dX8_edge_34 ?_
      refine nq_sub (lv' := [(0, .ref (nq_ad E 0)), (1, .int x1), (2, .int x2), (3, .int (0 : Int32))]) [1, 2, 3, 0] rfl ?_
      exact mX8_edge_L35 hL hX hr h
    · rw [if_neg c7] at h
      refine nq_aload_n hX rfl 0 rfl dX8_edge_27 ?_
      refine nq_iconst hX (v := 1) (by decide) dX8_edge_28 ?_
      obtain ⟨v17, M18, hc16, h⟩ := nq_b2E h
      refine nq_callVi hX (tX8_refuse hL hc16) gX8_edge_X8_refuse rfl rfl dsX8_refuse (by decide) (nq_Nine_0 hL) rfl rfl (Nat.le_of_ble_eq_true rfl) dX8_edge_29 ?_
      obtain ⟨rfl, rfl⟩ := nq_sE2 h; exact nq_iret hX hr dX8_edge_32
  · rw [if_neg c4] at h
    refine nq_aload_n hX rfl 0 rfl dX8_edge_27 ?_
    refine nq_iconst hX (v := 1) (by decide) dX8_edge_28 ?_
    obtain ⟨v20, M21, hc19, h⟩ := nq_b2E h
    refine nq_callVi hX (tX8_refuse hL hc19) gX8_edge_X8_refuse rfl rfl dsX8_refuse (by decide) (nq_Nine_0 hL) rfl rfl (Nat.le_of_ble_eq_true rfl) dX8_edge_29 ?_
    obtain ⟨rfl, rfl⟩ := nq_sE2 h; exact nq_iret hX hr dX8_edge_32
theorem dsX8_edge : yX8_edge.cls ≠ "java/lang/invoke/MethodHandle" ∧ yX8_edge.cls ≠ "java/lang/invoke/VarHandle" ∧ (parseMethodDescriptor yX8_edge.desc).map (fun d => d.parameters.length) = some 2 := by decide +kernel
theorem tX8_edge {l : Launch} {E : Ev} {K : List Sh} {x1 : Int32} {x2 : Int32} {M : Mem} {r : Int32} {M' : Mem} (hL : nq_atNine E K) (h : fX8_edge x1 x2 M = some (r, M')) : nq_MA l E yX8_edge wsX8_edge (nq_rm 2) [.ref (nq_ad E 0), .int x1, .int x2] K M (some (.int r)) K M' :=
  nq_met (own := RX8) (cc := cX8_edge) (maxL := 4) (ret := (some .int)) (by decide) rfl rfl (Nat.le_of_ble_eq_true rfl) (fun X hX hr => mX8_edge hL hX hr h)

theorem inX8_areOfTwoMinds_8 : ∀ w ∈ u_ws RX8 TX8 11, w ∈ wsX8_areOfTwoMinds := by
  intro w h; unfold wsX8_areOfTwoMinds; simp only [List.mem_cons, List.mem_append]; simp only [h, true_or, or_true]
theorem lkX8_areOfTwoMinds_50 : Cond.fieldLink RX8 50 (TX8 7).1 (TX8 7).2.1 (TX8 7).2.2.1 ∈ wsX8_areOfTwoMinds := by decide +kernel
theorem lkX8_areOfTwoMinds_53 : Cond.fieldLink RX8 53 (TX8 8).1 (TX8 8).2.1 (TX8 8).2.2.1 ∈ wsX8_areOfTwoMinds := by decide +kernel
def fX8_areOfTwoMinds_L54 (a0 : Nat) (x2 : Int32) (x3 : Int32) (x5 : Int32) (x6 : Int32) (x7 : Int32) (s0 : Int32) (M : Mem) : Option (Int32 × Mem) :=
  (fX8_nameAll x7 x6 x5 x3 x2 M).bind fun M11 =>
  nq_b2 (fX5_reckon a0 82 83 M11) fun v13 M14 =>
  if v13 = 0 then
  (if s0 = (0 : Int32) then
  (some ((1 : Int32), M14))
  else
  (some ((0 : Int32), M14)))
  else
  (if s0 = (1 : Int32) then
  (some ((1 : Int32), M14))
  else
  (some ((0 : Int32), M14)))
set_option maxHeartbeats 4000000 in
theorem mX8_areOfTwoMinds_L54 {X : Cx} {E : Ev} {l : Launch} {K : List Sh} {a0 : Nat} {x2 : Int32} {x3 : Int32} {x5 : Int32} {x6 : Int32} {x7 : Int32} {s0 : Int32} {M : Mem} {r : Int32} {M' : Mem} (hL : nq_atNine E K) (ha0 : nq_atText E K a0) (hX : nq_OK X E l (nq_rm 3) cX8_areOfTwoMinds 10 RX8 wsX8_areOfTwoMinds) (hr : nq_RT X E (some .boolean) (some (.int r)) K M') (h : fX8_areOfTwoMinds_L54 a0 x2 x3 x5 x6 x7 s0 M = some (r, M')) : nq_G X E 10 54 [(0, .ref (nq_ad E 0)), (1, .ref (nq_ad E a0)), (2, .int x2), (3, .int x3), (5, .int x5), (6, .int x6), (7, .int x7)] [.int s0] K M := by
  unfold fX8_areOfTwoMinds_L54 at h
  refine nq_istore hX (lv' := [(8, .int s0), (0, .ref (nq_ad E 0)), (1, .ref (nq_ad E a0)), (2, .int x2), (3, .int x3), (5, .int x5), (6, .int x6), (7, .int x7)]) (by decide) rfl rfl dX8_areOfTwoMinds_54 ?_
  refine nq_aload_n hX rfl 1 rfl dX8_areOfTwoMinds_56 ?_
  refine nq_iload hX 7 rfl dX8_areOfTwoMinds_57 ?_
  refine nq_iload hX 6 rfl dX8_areOfTwoMinds_59 ?_
  refine nq_iload hX 5 rfl dX8_areOfTwoMinds_61 ?_
  refine nq_iload_n hX rfl 4 rfl dX8_areOfTwoMinds_63 ?_
  refine nq_iload_n hX rfl 3 rfl dX8_areOfTwoMinds_64 ?_
  obtain ⟨M11, hc10, h⟩ := nq_bE h
  refine nq_callVv hX (tX8_nameAll hL hc10) gX8_areOfTwoMinds_X8_nameAll rfl rfl dsX8_nameAll (by decide) (nq_Nine_0 hL) rfl rfl (Nat.le_of_ble_eq_true rfl) dX8_areOfTwoMinds_65 ?_
  refine nq_aload_n hX rfl 2 rfl dX8_areOfTwoMinds_68 ?_
  refine nq_aload_n hX rfl 1 rfl dX8_areOfTwoMinds_69 ?_
  refine nq_getr (v := .ref (nq_ad E 82)) hX inX8_areOfTwoMinds_8 (nq_Nine_0 hL) rfl 7 (by decide) lkX8_areOfTwoMinds_50 _ rfl rfl dX8_areOfTwoMinds_70 ?_
  refine nq_aload_n hX rfl 1 rfl dX8_areOfTwoMinds_73 ?_
  refine nq_getr (v := .ref (nq_ad E 83)) hX inX8_areOfTwoMinds_8 (nq_Nine_0 hL) rfl 8 (by decide) lkX8_areOfTwoMinds_53 _ rfl rfl dX8_areOfTwoMinds_74 ?_
  obtain ⟨v13, M14, hc12, h⟩ := nq_b2E h
  refine nq_callVi hX (tX5_reckon ha0 (nq_Nine_names hL) (nq_Nine_stack hL) hc12) gX8_areOfTwoMinds_X5_reckon rfl rfl dsX5_reckon (by decide) (nq_Text_0 ha0) rfl rfl (Nat.le_of_ble_eq_true rfl) dX8_areOfTwoMinds_77 ?_
  refine nq_if_eq hX (tgt := 87) (by decide) dX8_areOfTwoMinds_80 (fun c15 => ?_) (fun c15 => ?_)
  · rw [if_pos c15] at h
    refine nq_iconst hX (v := 0) (by decide) dX8_areOfTwoMinds_87 ?_
    refine nq_istore hX (lv' := [(9, .int (0 : Int32)), (8, .int s0), (0, .ref (nq_ad E 0)), (1, .ref (nq_ad E a0)), (2, .int x2), (3, .int x3), (5, .int x5), (6, .int x6), (7, .int x7)]) (by decide) rfl rfl dX8_areOfTwoMinds_88 ?_
    refine nq_iload hX 1 rfl dX8_areOfTwoMinds_90 ?_
    refine nq_iload hX 0 rfl dX8_areOfTwoMinds_92 ?_
    refine nq_icmp_ne hX (tgt := 101) (by decide) dX8_areOfTwoMinds_94 (fun c16 => ?_) (fun c16 => ?_)
    · rw [if_pos c16] at h
      refine nq_iconst hX (v := 1) (by decide) dX8_areOfTwoMinds_97 ?_
      refine nq_goto hX (tgt := 102) (by decide) dX8_areOfTwoMinds_98 ?_
      obtain ⟨rfl, rfl⟩ := nq_sE2 h; exact nq_zret hX hr rfl dX8_areOfTwoMinds_102
    · rw [if_neg c16] at h
      refine nq_iconst hX (v := 0) (by decide) dX8_areOfTwoMinds_101 ?_
      obtain ⟨rfl, rfl⟩ := nq_sE2 h; exact nq_zret hX hr rfl dX8_areOfTwoMinds_102
  · rw [if_neg c15] at h
    refine nq_iconst hX (v := 1) (by decide) dX8_areOfTwoMinds_83 ?_
    refine nq_goto hX (tgt := 88) (by decide) dX8_areOfTwoMinds_84 ?_
    refine nq_istore hX (lv' := [(9, .int (1 : Int32)), (8, .int s0), (0, .ref (nq_ad E 0)), (1, .ref (nq_ad E a0)), (2, .int x2), (3, .int x3), (5, .int x5), (6, .int x6), (7, .int x7)]) (by decide) rfl rfl dX8_areOfTwoMinds_88 ?_
    refine nq_iload hX 1 rfl dX8_areOfTwoMinds_90 ?_
    refine nq_iload hX 0 rfl dX8_areOfTwoMinds_92 ?_
    refine nq_icmp_ne hX (tgt := 101) (by decide) dX8_areOfTwoMinds_94 (fun c17 => ?_) (fun c17 => ?_)
    · rw [if_pos c17] at h
      refine nq_iconst hX (v := 1) (by decide) dX8_areOfTwoMinds_97 ?_
      refine nq_goto hX (tgt := 102) (by decide) dX8_areOfTwoMinds_98 ?_
      obtain ⟨rfl, rfl⟩ := nq_sE2 h; exact nq_zret hX hr rfl dX8_areOfTwoMinds_102
    · rw [if_neg c17] at h
      refine nq_iconst hX (v := 0) (by decide) dX8_areOfTwoMinds_101 ?_
      obtain ⟨rfl, rfl⟩ := nq_sE2 h; exact nq_zret hX hr rfl dX8_areOfTwoMinds_102
def fX8_areOfTwoMinds (a0 : Nat) (x2 : Int32) (x3 : Int32) (x4 : Int32) (x5 : Int32) (M : Mem) : Option (Int32 × Mem) :=
  (nq_dv x4 (4 : Int32)).bind fun v1 =>
  (nq_rem x4 (4 : Int32)).bind fun v2 =>
  if v1 = v2 then
  (some ((0 : Int32), M))
  else
  ((fX8_nameAll v1 v2 (-x5) x2 x3 M).bind fun M5 =>
  nq_b2 (fX5_reckon a0 82 83 M5) fun v7 M8 =>
  if v7 = 0 then
  (fX8_areOfTwoMinds_L54 a0 x2 x3 x5 v1 v2 (0 : Int32) M8)
  else
  (fX8_areOfTwoMinds_L54 a0 x2 x3 x5 v1 v2 (1 : Int32) M8))
set_option maxHeartbeats 4000000 in
theorem mX8_areOfTwoMinds {X : Cx} {E : Ev} {l : Launch} {K : List Sh} {a0 : Nat} {x2 : Int32} {x3 : Int32} {x4 : Int32} {x5 : Int32} {M : Mem} {r : Int32} {M' : Mem} (hL : nq_atNine E K) (ha0 : nq_atText E K a0) (hX : nq_OK X E l (nq_rm 3) cX8_areOfTwoMinds 10 RX8 wsX8_areOfTwoMinds) (hr : nq_RT X E (some .boolean) (some (.int r)) K M') (h : fX8_areOfTwoMinds a0 x2 x3 x4 x5 M = some (r, M')) : nq_G X E 10 0 [(0, .ref (nq_ad E 0)), (1, .ref (nq_ad E a0)), (2, .int x2), (3, .int x3), (4, .int x4), (5, .int x5)] [] K M := by
  unfold fX8_areOfTwoMinds at h
  refine nq_iload hX 4 rfl dX8_areOfTwoMinds_0 ?_
  refine nq_iconst hX (v := 4) (by decide) dX8_areOfTwoMinds_2 ?_
  obtain ⟨v1, e1, hn1, h⟩ := nq_ifE h
  refine nq_idiv hX hn1 e1 dX8_areOfTwoMinds_3 ?_
  refine nq_istore hX (lv' := [(6, .int v1), (0, .ref (nq_ad E 0)), (1, .ref (nq_ad E a0)), (2, .int x2), (3, .int x3), (4, .int x4), (5, .int x5)]) (by decide) rfl rfl dX8_areOfTwoMinds_4 ?_
  refine nq_iload hX 5 rfl dX8_areOfTwoMinds_6 ?_
  refine nq_iconst hX (v := 4) (by decide) dX8_areOfTwoMinds_8 ?_
  obtain ⟨v2, e2, hn2, h⟩ := nq_ifE h
  refine nq_irem hX hn2 e2 dX8_areOfTwoMinds_9 ?_
  refine nq_istore hX (lv' := [(7, .int v2), (6, .int v1), (0, .ref (nq_ad E 0)), (1, .ref (nq_ad E a0)), (2, .int x2), (3, .int x3), (4, .int x4), (5, .int x5)]) (by decide) rfl rfl dX8_areOfTwoMinds_10 ?_
  refine nq_iload hX 1 rfl dX8_areOfTwoMinds_12 ?_
  refine nq_iload hX 0 rfl dX8_areOfTwoMinds_14 ?_
  refine nq_icmp_ne hX (tgt := 21) (by decide) dX8_areOfTwoMinds_16 (fun c3 => ?_) (fun c3 => ?_)
  · rw [if_pos c3] at h
    refine nq_iconst hX (v := 0) (by decide) dX8_areOfTwoMinds_19 ?_
    obtain ⟨rfl, rfl⟩ := nq_sE2 h; exact nq_zret hX hr rfl dX8_areOfTwoMinds_20
  · rw [if_neg c3] at h
    refine nq_aload_n hX rfl 2 rfl dX8_areOfTwoMinds_21 ?_
    refine nq_iload hX 1 rfl dX8_areOfTwoMinds_22 ?_
    refine nq_iload hX 0 rfl dX8_areOfTwoMinds_24 ?_
    refine nq_iload hX 7 rfl dX8_areOfTwoMinds_26 ?_
    refine nq_ineg hX dX8_areOfTwoMinds_28 ?_
    refine nq_iload_n hX rfl 4 rfl dX8_areOfTwoMinds_29 ?_
    refine nq_iload_n hX rfl 5 rfl dX8_areOfTwoMinds_30 ?_
    obtain ⟨M5, hc4, h⟩ := nq_bE h
    refine nq_callVv hX (tX8_nameAll hL hc4) gX8_areOfTwoMinds_X8_nameAll rfl rfl dsX8_nameAll (by decide) (nq_Nine_0 hL) rfl rfl (Nat.le_of_ble_eq_true rfl) dX8_areOfTwoMinds_31 ?_
    refine nq_aload_n hX rfl 3 rfl dX8_areOfTwoMinds_34 ?_
    refine nq_aload_n hX rfl 2 rfl dX8_areOfTwoMinds_35 ?_
    refine nq_getr (v := .ref (nq_ad E 82)) hX inX8_areOfTwoMinds_8 (nq_Nine_0 hL) rfl 7 (by decide) lkX8_areOfTwoMinds_50 _ rfl rfl dX8_areOfTwoMinds_36 ?_
    refine nq_aload_n hX rfl 2 rfl dX8_areOfTwoMinds_39 ?_
    refine nq_getr (v := .ref (nq_ad E 83)) hX inX8_areOfTwoMinds_8 (nq_Nine_0 hL) rfl 8 (by decide) lkX8_areOfTwoMinds_53 _ rfl rfl dX8_areOfTwoMinds_40 ?_
    obtain ⟨v7, M8, hc6, h⟩ := nq_b2E h
    refine nq_callVi hX (tX5_reckon ha0 (nq_Nine_names hL) (nq_Nine_stack hL) hc6) gX8_areOfTwoMinds_X5_reckon rfl rfl dsX5_reckon (by decide) (nq_Text_0 ha0) rfl rfl (Nat.le_of_ble_eq_true rfl) dX8_areOfTwoMinds_43 ?_
    refine nq_if_eq hX (tgt := 53) (by decide) dX8_areOfTwoMinds_46 (fun c9 => ?_) (fun c9 => ?_)
    · rw [if_pos c9] at h
      refine nq_iconst hX (v := 0) (by decide) dX8_areOfTwoMinds_53 ?_
      refine nq_sub (lv' := [(0, .ref (nq_ad E 0)), (1, .ref (nq_ad E a0)), (2, .int x2), (3, .int x3), (5, .int x5), (6, .int v1), (7, .int v2)]) [2, 3, 4, 5, 7, 1, 0] rfl ?_
      exact mX8_areOfTwoMinds_L54 hL ha0 hX hr h
    · rw [if_neg c9] at h
      refine nq_iconst hX (v := 1) (by decide) dX8_areOfTwoMinds_49 ?_
      refine nq_goto hX (tgt := 54) (by decide) dX8_areOfTwoMinds_50 ?_
      refine nq_sub (lv' := [(0, .ref (nq_ad E 0)), (1, .ref (nq_ad E a0)), (2, .int x2), (3, .int x3), (5, .int x5), (6, .int v1), (7, .int v2)]) [2, 3, 4, 5, 7, 1, 0] rfl ?_
      exact mX8_areOfTwoMinds_L54 hL ha0 hX hr h
theorem dsX8_areOfTwoMinds : yX8_areOfTwoMinds.cls ≠ "java/lang/invoke/MethodHandle" ∧ yX8_areOfTwoMinds.cls ≠ "java/lang/invoke/VarHandle" ∧ (parseMethodDescriptor yX8_areOfTwoMinds.desc).map (fun d => d.parameters.length) = some 5 := by decide +kernel
theorem tX8_areOfTwoMinds {l : Launch} {E : Ev} {K : List Sh} {a0 : Nat} {x2 : Int32} {x3 : Int32} {x4 : Int32} {x5 : Int32} {M : Mem} {r : Int32} {M' : Mem} (hL : nq_atNine E K) (ha0 : nq_atText E K a0) (h : fX8_areOfTwoMinds a0 x2 x3 x4 x5 M = some (r, M')) : nq_MA l E yX8_areOfTwoMinds wsX8_areOfTwoMinds (nq_rm 3) [.ref (nq_ad E 0), .ref (nq_ad E a0), .int x2, .int x3, .int x4, .int x5] K M (some (.int r)) K M' :=
  nq_met (own := RX8) (cc := cX8_areOfTwoMinds) (maxL := 10) (ret := (some .boolean)) (by decide) rfl rfl (Nat.le_of_ble_eq_true rfl) (fun X hX hr => mX8_areOfTwoMinds hL ha0 hX hr h)

