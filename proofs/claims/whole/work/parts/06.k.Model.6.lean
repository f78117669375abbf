/-! printed by dec.py: Model 6 -/
def fX9_common_B6 (x4 : Int64) (x6 : Int64) (M : Mem) : Option ((Int64 × Int64) ⊕ (Int64)) :=
  if (lg_cmp x6 (0 : Int64)) = 0 then
  (some (.inr x4))
  else
  ((nq_remL x4 x6).bind fun v2 =>
  some (.inl (x6, v2)))
set_option maxHeartbeats 4000000 in
theorem mX9_common_B6 {X : Cx} {E : Ev} {l : Launch} {K : List Sh} {x4 : Int64} {x6 : Int64} {M : Mem}  (hX : nq_OK X E l (nq_rm 1) cX9_common 10 RX9 wsX9_common) {x : (Int64 × Int64) ⊕ (Int64)} (hc : ∀ s' : Int64 × Int64, x = .inl s' → nq_G X E 10 6 [(4, .long s'.1), (6, .long s'.2)] [] K M) (he : ∀ s' : Int64, x = .inr s' → nq_G X E 10 31 [(4, .long s')] [] K M) (h : fX9_common_B6 x4 x6 M = some x) : nq_G X E 10 6 [(4, .long x4), (6, .long x6)] [] K M := by
  unfold fX9_common_B6 at h
  refine nq_lload hX 1 rfl dX9_common_6 ?_
  refine nq_lconst hX (v := 0) (by decide) dX9_common_8 ?_
  refine nq_lcmp hX dX9_common_9 ?_
  refine nq_if_eq hX (tgt := 31) (by decide) dX9_common_10 (fun c1 => ?_) (fun c1 => ?_)
  · rw [if_pos c1] at h
    refine nq_sub (lv' := [(4, .long x4)]) [0] rfl ?_
    exact he x4 (nq_sE h).symm
  · rw [if_neg c1] at h
    refine nq_lload hX 0 rfl dX9_common_13 ?_
    refine nq_lload hX 1 rfl dX9_common_15 ?_
    obtain ⟨v2, e2, hn2, h⟩ := nq_ifE h
    refine nq_lrem hX hn2 e2 dX9_common_17 ?_
    refine nq_lstore hX (lv' := [(8, .long v2), (4, .long x4), (6, .long x6)]) (by decide) rfl rfl dX9_common_18 ?_
    refine nq_lload hX 2 rfl dX9_common_20 ?_
    refine nq_lstore hX (lv' := [(4, .long x6), (8, .long v2), (6, .long x6)]) (by decide) rfl rfl dX9_common_22 ?_
    refine nq_lload hX 1 rfl dX9_common_24 ?_
    refine nq_lstore hX (lv' := [(6, .long v2), (4, .long x6), (8, .long v2)]) (by decide) rfl rfl dX9_common_26 ?_
    refine nq_goto hX (tgt := 6) (by decide) dX9_common_28 ?_
    refine nq_sub (lv' := [(4, .long x6), (6, .long v2)]) [1, 0] rfl ?_
    exact hc (x6, v2) (nq_sE h).symm
def fX9_common_L31 (x4 : Int64) (M : Mem) : Option (Int64) :=
  if 0 ≤ (lg_cmp x4 (0 : Int64)) then
  (some x4)
  else
  (some (-x4))
set_option maxHeartbeats 4000000 in
theorem mX9_common_L31 {X : Cx} {E : Ev} {l : Launch} {K : List Sh} {x4 : Int64} {M : Mem} {r : Int64}  (hX : nq_OK X E l (nq_rm 1) cX9_common 10 RX9 wsX9_common) (hr : nq_RT X E (some .long) (some (.long r)) K M) (h : fX9_common_L31 x4 M = some r) : nq_G X E 10 31 [(4, .long x4)] [] K M := by
  unfold fX9_common_L31 at h
  refine nq_lload hX 0 rfl dX9_common_31 ?_
  refine nq_lconst hX (v := 0) (by decide) dX9_common_33 ?_
  refine nq_lcmp hX dX9_common_34 ?_
  refine nq_if_ge hX (tgt := 44) (by decide) dX9_common_35 (fun c3 => ?_) (fun c3 => ?_)
  · rw [if_pos c3] at h
    refine nq_lload hX 0 rfl dX9_common_44 ?_
    obtain rfl := nq_sE1 h; exact nq_lret hX hr dX9_common_46
  · rw [if_neg c3] at h
    refine nq_lload hX 0 rfl dX9_common_38 ?_
    refine nq_lneg hX dX9_common_40 ?_
    refine nq_goto hX (tgt := 46) (by decide) dX9_common_41 ?_
    obtain rfl := nq_sE1 h; exact nq_lret hX hr dX9_common_46
def fX9_common_L6 (x4 : Int64) (x6 : Int64) (M : Mem) : Option (Int64) :=
  (nq_lp (fun s : Int64 × Int64 => fX9_common_B6 s.1 s.2 M) nq_fuel (x4, x6)).bind (fun e => fX9_common_L31 e M)
set_option maxHeartbeats 4000000 in
theorem mX9_common_L6 {X : Cx} {E : Ev} {l : Launch} {K : List Sh} {x4 : Int64} {x6 : Int64} {M : Mem} {r : Int64}  (hX : nq_OK X E l (nq_rm 1) cX9_common 10 RX9 wsX9_common) (hr : nq_RT X E (some .long) (some (.long r)) K M) (h : fX9_common_L6 x4 x6 M = some r) : nq_G X E 10 6 [(4, .long x4), (6, .long x6)] [] K M := by
  unfold fX9_common_L6 at h
  obtain ⟨e, h1, h⟩ := nq_bE h
  have key : ∀ (ex : Int64), nq_lp (fun s : Int64 × Int64 => fX9_common_B6 s.1 s.2 M) nq_fuel (x4, x6) = some ex → (∀ e, ex = e → nq_G X E 10 31 [(4, .long e)] [] K M) → nq_G X E 10 6 [(4, .long ((x4, x6).1)), (6, .long ((x4, x6).2))] [] K M := by
    intro ex h1 hE
    refine nq_lpE (P := fun s : Int64 × Int64 => nq_G X E 10 6 [(4, .long s.1), (6, .long s.2)] [] K M) (r := ex) ?_ nq_fuel (x4, x6) h1
    intro s xx hx1 hc1 he1
    exact mX9_common_B6  hX hc1 (fun e q => hE e (he1 _ q).symm) hx1
  refine key e h1 (fun e q => ?_)
  subst q
  exact mX9_common_L31  hX hr h
def fX9_common (x0 : Int64) (x2 : Int64) (M : Mem) : Option (Int64) :=
  fX9_common_L6 x0 x2 M
set_option maxHeartbeats 4000000 in
theorem mX9_common {X : Cx} {E : Ev} {l : Launch} {K : List Sh} {x0 : Int64} {x2 : Int64} {M : Mem} {r : Int64}  (hX : nq_OK X E l (nq_rm 1) cX9_common 10 RX9 wsX9_common) (hr : nq_RT X E (some .long) (some (.long r)) K M) (h : fX9_common x0 x2 M = some r) : nq_G X E 10 0 [(0, .long x0), (2, .long x2)] [] K M := by
  unfold fX9_common at h
  refine nq_lload_n hX rfl 0 rfl dX9_common_0 ?_
  refine nq_lstore hX (lv' := [(4, .long x0), (0, .long x0), (2, .long x2)]) (by decide) rfl rfl dX9_common_1 ?_
  refine nq_lload_n hX rfl 2 rfl dX9_common_3 ?_
  refine nq_lstore hX (lv' := [(6, .long x2), (4, .long x0), (0, .long x0), (2, .long x2)]) (by decide) rfl rfl dX9_common_4 ?_
  refine nq_sub (lv' := [(4, .long x0), (6, .long x2)]) [1, 0] rfl ?_
  exact mX9_common_L6  hX hr h
theorem dsX9_common : yX9_common.cls ≠ "java/lang/invoke/MethodHandle" ∧ yX9_common.cls ≠ "java/lang/invoke/VarHandle" ∧ (parseMethodDescriptor yX9_common.desc).map (fun d => d.parameters.length) = some 2 := by decide +kernel
theorem tX9_common {l : Launch} {E : Ev} {K : List Sh} {x0 : Int64} {x2 : Int64} {M : Mem} {r : Int64}  (h : fX9_common x0 x2 M = some r) : nq_MA l E yX9_common wsX9_common (nq_rm 1) [.long x0, .long x2] K M (some (.long r)) K M :=
  nq_met (own := RX9) (cc := cX9_common) (maxL := 10) (ret := (some .long)) (by decide) rfl rfl (Nat.le_of_ble_eq_true rfl) (fun X hX hr => mX9_common  hX hr h)

theorem inX9_oddsUp_9 : ∀ w ∈ u_ws RX9 TX9 23, w ∈ wsX9_oddsUp := by
  intro w h; unfold wsX9_oddsUp; simp only [List.mem_cons, List.mem_append]; simp only [h, true_or, or_true]
theorem lkX9_oddsUp_7 : Cond.fieldLink RX9 7 (TX9 0).1 (TX9 0).2.1 (TX9 0).2.2.1 ∈ wsX9_oddsUp := by decide +kernel
def fX9_oddsUp (x1 : Int32) (x2 : Int32) (M : Mem) : Option (Int64) :=
  (nq_ag (M 1) 1250 (8 : Int32)).bind fun v1 =>
  (fX9_power v1.toInt64 x2 M).bind fun v3 =>
  (nq_ag (M 1) 1250 (7 : Int32)).bind fun v4 =>
  (fX9_power v4.toInt64 x2 M).bind fun v6 =>
  (fX9_power (v3 - v6) x1 M).bind fun v8 =>
  some v8
set_option maxHeartbeats 4000000 in
theorem mX9_oddsUp {X : Cx} {E : Ev} {l : Launch} {K : List Sh} {x1 : Int32} {x2 : Int32} {M : Mem} {r : Int64} (hL : nq_atModel E K) (hX : nq_OK X E l (nq_rm 2) cX9_oddsUp 3 RX9 wsX9_oddsUp) (hr : nq_RT X E (some .long) (some (.long r)) K M) (h : fX9_oddsUp x1 x2 M = some r) : nq_G X E 3 0 [(0, .ref (nq_ad E 0)), (1, .int x1), (2, .int x2)] [] K M := by
  unfold fX9_oddsUp at h
  refine nq_aload_n hX rfl 0 rfl dX9_oddsUp_0 ?_
  refine nq_getr (v := .ref (nq_ad E 1)) hX inX9_oddsUp_9 (nq_Model_0 hL) rfl 0 (by decide) lkX9_oddsUp_7 _ rfl rfl dX9_oddsUp_1 ?_
  refine nq_bipush hX (v := 8) (by decide) dX9_oddsUp_4 ?_
  obtain ⟨v1, e1, hi1, h⟩ := nq_agE h
  refine nq_iald hX (nq_Model_d hL) e1 hi1 dX9_oddsUp_6 ?_
  refine nq_i2l hX dX9_oddsUp_7 ?_
  refine nq_iload_n hX rfl 2 rfl dX9_oddsUp_8 ?_
  obtain ⟨v3, hc2, h⟩ := nq_bE h
  refine nq_callSl hX (tX9_power  hc2) gX9_oddsUp_X9_power rfl rfl dsX9_power (by decide) rfl (Nat.le_of_ble_eq_true rfl) dX9_oddsUp_9 ?_
  refine nq_aload_n hX rfl 0 rfl dX9_oddsUp_12 ?_
  refine nq_getr (v := .ref (nq_ad E 1)) hX inX9_oddsUp_9 (nq_Model_0 hL) rfl 0 (by decide) lkX9_oddsUp_7 _ rfl rfl dX9_oddsUp_13 ?_
  refine nq_bipush hX (v := 7) (by decide) dX9_oddsUp_16 ?_
  obtain ⟨v4, e4, hi4, h⟩ := nq_agE h
  refine nq_iald hX (nq_Model_d hL) e4 hi4 dX9_oddsUp_18 ?_
  refine nq_i2l hX dX9_oddsUp_19 ?_
  refine nq_iload_n hX rfl 2 rfl dX9_oddsUp_20 ?_
  obtain ⟨v6, hc5, h⟩ := nq_bE h
  refine nq_callSl hX (tX9_power  hc5) gX9_oddsUp_X9_power rfl rfl dsX9_power (by decide) rfl (Nat.le_of_ble_eq_true rfl) dX9_oddsUp_21 ?_
  refine nq_lsub hX dX9_oddsUp_24 ?_
  refine nq_iload_n hX rfl 1 rfl dX9_oddsUp_25 ?_
  obtain ⟨v8, hc7, h⟩ := nq_bE h
  refine nq_callSl hX (tX9_power  hc7) gX9_oddsUp_X9_power rfl rfl dsX9_power (by decide) rfl (Nat.le_of_ble_eq_true rfl) dX9_oddsUp_26 ?_
  obtain rfl := nq_sE1 h; exact nq_lret hX hr dX9_oddsUp_29
theorem dsX9_oddsUp : yX9_oddsUp.cls ≠ "java/lang/invoke/MethodHandle" ∧ yX9_oddsUp.cls ≠ "java/lang/invoke/VarHandle" ∧ (parseMethodDescriptor yX9_oddsUp.desc).map (fun d => d.parameters.length) = some 2 := by decide +kernel
theorem tX9_oddsUp {l : Launch} {E : Ev} {K : List Sh} {x1 : Int32} {x2 : Int32} {M : Mem} {r : Int64} (hL : nq_atModel E K) (h : fX9_oddsUp x1 x2 M = some r) : nq_MA l E yX9_oddsUp wsX9_oddsUp (nq_rm 2) [.ref (nq_ad E 0), .int x1, .int x2] K M (some (.long r)) K M :=
  nq_met (own := RX9) (cc := cX9_oddsUp) (maxL := 3) (ret := (some .long)) (by decide) rfl rfl (Nat.le_of_ble_eq_true rfl) (fun X hX hr => mX9_oddsUp hL hX hr h)

theorem inX9_oddsLow_9 : ∀ w ∈ u_ws RX9 TX9 23, w ∈ wsX9_oddsLow := by
  intro w h; unfold wsX9_oddsLow; simp only [List.mem_cons, List.mem_append]; simp only [h, true_or, or_true]
theorem lkX9_oddsLow_7 : Cond.fieldLink RX9 7 (TX9 0).1 (TX9 0).2.1 (TX9 0).2.2.1 ∈ wsX9_oddsLow := by decide +kernel
def fX9_oddsLow (x1 : Int32) (x2 : Int32) (M : Mem) : Option (Int64) :=
  (nq_ag (M 1) 1250 (8 : Int32)).bind fun v1 =>
  (fX9_power v1.toInt64 (x2 * x1) M).bind fun v3 =>
  some v3
set_option maxHeartbeats 4000000 in
theorem mX9_oddsLow {X : Cx} {E : Ev} {l : Launch} {K : List Sh} {x1 : Int32} {x2 : Int32} {M : Mem} {r : Int64} (hL : nq_atModel E K) (hX : nq_OK X E l (nq_rm 2) cX9_oddsLow 3 RX9 wsX9_oddsLow) (hr : nq_RT X E (some .long) (some (.long r)) K M) (h : fX9_oddsLow x1 x2 M = some r) : nq_G X E 3 0 [(0, .ref (nq_ad E 0)), (1, .int x1), (2, .int x2)] [] K M := by
  unfold fX9_oddsLow at h
  refine nq_aload_n hX rfl 0 rfl dX9_oddsLow_0 ?_
  refine nq_getr (v := .ref (nq_ad E 1)) hX inX9_oddsLow_9 (nq_Model_0 hL) rfl 0 (by decide) lkX9_oddsLow_7 _ rfl rfl dX9_oddsLow_1 ?_
  refine nq_bipush hX (v := 8) (by decide) dX9_oddsLow_4 ?_
  obtain ⟨v1, e1, hi1, h⟩ := nq_agE h
  refine nq_iald hX (nq_Model_d hL) e1 hi1 dX9_oddsLow_6 ?_
  refine nq_i2l hX dX9_oddsLow_7 ?_
  refine nq_iload_n hX rfl 2 rfl dX9_oddsLow_8 ?_
  refine nq_iload_n hX rfl 1 rfl dX9_oddsLow_9 ?_
  refine nq_imul hX dX9_oddsLow_10 ?_
  obtain ⟨v3, hc2, h⟩ := nq_bE h
  refine nq_callSl hX (tX9_power  hc2) gX9_oddsLow_X9_power rfl rfl dsX9_power (by decide) rfl (Nat.le_of_ble_eq_true rfl) dX9_oddsLow_11 ?_
  obtain rfl := nq_sE1 h; exact nq_lret hX hr dX9_oddsLow_14
theorem dsX9_oddsLow : yX9_oddsLow.cls ≠ "java/lang/invoke/MethodHandle" ∧ yX9_oddsLow.cls ≠ "java/lang/invoke/VarHandle" ∧ (parseMethodDescriptor yX9_oddsLow.desc).map (fun d => d.parameters.length) = some 2 := by decide +kernel
theorem tX9_oddsLow {l : Launch} {E : Ev} {K : List Sh} {x1 : Int32} {x2 : Int32} {M : Mem} {r : Int64} (hL : nq_atModel E K) (h : fX9_oddsLow x1 x2 M = some r) : nq_MA l E yX9_oddsLow wsX9_oddsLow (nq_rm 2) [.ref (nq_ad E 0), .int x1, .int x2] K M (some (.long r)) K M :=
  nq_met (own := RX9) (cc := cX9_oddsLow) (maxL := 3) (ret := (some .long)) (by decide) rfl rfl (Nat.le_of_ble_eq_true rfl) (fun X hX hr => mX9_oddsLow hL hX hr h)

theorem mmX9_odds_c259 : Cond.constantLong RX9 259 (4) ∈ wsX9_odds := by decide +kernel
def fX9_odds_L60 (x1 : Int32) (x2 : Int32) (s0 : Int64) (M : Mem) : Option (Int64 × Mem) :=
  (fX9_oddsUp x1 x2 M).bind fun v23 =>
  (fX9_oddsLow x1 x2 M).bind fun v25 =>
  (fX9_common v23 v25 M).bind fun v27 =>
  (nq_dvL s0 v27).bind fun v28 =>
  some (v28, M)
set_option maxHeartbeats 4000000 in
theorem mX9_odds_L60 {X : Cx} {E : Ev} {l : Launch} {K : List Sh} {x1 : Int32} {x2 : Int32} {s0 : Int64} {M : Mem} {r : Int64} {M' : Mem} (hL : nq_atModel E K) (hX : nq_OK X E l (nq_rm 3) cX9_odds 4 RX9 wsX9_odds) (hr : nq_RT X E (some .long) (some (.long r)) K M') (h : fX9_odds_L60 x1 x2 s0 M = some (r, M')) : nq_G X E 4 60 [(0, .ref (nq_ad E 0)), (1, .int x1), (2, .int x2)] [.long s0] K M := by
  unfold fX9_odds_L60 at h
  refine nq_aload_n hX rfl 0 rfl dX9_odds_60 ?_
  refine nq_iload_n hX rfl 1 rfl dX9_odds_61 ?_
  refine nq_iload_n hX rfl 2 rfl dX9_odds_62 ?_
  obtain ⟨v23, hc22, h⟩ := nq_bE h
  refine nq_callVl hX (tX9_oddsUp hL hc22) gX9_odds_X9_oddsUp rfl rfl dsX9_oddsUp (by decide) (nq_Model_0 hL) rfl rfl (Nat.le_of_ble_eq_true rfl) dX9_odds_63 ?_
  refine nq_aload_n hX rfl 0 rfl dX9_odds_66 ?_
  refine nq_iload_n hX rfl 1 rfl dX9_odds_67 ?_
  refine nq_iload_n hX rfl 2 rfl dX9_odds_68 ?_
  obtain ⟨v25, hc24, h⟩ := nq_bE h
  refine nq_callVl hX (tX9_oddsLow hL hc24) gX9_odds_X9_oddsLow rfl rfl dsX9_oddsLow (by decide) (nq_Model_0 hL) rfl rfl (Nat.le_of_ble_eq_true rfl) dX9_odds_69 ?_
  obtain ⟨v27, hc26, h⟩ := nq_bE h
  refine nq_callSl hX (tX9_common  hc26) gX9_odds_X9_common rfl rfl dsX9_common (by decide) rfl (Nat.le_of_ble_eq_true rfl) dX9_odds_72 ?_
  obtain ⟨v28, e28, hn28, h⟩ := nq_ifE h
  refine nq_ldiv hX hn28 e28 dX9_odds_75 ?_
  obtain ⟨rfl, rfl⟩ := nq_sE2 h; exact nq_lret hX hr dX9_odds_76
def fX9_odds (x1 : Int32) (x2 : Int32) (x3 : Int32) (M : Mem) : Option (Int64 × Mem) :=
  (fX9_in x1.toInt64 (1 : Int64) (4 : Int64) M).bind fun v2 =>
  if v2 = 0 then
  (nq_b2 (fX9_finds (1 : Int32) M) fun v5 M6 =>
  some (v5.toInt64, M6))
  else
  ((fX9_in x2.toInt64 (1 : Int64) (4 : Int64) M).bind fun v8 =>
  if v8 = 0 then
  (nq_b2 (fX9_finds (1 : Int32) M) fun v11 M12 =>
  some (v11.toInt64, M12))
  else
  ((fX9_in x3.toInt64 (0 : Int64) (1 : Int64) M).bind fun v14 =>
  if v14 = 0 then
  (nq_b2 (fX9_finds (1 : Int32) M) fun v17 M18 =>
  some (v17.toInt64, M18))
  else
  (if x3 = 0 then
  ((fX9_oddsUp x1 x2 M).bind fun v21 =>
  fX9_odds_L60 x1 x2 v21 M)
  else
  ((fX9_oddsLow x1 x2 M).bind fun v30 =>
  fX9_odds_L60 x1 x2 v30 M))))
set_option maxHeartbeats 4000000 in
theorem mX9_odds {X : Cx} {E : Ev} {l : Launch} {K : List Sh} {x1 : Int32} {x2 : Int32} {x3 : Int32} {M : Mem} {r : Int64} {M' : Mem} (hL : nq_atModel E K) (hX : nq_OK X E l (nq_rm 3) cX9_odds 4 RX9 wsX9_odds) (hr : nq_RT X E (some .long) (some (.long r)) K M') (h : fX9_odds x1 x2 x3 M = some (r, M')) : nq_G X E 4 0 [(0, .ref (nq_ad E 0)), (1, .int x1), (2, .int x2), (3, .int x3)] [] K M := by
  unfold fX9_odds at h
  refine nq_iload_n hX rfl 1 rfl dX9_odds_0 ?_
  refine nq_i2l hX dX9_odds_1 ?_
  refine nq_lconst hX (v := 1) (by decide) dX9_odds_2 ?_
  refine nq_ldc2 hX (v := 4) mmX9_odds_c259 dX9_odds_3 ?_
  obtain ⟨v2, hc1, h⟩ := nq_bE h
  refine nq_callSi hX (tX9_in  hc1) gX9_odds_X9_in rfl rfl dsX9_in (by decide) rfl (Nat.le_of_ble_eq_true rfl) dX9_odds_6 ?_
  refine nq_if_eq hX (tgt := 34) (by decide) dX9_odds_9 (fun c3 => ?_) (fun c3 => ?_)
  · rw [if_pos c3] at h
    refine nq_aload_n hX rfl 0 rfl dX9_odds_34 ?_
    refine nq_iconst hX (v := 1) (by decide) dX9_odds_35 ?_
    obtain ⟨v5, M6, hc4, h⟩ := nq_b2E h
    refine nq_callVi hX (tX9_finds hL hc4) gX9_odds_X9_finds rfl rfl dsX9_finds (by decide) (nq_Model_0 hL) rfl rfl (Nat.le_of_ble_eq_true rfl) dX9_odds_36 ?_
    refine nq_i2l hX dX9_odds_39 ?_
    obtain ⟨rfl, rfl⟩ := nq_sE2 h; exact nq_lret hX hr dX9_odds_40
  · rw [if_neg c3] at h
    refine nq_iload_n hX rfl 2 rfl dX9_odds_12 ?_
    refine nq_i2l hX dX9_odds_13 ?_
    refine nq_lconst hX (v := 1) (by decide) dX9_odds_14 ?_
    refine nq_ldc2 hX (v := 4) mmX9_odds_c259 dX9_odds_15 ?_
    obtain ⟨v8, hc7, h⟩ := nq_bE h
    refine nq_callSi hX (tX9_in  hc7) gX9_odds_X9_in rfl rfl dsX9_in (by decide) rfl (Nat.le_of_ble_eq_true rfl) dX9_odds_18 ?_
    refine nq_if_eq hX (tgt := 34) (by decide) dX9_odds_21 (fun c9 => ?_) (fun c9 => ?_)
    · rw [if_pos c9] at h
      refine nq_aload_n hX rfl 0 rfl dX9_odds_34 ?_
      refine nq_iconst hX (v := 1) (by decide) dX9_odds_35 ?_
      obtain ⟨v11, M12, hc10, h⟩ := nq_b2E h
      refine nq_callVi hX (tX9_finds hL hc10) gX9_odds_X9_finds rfl rfl dsX9_finds (by decide) (nq_Model_0 hL) rfl rfl (Nat.le_of_ble_eq_true rfl) dX9_odds_36 ?_
      refine nq_i2l hX dX9_odds_39 ?_
      obtain ⟨rfl, rfl⟩ := nq_sE2 h; exact nq_lret hX hr dX9_odds_40
    · rw [if_neg c9] at h
      refine nq_iload_n hX rfl 3 rfl dX9_odds_24 ?_
      refine nq_i2l hX dX9_odds_25 ?_
      refine nq_lconst hX (v := 0) (by decide) dX9_odds_26 ?_
      refine nq_lconst hX (v := 1) (by decide) dX9_odds_27 ?_
      obtain ⟨v14, hc13, h⟩ := nq_bE h
      refine nq_callSi hX (tX9_in  hc13) gX9_odds_X9_in rfl rfl dsX9_in (by decide) rfl (Nat.le_of_ble_eq_true rfl) dX9_odds_28 ?_
      refine nq_if_ne hX (tgt := 41) (by decide) dX9_odds_31 (fun c15 => ?_) (fun c15 => ?_)
      · rw [if_pos c15] at h
        refine nq_aload_n hX rfl 0 rfl dX9_odds_34 ?_
        refine nq_iconst hX (v := 1) (by decide) dX9_odds_35 ?_
        obtain ⟨v17, M18, hc16, h⟩ := nq_b2E h
        refine nq_callVi hX (tX9_finds hL hc16) gX9_odds_X9_finds rfl rfl dsX9_finds (by decide) (nq_Model_0 hL) rfl rfl (Nat.le_of_ble_eq_true rfl) dX9_odds_36 ?_
        refine nq_i2l hX dX9_odds_39 ?_
        obtain ⟨rfl, rfl⟩ := nq_sE2 h; exact nq_lret hX hr dX9_odds_40
      · rw [if_neg c15] at h
        refine nq_iload_n hX rfl 3 rfl dX9_odds_41 ?_
        refine nq_if_ne hX (tgt := 54) (by decide) dX9_odds_42 (fun c19 => ?_) (fun c19 => ?_)
        · rw [if_pos c19] at h
          refine nq_aload_n hX rfl 0 rfl dX9_odds_45 ?_
          refine nq_iload_n hX rfl 1 rfl dX9_odds_46 ?_
          refine nq_iload_n hX rfl 2 rfl dX9_odds_47 ?_
          obtain ⟨v21, hc20, h⟩ := nq_bE h
          refine nq_callVl hX (tX9_oddsUp hL hc20) gX9_odds_X9_oddsUp rfl rfl dsX9_oddsUp (by decide) (nq_Model_0 hL) rfl rfl (Nat.le_of_ble_eq_true rfl) dX9_odds_48 ?_
          refine nq_goto hX (tgt := 60) (by decide) dX9_odds_51 ?_
          refine nq_sub (lv' := [(0, .ref (nq_ad E 0)), (1, .int x1), (2, .int x2)]) [0, 1, 2] rfl ?_
          exact mX9_odds_L60 hL hX hr h
        · rw [if_neg c19] at h
          refine nq_aload_n hX rfl 0 rfl dX9_odds_54 ?_
          refine nq_iload_n hX rfl 1 rfl dX9_odds_55 ?_
          refine nq_iload_n hX rfl 2 rfl dX9_odds_56 ?_
          obtain ⟨v30, hc29, h⟩ := nq_bE h
          refine nq_callVl hX (tX9_oddsLow hL hc29) gX9_odds_X9_oddsLow rfl rfl dsX9_oddsLow (by decide) (nq_Model_0 hL) rfl rfl (Nat.le_of_ble_eq_true rfl) dX9_odds_57 ?_
          refine nq_sub (lv' := [(0, .ref (nq_ad E 0)), (1, .int x1), (2, .int x2)]) [0, 1, 2] rfl ?_
          exact mX9_odds_L60 hL hX hr h
theorem dsX9_odds : yX9_odds.cls ≠ "java/lang/invoke/MethodHandle" ∧ yX9_odds.cls ≠ "java/lang/invoke/VarHandle" ∧ (parseMethodDescriptor yX9_odds.desc).map (fun d => d.parameters.length) = some 3 := by decide +kernel
theorem tX9_odds {l : Launch} {E : Ev} {K : List Sh} {x1 : Int32} {x2 : Int32} {x3 : Int32} {M : Mem} {r : Int64} {M' : Mem} (hL : nq_atModel E K) (h : fX9_odds x1 x2 x3 M = some (r, M')) : nq_MA l E yX9_odds wsX9_odds (nq_rm 3) [.ref (nq_ad E 0), .int x1, .int x2, .int x3] K M (some (.long r)) K M' :=
  nq_met (own := RX9) (cc := cX9_odds) (maxL := 4) (ret := (some .long)) (by decide) rfl rfl (Nat.le_of_ble_eq_true rfl) (fun X hX hr => mX9_odds hL hX hr h)

theorem mmX9_enough_c259 : Cond.constantLong RX9 259 (4) ∈ wsX9_enough := by decide +kernel
theorem mmX9_enough_c272 : Cond.constantLong RX9 272 (100) ∈ wsX9_enough := by decide +kernel
def fX9_enough_B32 (x1 : Int32) (x2 : Int32) (x3 : Int32) (M : Mem) : Option ((Int32) ⊕ ((Unit) ⊕ (Int32 × Mem))) :=
  if (4 : Int32) < x3 then
  (some (.inr (.inl ())))
  else
  ((fX9_oddsUp x1 x3 M).bind fun v15 =>
  (fX9_oddsLow x1 x3 M).bind fun v17 =>
  if (lg_cmp ((100 : Int64) * v15) (x2.toInt64 * v17)) < 0 then
  (nq_lt (x3 + (1 : Int32)) fun v19 =>
  some (.inl v19))
  else
  (some (.inr (.inr (x3, M)))))
set_option maxHeartbeats 4000000 in
theorem mX9_enough_B32 {X : Cx} {E : Ev} {l : Launch} {K : List Sh} {x1 : Int32} {x2 : Int32} {x3 : Int32} {M : Mem} (hL : nq_atModel E K) (hX : nq_OK X E l (nq_rm 3) cX9_enough 4 RX9 wsX9_enough) {x : (Int32) ⊕ ((Unit) ⊕ (Int32 × Mem))} (hc : ∀ s' : Int32, x = .inl s' → nq_G X E 4 32 [(0, .ref (nq_ad E 0)), (1, .int x1), (2, .int x2), (3, .int s')] [] K M) (he : ∀ s' : Unit, x = .inr (.inl s') → nq_G X E 4 68 [(0, .ref (nq_ad E 0))] [] K M) (hret : ∀ r : Int32 × Mem, x = .inr (.inr r) → nq_RT X E (some .int) (some (.int r.1)) K r.2) (h : fX9_enough_B32 x1 x2 x3 M = some x) : nq_G X E 4 32 [(0, .ref (nq_ad E 0)), (1, .int x1), (2, .int x2), (3, .int x3)] [] K M := by
  unfold fX9_enough_B32 at h
  refine nq_iload_n hX rfl 3 rfl dX9_enough_32 ?_
  refine nq_iconst hX (v := 4) (by decide) dX9_enough_33 ?_
  refine nq_icmp_gt hX (tgt := 68) (by decide) dX9_enough_34 (fun c13 => ?_) (fun c13 => ?_)
  · rw [if_pos c13] at h
    refine nq_sub (lv' := [(0, .ref (nq_ad E 0))]) [0] rfl ?_
    exact he () (nq_sE h).symm
  · rw [if_neg c13] at h
    refine nq_ldc2 hX (v := 100) mmX9_enough_c272 dX9_enough_37 ?_
    refine nq_aload_n hX rfl 0 rfl dX9_enough_40 ?_
    refine nq_iload_n hX rfl 1 rfl dX9_enough_41 ?_
    refine nq_iload_n hX rfl 3 rfl dX9_enough_42 ?_
    obtain ⟨v15, hc14, h⟩ := nq_bE h
    refine nq_callVl hX (tX9_oddsUp hL hc14) gX9_enough_X9_oddsUp rfl rfl dsX9_oddsUp (by decide) (nq_Model_0 hL) rfl rfl (Nat.le_of_ble_eq_true rfl) dX9_enough_43 ?_
    refine nq_lmul hX dX9_enough_46 ?_
    refine nq_iload_n hX rfl 2 rfl dX9_enough_47 ?_
    refine nq_i2l hX dX9_enough_48 ?_
    refine nq_aload_n hX rfl 0 rfl dX9_enough_49 ?_
    refine nq_iload_n hX rfl 1 rfl dX9_enough_50 ?_
    refine nq_iload_n hX rfl 3 rfl dX9_enough_51 ?_
    obtain ⟨v17, hc16, h⟩ := nq_bE h
    refine nq_callVl hX (tX9_oddsLow hL hc16) gX9_enough_X9_oddsLow rfl rfl dsX9_oddsLow (by decide) (nq_Model_0 hL) rfl rfl (Nat.le_of_ble_eq_true rfl) dX9_enough_52 ?_
    refine nq_lmul hX dX9_enough_55 ?_
    refine nq_lcmp hX dX9_enough_56 ?_
    refine nq_if_lt hX (tgt := 62) (by decide) dX9_enough_57 (fun c18 => ?_) (fun c18 => ?_)
    · rw [if_pos c18] at h
      obtain ⟨v19, e19, h⟩ := nq_ltE h
      refine nq_iinc hX (lv' := [(3, .int v19), (0, .ref (nq_ad E 0)), (1, .int x1), (2, .int x2)]) (j := 3) rfl (e19.trans rfl) (by decide) rfl dX9_enough_62 ?_
      refine nq_goto hX (tgt := 32) (by decide) dX9_enough_65 ?_
      refine nq_sub (lv' := [(0, .ref (nq_ad E 0)), (1, .int x1), (2, .int x2), (3, .int v19)]) [1, 2, 3, 0] rfl ?_
      exact hc v19 (nq_sE h).symm
    · rw [if_neg c18] at h
      refine nq_iload_n hX rfl 3 rfl dX9_enough_60 ?_
      exact nq_iret hX (hret (x3, M) (nq_sE h).symm) dX9_enough_61
def fX9_enough_L68 (M : Mem) : Option (Int32 × Mem) :=
  nq_b2 (fX9_finds (2 : Int32) M) fun v21 M22 =>
  some (v21, M22)
set_option maxHeartbeats 4000000 in
theorem mX9_enough_L68 {X : Cx} {E : Ev} {l : Launch} {K : List Sh} {M : Mem} {r : Int32} {M' : Mem} (hL : nq_atModel E K) (hX : nq_OK X E l (nq_rm 3) cX9_enough 4 RX9 wsX9_enough) (hr : nq_RT X E (some .int) (some (.int r)) K M') (h : fX9_enough_L68 M = some (r, M')) : nq_G X E 4 68 [(0, .ref (nq_ad E 0))] [] K M := by
  unfold fX9_enough_L68 at h
  refine nq_aload_n hX rfl 0 rfl dX9_enough_68 ?_
  refine nq_iconst hX (v := 2) (by decide) dX9_enough_69 ?_
  obtain ⟨v21, M22, hc20, h⟩ := nq_b2E h
  refine nq_callVi hX (tX9_finds hL hc20) gX9_enough_X9_finds rfl rfl dsX9_finds (by decide) (nq_Model_0 hL) rfl rfl (Nat.le_of_ble_eq_true rfl) dX9_enough_70 ?_
  obtain ⟨rfl, rfl⟩ := nq_sE2 h; exact nq_iret hX hr dX9_enough_73
def fX9_enough_L32 (x1 : Int32) (x2 : Int32) (x3 : Int32) (M : Mem) : Option (Int32 × Mem) :=
  (nq_lp (fun s : Int32 => fX9_enough_B32 x1 x2 s M) nq_fuel x3).bind (Sum.elim (fun e => fX9_enough_L68 M) (fun r1 => some r1))
set_option maxHeartbeats 4000000 in
theorem mX9_enough_L32 {X : Cx} {E : Ev} {l : Launch} {K : List Sh} {x1 : Int32} {x2 : Int32} {x3 : Int32} {M : Mem} {r : Int32} {M' : Mem} (hL : nq_atModel E K) (hX : nq_OK X E l (nq_rm 3) cX9_enough 4 RX9 wsX9_enough) (hr : nq_RT X E (some .int) (some (.int r)) K M') (h : fX9_enough_L32 x1 x2 x3 M = some (r, M')) : nq_G X E 4 32 [(0, .ref (nq_ad E 0)), (1, .int x1), (2, .int x2), (3, .int x3)] [] K M := by
  unfold fX9_enough_L32 at h
  obtain ⟨e, h1, h⟩ := nq_bE h
  have key : ∀ (ex : (Unit) ⊕ (Int32 × Mem)), nq_lp (fun s : Int32 => fX9_enough_B32 x1 x2 s M) nq_fuel x3 = some ex → (∀ e, ex = .inl e → nq_G X E 4 68 [(0, .ref (nq_ad E 0))] [] K M) → (∀ r, ex = .inr r → nq_RT X E (some .int) (some (.int r.1)) K r.2) → nq_G X E 4 32 [(0, .ref (nq_ad E 0)), (1, .int x1), (2, .int x2), (3, .int x3)] [] K M := by
    intro ex h1 hE hR
    refine nq_lpE (P := fun s : Int32 => nq_G X E 4 32 [(0, .ref (nq_ad E 0)), (1, .int x1), (2, .int x2), (3, .int s)] [] K M) (r := ex) ?_ nq_fuel x3 h1
    intro s xx hx1 hc1 he1
    exact mX9_enough_B32 hL hX hc1 (fun e q => hE e (he1 _ q).symm) (fun r q => hR r (he1 _ q).symm) hx1
  refine key e h1 (fun e q => ?_) (fun r1 q => ?_)
  · subst q
    have h : fX9_enough_L68 M = some (r, M') := h
    exact mX9_enough_L68 hL hX hr h
  · subst q
    have h : some r1 = some (r, M') := h
    obtain rfl := nq_sE1 h; exact hr
def fX9_enough (x1 : Int32) (x2 : Int32) (M : Mem) : Option (Int32 × Mem) :=
  (fX9_in x1.toInt64 (1 : Int64) (4 : Int64) M).bind fun v2 =>
  if v2 = 0 then
  (nq_b2 (fX9_finds (1 : Int32) M) fun v5 M6 =>
  some (v5, M6))
  else
  ((fX9_in x2.toInt64 (0 : Int64) (100 : Int64) M).bind fun v8 =>
  if v8 = 0 then
  (nq_b2 (fX9_finds (1 : Int32) M) fun v11 M12 =>
  some (v11, M12))
  else
  (fX9_enough_L32 x1 x2 (1 : Int32) M))
set_option maxHeartbeats 4000000 in
theorem mX9_enough {X : Cx} {E : Ev} {l : Launch} {K : List Sh} {x1 : Int32} {x2 : Int32} {M : Mem} {r : Int32} {M' : Mem} (hL : nq_atModel E K) (hX : nq_OK X E l (nq_rm 3) cX9_enough 4 RX9 wsX9_enough) (hr : nq_RT X E (some .int) (some (.int r)) K M') (h : fX9_enough x1 x2 M = some (r, M')) : nq_G X E 4 0 [(0, .ref (nq_ad E 0)), (1, .int x1), (2, .int x2)] [] K M := by
  unfold fX9_enough at h
  refine nq_iload_n hX rfl 1 rfl dX9_enough_0 ?_
  refine nq_i2l hX dX9_enough_1 ?_
  refine nq_lconst hX (v := 1) (by decide) dX9_enough_2 ?_
  refine nq_ldc2 hX (v := 4) mmX9_enough_c259 dX9_enough_3 ?_
  obtain ⟨v2, hc1, h⟩ := nq_bE h
  refine nq_callSi hX (tX9_in  hc1) gX9_enough_X9_in rfl rfl dsX9_in (by decide) rfl (Nat.le_of_ble_eq_true rfl) dX9_enough_6 ?_
  refine nq_if_eq hX (tgt := 24) (by decide) dX9_enough_9 (fun c3 => ?_) (fun c3 => ?_)
  · rw [if_pos c3] at h
    refine nq_aload_n hX rfl 0 rfl dX9_enough_24 ?_
    refine nq_iconst hX (v := 1) (by decide) dX9_enough_25 ?_
    obtain ⟨v5, M6, hc4, h⟩ := nq_b2E h
    refine nq_callVi hX (tX9_finds hL hc4) gX9_enough_X9_finds rfl rfl dsX9_finds (by decide) (nq_Model_0 hL) rfl rfl (Nat.le_of_ble_eq_true rfl) dX9_enough_26 ?_
    obtain ⟨rfl, rfl⟩ := nq_sE2 h; exact nq_iret hX hr dX9_enough_29
  · rw [if_neg c3] at h
    refine nq_iload_n hX rfl 2 rfl dX9_enough_12 ?_
    refine nq_i2l hX dX9_enough_13 ?_
    refine nq_lconst hX (v := 0) (by decide) dX9_enough_14 ?_
    refine nq_ldc2 hX (v := 100) mmX9_enough_c272 dX9_enough_15 ?_
    obtain ⟨v8, hc7, h⟩ := nq_bE h
    refine nq_callSi hX (tX9_in  hc7) gX9_enough_X9_in rfl rfl dsX9_in (by decide) rfl (Nat.le_of_ble_eq_true rfl) dX9_enough_18 ?_
    refine nq_if_ne hX (tgt := 30) (by decide) dX9_enough_21 (fun c9 => ?_) (fun c9 => ?_)
    · rw [if_pos c9] at h
      refine nq_aload_n hX rfl 0 rfl dX9_enough_24 ?_
      refine nq_iconst hX (v := 1) (by decide) dX9_enough_25 ?_
      obtain ⟨v11, M12, hc10, h⟩ := nq_b2E h
      refine nq_callVi hX (tX9_finds hL hc10) gX9_enough_X9_finds rfl rfl dsX9_finds (by decide) (nq_Model_0 hL) rfl rfl (Nat.le_of_ble_eq_true rfl) dX9_enough_26 ?_
      obtain ⟨rfl, rfl⟩ := nq_sE2 h; exact nq_iret hX hr dX9_enough_29
    · rw [if_neg c9] at h
      refine nq_iconst hX (v := 1) (by decide) dX9_enough_30 ?_
      refine nq_istore_n hX (lv' := [(3, .int (1 : Int32)), (0, .ref (nq_ad E 0)), (1, .int x1), (2, .int x2)]) rfl (by decide) rfl rfl dX9_enough_31 ?_
      refine nq_sub (lv' := [(0, .ref (nq_ad E 0)), (1, .int x1), (2, .int x2), (3, .int (1 : Int32))]) [1, 2, 3, 0] rfl ?_
      exact mX9_enough_L32 hL hX hr h
theorem dsX9_enough : yX9_enough.cls ≠ "java/lang/invoke/MethodHandle" ∧ yX9_enough.cls ≠ "java/lang/invoke/VarHandle" ∧ (parseMethodDescriptor yX9_enough.desc).map (fun d => d.parameters.length) = some 2 := by decide +kernel
theorem tX9_enough {l : Launch} {E : Ev} {K : List Sh} {x1 : Int32} {x2 : Int32} {M : Mem} {r : Int32} {M' : Mem} (hL : nq_atModel E K) (h : fX9_enough x1 x2 M = some (r, M')) : nq_MA l E yX9_enough wsX9_enough (nq_rm 3) [.ref (nq_ad E 0), .int x1, .int x2] K M (some (.int r)) K M' :=
  nq_met (own := RX9) (cc := cX9_enough) (maxL := 4) (ret := (some .int)) (by decide) rfl rfl (Nat.le_of_ble_eq_true rfl) (fun X hX hr => mX9_enough hL hX hr h)

theorem mmX9_pays_c274 : Cond.constantLong RX9 274 (-99) ∈ wsX9_pays := by decide +kernel
theorem mmX9_pays_c89 : Cond.constantLong RX9 89 (99) ∈ wsX9_pays := by decide +kernel
theorem inX9_pays_9 : ∀ w ∈ u_ws RX9 TX9 23, w ∈ wsX9_pays := by
  intro w h; unfold wsX9_pays; simp only [List.mem_cons, List.mem_append]; simp only [h, true_or, or_true]
theorem lkX9_pays_7 : Cond.fieldLink RX9 7 (TX9 0).1 (TX9 0).2.1 (TX9 0).2.2.1 ∈ wsX9_pays := by decide +kernel
def fX9_pays (x1 : Int32) (x2 : Int32) (M : Mem) : Option (Int32 × Mem) :=
  if x1 < 0 then
  (nq_b2 (fX9_finds (1 : Int32) M) fun v3 M4 =>
  some (v3, M4))
  else
  ((nq_dv x1 (20 : Int32)).bind fun v5 =>
  if (3 : Int32) < v5 then
  (nq_b2 (fX9_finds (1 : Int32) M) fun v8 M9 =>
  some (v8, M9))
  else
  ((nq_rem x1 (10 : Int32)).bind fun v10 =>
  if (3 : Int32) < v10 then
  (nq_b2 (fX9_finds (1 : Int32) M) fun v13 M14 =>
  some (v13, M14))
  else
  ((fX9_in x2.toInt64 (-99 : Int64) (99 : Int64) M).bind fun v16 =>
  if v16 = 0 then
  (nq_b2 (fX9_finds (1 : Int32) M) fun v19 M20 =>
  some (v19, M20))
  else
  ((nq_dv x1 (20 : Int32)).bind fun v21 =>
  (nq_dv x1 (10 : Int32)).bind fun v22 =>
  (nq_rem v22 (2 : Int32)).bind fun v23 =>
  (nq_rem x1 (10 : Int32)).bind fun v24 =>
  nq_lt (((((70 : Int32) + ((8 : Int32) * v21)) + ((4 : Int32) * v23)) + v24)) fun v25 =>
  (nq_ag (M 1) 1250 v25).bind fun v26 =>
  (nq_as M 1 1250 v25 x2).bind fun M27 =>
  some (v26, M27)))))
set_option maxHeartbeats 4000000 in
theorem mX9_pays {X : Cx} {E : Ev} {l : Launch} {K : List Sh} {x1 : Int32} {x2 : Int32} {M : Mem} {r : Int32} {M' : Mem} (hL : nq_atModel E K) (hX : nq_OK X E l (nq_rm 2) cX9_pays 5 RX9 wsX9_pays) (hr : nq_RT X E (some .int) (some (.int r)) K M') (h : fX9_pays x1 x2 M = some (r, M')) : nq_G X E 5 0 [(0, .ref (nq_ad E 0)), (1, .int x1), (2, .int x2)] [] K M := by
  unfold fX9_pays at h
  refine nq_iload_n hX rfl 1 rfl dX9_pays_0 ?_
  refine nq_if_lt hX (tgt := 34) (by decide) dX9_pays_1 (fun c1 => ?_) (fun c1 => ?_)
  · rw [if_pos c1] at h
    refine nq_aload_n hX rfl 0 rfl dX9_pays_34 ?_
    refine nq_iconst hX (v := 1) (by decide) dX9_pays_35 ?_
    obtain ⟨v3, M4, hc2, h⟩ := nq_b2E h
    refine nq_callVi hX (tX9_finds hL hc2) gX9_pays_X9_finds rfl rfl dsX9_finds (by decide) (nq_Model_0 hL) rfl rfl (Nat.le_of_ble_eq_true rfl) dX9_pays_36 ?_
    obtain ⟨rfl, rfl⟩ := nq_sE2 h; exact nq_iret hX hr dX9_pays_39
  · rw [if_neg c1] at h
    refine nq_iload_n hX rfl 1 rfl dX9_pays_4 ?_
    refine nq_bipush hX (v := 20) (by decide) dX9_pays_5 ?_
    obtain ⟨v5, e5, hn5, h⟩ := nq_ifE h
    refine nq_idiv hX hn5 e5 dX9_pays_7 ?_
    refine nq_iconst hX (v := 3) (by decide) dX9_pays_8 ?_
    refine nq_icmp_gt hX (tgt := 34) (by decide) dX9_pays_9 (fun c6 => ?_) (fun c6 => ?_)
    · rw [if_pos c6] at h
      refine nq_aload_n hX rfl 0 rfl dX9_pays_34 ?_
      refine nq_iconst hX (v := 1) (by decide) dX9_pays_35 ?_
      obtain ⟨v8, M9, hc7, h⟩ := nq_b2E h
      refine nq_callVi hX (tX9_finds hL hc7) gX9_pays_X9_finds rfl rfl dsX9_finds (by decide) (nq_Model_0 hL) rfl rfl (Nat.le_of_ble_eq_true rfl) dX9_pays_36 ?_
      obtain ⟨rfl, rfl⟩ := nq_sE2 h; exact nq_iret hX hr dX9_pays_39
    · rw [if_neg c6] at h
      refine nq_iload_n hX rfl 1 rfl dX9_pays_12 ?_
      refine nq_bipush hX (v := 10) (by decide) dX9_pays_13 ?_
      obtain ⟨v10, e10, hn10, h⟩ := nq_ifE h
      refine nq_irem hX hn10 e10 dX9_pays_15 ?_
      refine nq_iconst hX (v := 3) (by decide) dX9_pays_16 ?_
      refine nq_icmp_gt hX (tgt := 34) (by decide) dX9_pays_17 (fun c11 => ?_) (fun c11 => ?_)
      · rw [if_pos c11] at h
        refine nq_aload_n hX rfl 0 rfl dX9_pays_34 ?_
        refine nq_iconst hX (v := 1) (by decide) dX9_pays_35 ?_
        obtain ⟨v13, M14, hc12, h⟩ := nq_b2E h
        refine nq_callVi hX (tX9_finds hL hc12) gX9_pays_X9_finds rfl rfl dsX9_finds (by decide) (nq_Model_0 hL) rfl rfl (Nat.le_of_ble_eq_true rfl) dX9_pays_36 ?_
        obtain ⟨rfl, rfl⟩ := nq_sE2 h; exact nq_iret hX hr dX9_pays_39
      · rw [if_neg c11] at h
        refine nq_iload_n hX rfl 2 rfl dX9_pays_20 ?_
        refine nq_i2l hX dX9_pays_21 ?_
        refine nq_ldc2 hX (v := -99) mmX9_pays_c274 dX9_pays_22 ?_
        refine nq_ldc2 hX (v := 99) mmX9_pays_c89 dX9_pays_25 ?_
        obtain ⟨v16, hc15, h⟩ := nq_bE h
        refine nq_callSi hX (tX9_in  hc15) gX9_pays_X9_in rfl rfl dsX9_in (by decide) rfl (Nat.le_of_ble_eq_true rfl) dX9_pays_28 ?_
        refine nq_if_ne hX (tgt := 40) (by decide) dX9_pays_31 (fun c17 => ?_) (fun c17 => ?_)
        · rw [if_pos c17] at h
          refine nq_aload_n hX rfl 0 rfl dX9_pays_34 ?_
          refine nq_iconst hX (v := 1) (by decide) dX9_pays_35 ?_
          obtain ⟨v19, M20, hc18, h⟩ := nq_b2E h
          refine nq_callVi hX (tX9_finds hL hc18) gX9_pays_X9_finds rfl rfl dsX9_finds (by decide) (nq_Model_0 hL) rfl rfl (Nat.le_of_ble_eq_true rfl) dX9_pays_36 ?_
          obtain ⟨rfl, rfl⟩ := nq_sE2 h; exact nq_iret hX hr dX9_pays_39
        · rw [if_neg c17] at h
          refine nq_bipush hX (v := 70) (by decide) dX9_pays_40 ?_
          refine nq_bipush hX (v := 8) (by decide) dX9_pays_42 ?_
          refine nq_iload_n hX rfl 1 rfl dX9_pays_44 ?_
          refine nq_bipush hX (v := 20) (by decide) dX9_pays_45 ?_
          obtain ⟨v21, e21, hn21, h⟩ := nq_ifE h
          refine nq_idiv hX hn21 e21 dX9_pays_47 ?_
          refine nq_imul hX dX9_pays_48 ?_
          refine nq_iadd hX dX9_pays_49 ?_
          refine nq_iconst hX (v := 4) (by decide) dX9_pays_50 ?_
          refine nq_iload_n hX rfl 1 rfl dX9_pays_51 ?_
          refine nq_bipush hX (v := 10) (by decide) dX9_pays_52 ?_
          obtain ⟨v22, e22, hn22, h⟩ := nq_ifE h
          refine nq_idiv hX hn22 e22 dX9_pays_54 ?_
          refine nq_iconst hX (v := 2) (by decide) dX9_pays_55 ?_
          obtain ⟨v23, e23, hn23, h⟩ := nq_ifE h
          refine nq_irem hX hn23 e23 dX9_pays_56 ?_
          refine nq_imul hX dX9_pays_57 ?_
          refine nq_iadd hX dX9_pays_58 ?_
          refine nq_iload_n hX rfl 1 rfl dX9_pays_59 ?_
          refine nq_bipush hX (v := 10) (by decide) dX9_pays_60 ?_
          obtain ⟨v24, e24, hn24, h⟩ := nq_ifE h
          refine nq_irem hX hn24 e24 dX9_pays_62 ?_
          refine nq_iadd hX dX9_pays_63 ?_
          obtain ⟨v25, e25, h⟩ := nq_ltE h
          refine nq_istore_n hX (lv' := [(3, .int v25), (0, .ref (nq_ad E 0)), (1, .int x1), (2, .int x2)]) rfl (by decide) e25 rfl dX9_pays_64 ?_
          refine nq_aload_n hX rfl 1 rfl dX9_pays_65 ?_
          refine nq_getr (v := .ref (nq_ad E 1)) hX inX9_pays_9 (nq_Model_0 hL) rfl 0 (by decide) lkX9_pays_7 _ rfl rfl dX9_pays_66 ?_
          refine nq_iload_n hX rfl 0 rfl dX9_pays_69 ?_
          obtain ⟨v26, e26, hi26, h⟩ := nq_agE h
          refine nq_iald hX (nq_Model_d hL) e26 hi26 dX9_pays_70 ?_
          refine nq_istore hX (lv' := [(4, .int v26), (3, .int v25), (0, .ref (nq_ad E 0)), (1, .int x1), (2, .int x2)]) (by decide) rfl rfl dX9_pays_71 ?_
          refine nq_aload_n hX rfl 2 rfl dX9_pays_73 ?_
          refine nq_getr (v := .ref (nq_ad E 1)) hX inX9_pays_9 (nq_Model_0 hL) rfl 0 (by decide) lkX9_pays_7 _ rfl rfl dX9_pays_74 ?_
          refine nq_iload_n hX rfl 1 rfl dX9_pays_77 ?_
          refine nq_iload_n hX rfl 4 rfl dX9_pays_78 ?_
          obtain ⟨M27, e27, hi27, h⟩ := nq_asE h
          refine nq_iast hX (nq_Model_d hL) e27 hi27 dX9_pays_79 ?_
          refine nq_iload hX 0 rfl dX9_pays_80 ?_
          obtain ⟨rfl, rfl⟩ := nq_sE2 h; exact nq_iret hX hr dX9_pays_82
theorem dsX9_pays : yX9_pays.cls ≠ "java/lang/invoke/MethodHandle" ∧ yX9_pays.cls ≠ "java/lang/invoke/VarHandle" ∧ (parseMethodDescriptor yX9_pays.desc).map (fun d => d.parameters.length) = some 2 := by decide +kernel
theorem tX9_pays {l : Launch} {E : Ev} {K : List Sh} {x1 : Int32} {x2 : Int32} {M : Mem} {r : Int32} {M' : Mem} (hL : nq_atModel E K) (h : fX9_pays x1 x2 M = some (r, M')) : nq_MA l E yX9_pays wsX9_pays (nq_rm 2) [.ref (nq_ad E 0), .int x1, .int x2] K M (some (.int r)) K M' :=
  nq_met (own := RX9) (cc := cX9_pays) (maxL := 5) (ret := (some .int)) (by decide) rfl rfl (Nat.le_of_ble_eq_true rfl) (fun X hX hr => mX9_pays hL hX hr h)

theorem inX9_payOf_9 : ∀ w ∈ u_ws RX9 TX9 23, w ∈ wsX9_payOf := by
  intro w h; unfold wsX9_payOf; simp only [List.mem_cons, List.mem_append]; simp only [h, true_or, or_true]
theorem lkX9_payOf_7 : Cond.fieldLink RX9 7 (TX9 0).1 (TX9 0).2.1 (TX9 0).2.2.1 ∈ wsX9_payOf := by decide +kernel
def fX9_payOf (x1 : Int32) (x2 : Int32) (x3 : Int32) (x4 : Int32) (M : Mem) : Option (Int32) :=
  (nq_ag (M 1) 1250 (((((70 : Int32) + ((8 : Int32) * x1)) + ((4 : Int32) * x2)) + ((2 : Int32) * x3)) + x4)).bind fun v1 =>
  some v1
set_option maxHeartbeats 4000000 in
theorem mX9_payOf {X : Cx} {E : Ev} {l : Launch} {K : List Sh} {x1 : Int32} {x2 : Int32} {x3 : Int32} {x4 : Int32} {M : Mem} {r : Int32} (hL : nq_atModel E K) (hX : nq_OK X E l (nq_rm 1) cX9_payOf 5 RX9 wsX9_payOf) (hr : nq_RT X E (some .int) (some (.int r)) K M) (h : fX9_payOf x1 x2 x3 x4 M = some r) : nq_G X E 5 0 [(0, .ref (nq_ad E 0)), (1, .int x1), (2, .int x2), (3, .int x3), (4, .int x4)] [] K M := by
  unfold fX9_payOf at h
  refine nq_aload_n hX rfl 0 rfl dX9_payOf_0 ?_
  refine nq_getr (v := .ref (nq_ad E 1)) hX inX9_payOf_9 (nq_Model_0 hL) rfl 0 (by decide) lkX9_payOf_7 _ rfl rfl dX9_payOf_1 ?_
  refine nq_bipush hX (v := 70) (by decide) dX9_payOf_4 ?_
  refine nq_bipush hX (v := 8) (by decide) dX9_payOf_6 ?_
  refine nq_iload_n hX rfl 1 rfl dX9_payOf_8 ?_
  refine nq_imul hX dX9_payOf_9 ?_
  refine nq_iadd hX dX9_payOf_10 ?_
  refine nq_iconst hX (v := 4) (by decide) dX9_payOf_11 ?_
  refine nq_iload_n hX rfl 2 rfl dX9_payOf_12 ?_
  refine nq_imul hX dX9_payOf_13 ?_
  refine nq_iadd hX dX9_payOf_14 ?_
  refine nq_iconst hX (v := 2) (by decide) dX9_payOf_15 ?_
  refine nq_iload_n hX rfl 3 rfl dX9_payOf_16 ?_
  refine nq_imul hX dX9_payOf_17 ?_
  refine nq_iadd hX dX9_payOf_18 ?_
  refine nq_iload hX 4 rfl dX9_payOf_19 ?_
  refine nq_iadd hX dX9_payOf_21 ?_
  obtain ⟨v1, e1, hi1, h⟩ := nq_agE h
  refine nq_iald hX (nq_Model_d hL) e1 hi1 dX9_payOf_22 ?_
  obtain rfl := nq_sE1 h; exact nq_iret hX hr dX9_payOf_23
theorem dsX9_payOf : yX9_payOf.cls ≠ "java/lang/invoke/MethodHandle" ∧ yX9_payOf.cls ≠ "java/lang/invoke/VarHandle" ∧ (parseMethodDescriptor yX9_payOf.desc).map (fun d => d.parameters.length) = some 4 := by decide +kernel
theorem tX9_payOf {l : Launch} {E : Ev} {K : List Sh} {x1 : Int32} {x2 : Int32} {x3 : Int32} {x4 : Int32} {M : Mem} {r : Int32} (hL : nq_atModel E K) (h : fX9_payOf x1 x2 x3 x4 M = some r) : nq_MA l E yX9_payOf wsX9_payOf (nq_rm 1) [.ref (nq_ad E 0), .int x1, .int x2, .int x3, .int x4] K M (some (.int r)) K M :=
  nq_met (own := RX9) (cc := cX9_payOf) (maxL := 5) (ret := (some .int)) (by decide) rfl rfl (Nat.le_of_ble_eq_true rfl) (fun X hX hr => mX9_payOf hL hX hr h)

def fX9_rest_L87_17 (x1 : Int32) (x2 : Int32) (x3 : Int32) (s0 : Int32) (M : Mem) : Option ((Int32 × Int32) ⊕ (Int32)) :=
  if s0 = 0 then
  (nq_lt ((x2 ||| (0 : Int32))) fun v16 =>
  nq_lt (x3 + (1 : Int32)) fun v17 =>
  some (.inl (v16, v17)))
  else
  (nq_lt ((x2 ||| ((1 : Int32) <<< (x3 &&& 31)))) fun v18 =>
  nq_lt (x3 + (1 : Int32)) fun v19 =>
  some (.inl (v18, v19)))
set_option maxHeartbeats 4000000 in
theorem mX9_rest_L87_17 {X : Cx} {E : Ev} {l : Launch} {K : List Sh} {x1 : Int32} {x2 : Int32} {x3 : Int32} {s0 : Int32} {M : Mem} (hL : nq_atModel E K) (hX : nq_OK X E l (nq_rm 3) cX9_rest 7 RX9 wsX9_rest) {x : (Int32 × Int32) ⊕ (Int32)} (hc : ∀ s' : Int32 × Int32, x = .inl s' → nq_G X E 7 17 [(0, .ref (nq_ad E 0)), (1, .int x1), (2, .int s'.1), (3, .int s'.2)] [] K M) (he : ∀ s' : Int32, x = .inr s' → nq_G X E 7 110 [(2, .int s')] [] K M) (h : fX9_rest_L87_17 x1 x2 x3 s0 M = some x) : nq_G X E 7 87 [(0, .ref (nq_ad E 0)), (1, .int x1), (2, .int x2), (3, .int x3)] [.int s0] K M := by
  unfold fX9_rest_L87_17 at h
  refine nq_istore hX (lv' := [(6, .int s0), (0, .ref (nq_ad E 0)), (1, .int x1), (2, .int x2), (3, .int x3)]) (by decide) rfl rfl dX9_rest_87 ?_
  refine nq_iload_n hX rfl 3 rfl dX9_rest_89 ?_
  refine nq_iload hX 0 rfl dX9_rest_90 ?_
  refine nq_if_eq hX (tgt := 101) (by decide) dX9_rest_92 (fun c15 => ?_) (fun c15 => ?_)
  · rw [if_pos c15] at h
    refine nq_iconst hX (v := 0) (by decide) dX9_rest_101 ?_
    refine nq_ior hX dX9_rest_102 ?_
    obtain ⟨v16, e16, h⟩ := nq_ltE h
    refine nq_istore_n hX (lv' := [(2, .int v16), (6, .int s0), (0, .ref (nq_ad E 0)), (1, .int x1), (3, .int x3)]) rfl (by decide) e16 rfl dX9_rest_103 ?_
    obtain ⟨v17, e17, h⟩ := nq_ltE h
    refine nq_iinc hX (lv' := [(3, .int v17), (2, .int v16), (6, .int s0), (0, .ref (nq_ad E 0)), (1, .int x1)]) (j := 4) rfl (e17.trans rfl) (by decide) rfl dX9_rest_104 ?_
    refine nq_goto hX (tgt := 17) (by decide) dX9_rest_107 ?_
    refine nq_sub (lv' := [(0, .ref (nq_ad E 0)), (1, .int x1), (2, .int v16), (3, .int v17)]) [3, 4, 1, 0] rfl ?_
    exact hc (v16, v17) (nq_sE h).symm
  · rw [if_neg c15] at h
    refine nq_iconst hX (v := 1) (by decide) dX9_rest_95 ?_
    refine nq_iload_n hX rfl 4 rfl dX9_rest_96 ?_
    refine nq_ishl hX dX9_rest_97 ?_
    refine nq_goto hX (tgt := 102) (by decide) dX9_rest_98 ?_
    refine nq_ior hX dX9_rest_102 ?_
    obtain ⟨v18, e18, h⟩ := nq_ltE h
    refine nq_istore_n hX (lv' := [(2, .int v18), (6, .int s0), (0, .ref (nq_ad E 0)), (1, .int x1), (3, .int x3)]) rfl (by decide) e18 rfl dX9_rest_103 ?_
    obtain ⟨v19, e19, h⟩ := nq_ltE h
    refine nq_iinc hX (lv' := [(3, .int v19), (2, .int v18), (6, .int s0), (0, .ref (nq_ad E 0)), (1, .int x1)]) (j := 4) rfl (e19.trans rfl) (by decide) rfl dX9_rest_104 ?_
    refine nq_goto hX (tgt := 17) (by decide) dX9_rest_107 ?_
    refine nq_sub (lv' := [(0, .ref (nq_ad E 0)), (1, .int x1), (2, .int v18), (3, .int v19)]) [3, 4, 1, 0] rfl ?_
    exact hc (v18, v19) (nq_sE h).symm
def fX9_rest_L86_17 (x1 : Int32) (x2 : Int32) (x3 : Int32) (M : Mem) : Option ((Int32 × Int32) ⊕ (Int32)) :=
  fX9_rest_L87_17 x1 x2 x3 (0 : Int32) M
set_option maxHeartbeats 4000000 in
theorem mX9_rest_L86_17 {X : Cx} {E : Ev} {l : Launch} {K : List Sh} {x1 : Int32} {x2 : Int32} {x3 : Int32} {M : Mem} (hL : nq_atModel E K) (hX : nq_OK X E l (nq_rm 3) cX9_rest 7 RX9 wsX9_rest) {x : (Int32 × Int32) ⊕ (Int32)} (hc : ∀ s' : Int32 × Int32, x = .inl s' → nq_G X E 7 17 [(0, .ref (nq_ad E 0)), (1, .int x1), (2, .int s'.1), (3, .int s'.2)] [] K M) (he : ∀ s' : Int32, x = .inr s' → nq_G X E 7 110 [(2, .int s')] [] K M) (h : fX9_rest_L86_17 x1 x2 x3 M = some x) : nq_G X E 7 86 [(0, .ref (nq_ad E 0)), (1, .int x1), (2, .int x2), (3, .int x3)] [] K M := by
  unfold fX9_rest_L86_17 at h
  refine nq_iconst hX (v := 0) (by decide) dX9_rest_86 ?_
  exact mX9_rest_L87_17 hL hX hc he h
def fX9_rest_B17 (x1 : Int32) (x2 : Int32) (x3 : Int32) (M : Mem) : Option ((Int32 × Int32) ⊕ (Int32)) :=
  if (4 : Int32) ≤ x3 then
  (some (.inr x2))
  else
  ((nq_dv x3 (2 : Int32)).bind fun v8 =>
  (nq_rem x3 (2 : Int32)).bind fun v9 =>
  (fX9_payOf x1 (0 : Int32) v8 v9 M).bind fun v11 =>
  (fX9_payOf x1 (0 : Int32) ((1 : Int32) - v8) v9 M).bind fun v13 =>
  if v11 < v13 then
  (fX9_rest_L86_17 x1 x2 x3 M)
  else
  ((fX9_payOf x1 (1 : Int32) v9 v8 M).bind fun v21 =>
  (fX9_payOf x1 (1 : Int32) ((1 : Int32) - v9) v8 M).bind fun v23 =>
  if v21 < v23 then
  (fX9_rest_L86_17 x1 x2 x3 M)
  else
  (fX9_rest_L87_17 x1 x2 x3 (1 : Int32) M)))
set_option maxHeartbeats 4000000 in
theorem mX9_rest_B17 {X : Cx} {E : Ev} {l : Launch} {K : List Sh} {x1 : Int32} {x2 : Int32} {x3 : Int32} {M : Mem} (hL : nq_atModel E K) (hX : nq_OK X E l (nq_rm 3) cX9_rest 7 RX9 wsX9_rest) {x : (Int32 × Int32) ⊕ (Int32)} (hc : ∀ s' : Int32 × Int32, x = .inl s' → nq_G X E 7 17 [(0, .ref (nq_ad E 0)), (1, .int x1), (2, .int s'.1), (3, .int s'.2)] [] K M) (he : ∀ s' : Int32, x = .inr s' → nq_G X E 7 110 [(2, .int s')] [] K M) (h : fX9_rest_B17 x1 x2 x3 M = some x) : nq_G X E 7 17 [(0, .ref (nq_ad E 0)), (1, .int x1), (2, .int x2), (3, .int x3)] [] K M := by
  unfold fX9_rest_B17 at h
  refine nq_iload_n hX rfl 3 rfl dX9_rest_17 ?_
  refine nq_iconst hX (v := 4) (by decide) dX9_rest_18 ?_
  refine nq_icmp_ge hX (tgt := 110) (by decide) dX9_rest_19 (fun c7 => ?_) (fun c7 => ?_)
  · rw [if_pos c7] at h
    refine nq_sub (lv' := [(2, .int x2)]) [2] rfl ?_
    exact he x2 (nq_sE h).symm
  · rw [if_neg c7] at h
    refine nq_iload_n hX rfl 3 rfl dX9_rest_22 ?_
    refine nq_iconst hX (v := 2) (by decide) dX9_rest_23 ?_
    obtain ⟨v8, e8, hn8, h⟩ := nq_ifE h
    refine nq_idiv hX hn8 e8 dX9_rest_24 ?_
    refine nq_istore hX (lv' := [(4, .int v8), (0, .ref (nq_ad E 0)), (1, .int x1), (2, .int x2), (3, .int x3)]) (by decide) rfl rfl dX9_rest_25 ?_
    refine nq_iload_n hX rfl 4 rfl dX9_rest_27 ?_
    refine nq_iconst hX (v := 2) (by decide) dX9_rest_28 ?_
    obtain ⟨v9, e9, hn9, h⟩ := nq_ifE h
    refine nq_irem hX hn9 e9 dX9_rest_29 ?_
    refine nq_istore hX (lv' := [(5, .int v9), (4, .int v8), (0, .ref (nq_ad E 0)), (1, .int x1), (2, .int x2), (3, .int x3)]) (by decide) rfl rfl dX9_rest_30 ?_
    refine nq_aload_n hX rfl 2 rfl dX9_rest_32 ?_
    refine nq_iload_n hX rfl 3 rfl dX9_rest_33 ?_
    refine nq_iconst hX (v := 0) (by decide) dX9_rest_34 ?_
    refine nq_iload hX 1 rfl dX9_rest_35 ?_
    refine nq_iload hX 0 rfl dX9_rest_37 ?_
    obtain ⟨v11, hc10, h⟩ := nq_bE h
    refine nq_callVi hX (tX9_payOf hL hc10) gX9_rest_X9_payOf rfl rfl dsX9_payOf (by decide) (nq_Model_0 hL) rfl rfl (Nat.le_of_ble_eq_true rfl) dX9_rest_39 ?_
    refine nq_aload_n hX rfl 2 rfl dX9_rest_42 ?_
    refine nq_iload_n hX rfl 3 rfl dX9_rest_43 ?_
    refine nq_iconst hX (v := 0) (by decide) dX9_rest_44 ?_
    refine nq_iconst hX (v := 1) (by decide) dX9_rest_45 ?_
    refine nq_iload hX 1 rfl dX9_rest_46 ?_
    refine nq_isub hX dX9_rest_48 ?_
    refine nq_iload hX 0 rfl dX9_rest_49 ?_
    obtain ⟨v13, hc12, h⟩ := nq_bE h
    refine nq_callVi hX (tX9_payOf hL hc12) gX9_rest_X9_payOf rfl rfl dsX9_payOf (by decide) (nq_Model_0 hL) rfl rfl (Nat.le_of_ble_eq_true rfl) dX9_rest_51 ?_
    refine nq_icmp_lt hX (tgt := 86) (by decide) dX9_rest_54 (fun c14 => ?_) (fun c14 => ?_)
    · rw [if_pos c14] at h
      refine nq_sub (lv' := [(0, .ref (nq_ad E 0)), (1, .int x1), (2, .int x2), (3, .int x3)]) [2, 3, 4, 5] rfl ?_
      exact mX9_rest_L86_17 hL hX hc he h
    · rw [if_neg c14] at h
      refine nq_aload_n hX rfl 2 rfl dX9_rest_57 ?_
      refine nq_iload_n hX rfl 3 rfl dX9_rest_58 ?_
      refine nq_iconst hX (v := 1) (by decide) dX9_rest_59 ?_
      refine nq_iload hX 0 rfl dX9_rest_60 ?_
      refine nq_iload hX 1 rfl dX9_rest_62 ?_
      obtain ⟨v21, hc20, h⟩ := nq_bE h
      refine nq_callVi hX (tX9_payOf hL hc20) gX9_rest_X9_payOf rfl rfl dsX9_payOf (by decide) (nq_Model_0 hL) rfl rfl (Nat.le_of_ble_eq_true rfl) dX9_rest_64 ?_
      refine nq_aload_n hX rfl 2 rfl dX9_rest_67 ?_
      refine nq_iload_n hX rfl 3 rfl dX9_rest_68 ?_
      refine nq_iconst hX (v := 1) (by decide) dX9_rest_69 ?_
      refine nq_iconst hX (v := 1) (by decide) dX9_rest_70 ?_
      refine nq_iload hX 0 rfl dX9_rest_71 ?_
      refine nq_isub hX dX9_rest_73 ?_
      refine nq_iload hX 1 rfl dX9_rest_74 ?_
      obtain ⟨v23, hc22, h⟩ := nq_bE h
      refine nq_callVi hX (tX9_payOf hL hc22) gX9_rest_X9_payOf rfl rfl dsX9_payOf (by decide) (nq_Model_0 hL) rfl rfl (Nat.le_of_ble_eq_true rfl) dX9_rest_76 ?_
      refine nq_icmp_lt hX (tgt := 86) (by decide) dX9_rest_79 (fun c24 => ?_) (fun c24 => ?_)
      · rw [if_pos c24] at h
        refine nq_sub (lv' := [(0, .ref (nq_ad E 0)), (1, .int x1), (2, .int x2), (3, .int x3)]) [2, 3, 4, 5] rfl ?_
        exact mX9_rest_L86_17 hL hX hc he h
      · rw [if_neg c24] at h
        refine nq_iconst hX (v := 1) (by decide) dX9_rest_82 ?_
        refine nq_goto hX (tgt := 87) (by decide) dX9_rest_83 ?_
        refine nq_sub (lv' := [(0, .ref (nq_ad E 0)), (1, .int x1), (2, .int x2), (3, .int x3)]) [2, 3, 4, 5] rfl ?_
        exact mX9_rest_L87_17 hL hX hc he h
def fX9_rest_L110 (x2 : Int32) (M : Mem) : Option (Int32 × Mem) :=
  some (x2, M)
set_option maxHeartbeats 4000000 in
theorem mX9_rest_L110 {X : Cx} {E : Ev} {l : Launch} {K : List Sh} {x2 : Int32} {M : Mem} {r : Int32} {M' : Mem} (hL : nq_atModel E K) (hX : nq_OK X E l (nq_rm 3) cX9_rest 7 RX9 wsX9_rest) (hr : nq_RT X E (some .int) (some (.int r)) K M') (h : fX9_rest_L110 x2 M = some (r, M')) : nq_G X E 7 110 [(2, .int x2)] [] K M := by
  unfold fX9_rest_L110 at h
  refine nq_iload_n hX rfl 0 rfl dX9_rest_110 ?_
  obtain ⟨rfl, rfl⟩ := nq_sE2 h; exact nq_iret hX hr dX9_rest_111
def fX9_rest_L17 (x1 : Int32) (x2 : Int32) (x3 : Int32) (M : Mem) : Option (Int32 × Mem) :=
  (nq_lp (fun s : Int32 × Int32 => fX9_rest_B17 x1 s.1 s.2 M) nq_fuel (x2, x3)).bind (fun e => fX9_rest_L110 e M)
set_option maxHeartbeats 4000000 in
theorem mX9_rest_L17 {X : Cx} {E : Ev} {l : Launch} {K : List Sh} {x1 : Int32} {x2 : Int32} {x3 : Int32} {M : Mem} {r : Int32} {M' : Mem} (hL : nq_atModel E K) (hX : nq_OK X E l (nq_rm 3) cX9_rest 7 RX9 wsX9_rest) (hr : nq_RT X E (some .int) (some (.int r)) K M') (h : fX9_rest_L17 x1 x2 x3 M = some (r, M')) : nq_G X E 7 17 [(0, .ref (nq_ad E 0)), (1, .int x1), (2, .int x2), (3, .int x3)] [] K M := by
  unfold fX9_rest_L17 at h
  obtain ⟨e, h1, h⟩ := nq_bE h
  have key : ∀ (ex : Int32), nq_lp (fun s : Int32 × Int32 => fX9_rest_B17 x1 s.1 s.2 M) nq_fuel (x2, x3) = some ex → (∀ e, ex = e → nq_G X E 7 110 [(2, .int e)] [] K M) → nq_G X E 7 17 [(0, .ref (nq_ad E 0)), (1, .int x1), (2, .int ((x2, x3).1)), (3, .int ((x2, x3).2))] [] K M := by
    intro ex h1 hE
    refine nq_lpE (P := fun s : Int32 × Int32 => nq_G X E 7 17 [(0, .ref (nq_ad E 0)), (1, .int x1), (2, .int s.1), (3, .int s.2)] [] K M) (r := ex) ?_ nq_fuel (x2, x3) h1
    intro s xx hx1 hc1 he1
    exact mX9_rest_B17 hL hX hc1 (fun e q => hE e (he1 _ q).symm) hx1
  refine key e h1 (fun e q => ?_)
  subst q
  exact mX9_rest_L110 hL hX hr h
def fX9_rest (x1 : Int32) (M : Mem) : Option (Int32 × Mem) :=
  (fX9_isPact x1 M).bind fun v2 =>
  if v2 = 0 then
  (nq_b2 (fX9_finds (1 : Int32) M) fun v5 M6 =>
  some (v5, M6))
  else
  (fX9_rest_L17 x1 (0 : Int32) (0 : Int32) M)
set_option maxHeartbeats 4000000 in
theorem mX9_rest {X : Cx} {E : Ev} {l : Launch} {K : List Sh} {x1 : Int32} {M : Mem} {r : Int32} {M' : Mem} (hL : nq_atModel E K) (hX : nq_OK X E l (nq_rm 3) cX9_rest 7 RX9 wsX9_rest) (hr : nq_RT X E (some .int) (some (.int r)) K M') (h : fX9_rest x1 M = some (r, M')) : nq_G X E 7 0 [(0, .ref (nq_ad E 0)), (1, .int x1)] [] K M := by
  unfold fX9_rest at h
  refine nq_iload_n hX rfl 1 rfl dX9_rest_0 ?_
  obtain ⟨v2, hc1, h⟩ := nq_bE h
  refine nq_callSi hX (tX9_isPact  hc1) gX9_rest_X9_isPact rfl rfl dsX9_isPact (by decide) rfl (Nat.le_of_ble_eq_true rfl) dX9_rest_1 ?_
  refine nq_if_ne hX (tgt := 13) (by decide) dX9_rest_4 (fun c3 => ?_) (fun c3 => ?_)
  · rw [if_pos c3] at h
    refine nq_aload_n hX rfl 0 rfl dX9_rest_7 ?_
    refine nq_iconst hX (v := 1) (by decide) dX9_rest_8 ?_
    obtain ⟨v5, M6, hc4, h⟩ := nq_b2E h
    refine nq_callVi hX (tX9_finds hL hc4) gX9_rest_X9_finds rfl rfl dsX9_finds (by decide) (nq_Model_0 hL) rfl rfl (Nat.le_of_ble_eq_true rfl) dX9_rest_9 ?_
    obtain ⟨rfl, rfl⟩ := nq_sE2 h; exact nq_iret hX hr dX9_rest_12
  · rw [if_neg c3] at h
    refine nq_iconst hX (v := 0) (by decide) dX9_rest_13 ?_
    refine nq_istore_n hX (lv' := [(2, .int (0 : Int32)), (0, .ref (nq_ad E 0)), (1, .int x1)]) rfl (by decide) rfl rfl dX9_rest_14 ?_
    refine nq_iconst hX (v := 0) (by decide) dX9_rest_15 ?_
    refine nq_istore_n hX (lv' := [(3, .int (0 : Int32)), (2, .int (0 : Int32)), (0, .ref (nq_ad E 0)), (1, .int x1)]) rfl (by decide) rfl rfl dX9_rest_16 ?_
    refine nq_sub (lv' := [(0, .ref (nq_ad E 0)), (1, .int x1), (2, .int (0 : Int32)), (3, .int (0 : Int32))]) [2, 3, 1, 0] rfl ?_
    exact mX9_rest_L17 hL hX hr h
theorem dsX9_rest : yX9_rest.cls ≠ "java/lang/invoke/MethodHandle" ∧ yX9_rest.cls ≠ "java/lang/invoke/VarHandle" ∧ (parseMethodDescriptor yX9_rest.desc).map (fun d => d.parameters.length) = some 1 := by decide +kernel
theorem tX9_rest {l : Launch} {E : Ev} {K : List Sh} {x1 : Int32} {M : Mem} {r : Int32} {M' : Mem} (hL : nq_atModel E K) (h : fX9_rest x1 M = some (r, M')) : nq_MA l E yX9_rest wsX9_rest (nq_rm 3) [.ref (nq_ad E 0), .int x1] K M (some (.int r)) K M' :=
  nq_met (own := RX9) (cc := cX9_rest) (maxL := 7) (ret := (some .int)) (by decide) rfl rfl (Nat.le_of_ble_eq_true rfl) (fun X hX hr => mX9_rest hL hX hr h)

def fX9_answer (x1 : Int32) (x2 : Int32) (x3 : Int32) (M : Mem) : Option (Int32 × Mem) :=
  (fX9_isPact x1 M).bind fun v2 =>
  if v2 = 0 then
  (nq_b2 (fX9_finds (1 : Int32) M) fun v5 M6 =>
  some (v5, M6))
  else
  ((fX9_in x2.toInt64 (0 : Int64) (1 : Int64) M).bind fun v8 =>
  if v8 = 0 then
  (nq_b2 (fX9_finds (1 : Int32) M) fun v11 M12 =>
  some (v11, M12))
  else
  ((fX9_in x3.toInt64 (0 : Int64) (1 : Int64) M).bind fun v14 =>
  if v14 = 0 then
  (nq_b2 (fX9_finds (1 : Int32) M) fun v17 M18 =>
  some (v17, M18))
  else
  ((fX9_payOf x1 x2 (1 : Int32) x3 M).bind fun v20 =>
  (fX9_payOf x1 x2 (0 : Int32) x3 M).bind fun v22 =>
  if v20 ≤ v22 then
  (some ((0 : Int32), M))
  else
  (some ((1 : Int32), M)))))
set_option maxHeartbeats 4000000 in
theorem mX9_answer {X : Cx} {E : Ev} {l : Launch} {K : List Sh} {x1 : Int32} {x2 : Int32} {x3 : Int32} {M : Mem} {r : Int32} {M' : Mem} (hL : nq_atModel E K) (hX : nq_OK X E l (nq_rm 3) cX9_answer 4 RX9 wsX9_answer) (hr : nq_RT X E (some .int) (some (.int r)) K M') (h : fX9_answer x1 x2 x3 M = some (r, M')) : nq_G X E 4 0 [(0, .ref (nq_ad E 0)), (1, .int x1), (2, .int x2), (3, .int x3)] [] K M := by
  unfold fX9_answer at h
  refine nq_iload_n hX rfl 1 rfl dX9_answer_0 ?_
  obtain ⟨v2, hc1, h⟩ := nq_bE h
  refine nq_callSi hX (tX9_isPact  hc1) gX9_answer_X9_isPact rfl rfl dsX9_isPact (by decide) rfl (Nat.le_of_ble_eq_true rfl) dX9_answer_1 ?_
  refine nq_if_eq hX (tgt := 27) (by decide) dX9_answer_4 (fun c3 => ?_) (fun c3 => ?_)
  · rw [if_pos c3] at h
    refine nq_aload_n hX rfl 0 rfl dX9_answer_27 ?_
    refine nq_iconst hX (v := 1) (by decide) dX9_answer_28 ?_
    obtain ⟨v5, M6, hc4, h⟩ := nq_b2E h
    refine nq_callVi hX (tX9_finds hL hc4) gX9_answer_X9_finds rfl rfl dsX9_finds (by decide) (nq_Model_0 hL) rfl rfl (Nat.le_of_ble_eq_true rfl) dX9_answer_29 ?_
    obtain ⟨rfl, rfl⟩ := nq_sE2 h; exact nq_iret hX hr dX9_answer_32
  · rw [if_neg c3] at h
    refine nq_iload_n hX rfl 2 rfl dX9_answer_7 ?_
    refine nq_i2l hX dX9_answer_8 ?_
    refine nq_lconst hX (v := 0) (by decide) dX9_answer_9 ?_
    refine nq_lconst hX (v := 1) (by decide) dX9_answer_10 ?_
    obtain ⟨v8, hc7, h⟩ := nq_bE h
    refine nq_callSi hX (tX9_in  hc7) gX9_answer_X9_in rfl rfl dsX9_in (by decide) rfl (Nat.le_of_ble_eq_true rfl) dX9_answer_11 ?_
    refine nq_if_eq hX (tgt := 27) (by decide) dX9_answer_14 (fun c9 => ?_) (fun c9 => ?_)
    · rw [if_pos c9] at h
      refine nq_aload_n hX rfl 0 rfl dX9_answer_27 ?_
      refine nq_iconst hX (v := 1) (by decide) dX9_answer_28 ?_
      obtain ⟨v11, M12, hc10, h⟩ := nq_b2E h
      refine nq_callVi hX (tX9_finds hL hc10) gX9_answer_X9_finds rfl rfl dsX9_finds (by decide) (nq_Model_0 hL) rfl rfl (Nat.le_of_ble_eq_true rfl) dX9_answer_29 ?_
      obtain ⟨rfl, rfl⟩ := nq_sE2 h; exact nq_iret hX hr dX9_answer_32
    · rw [if_neg c9] at h
      refine nq_iload_n hX rfl 3 rfl dX9_answer_17 ?_
      refine nq_i2l hX dX9_answer_18 ?_
      refine nq_lconst hX (v := 0) (by decide) dX9_answer_19 ?_
      refine nq_lconst hX (v := 1) (by decide) dX9_answer_20 ?_
      obtain ⟨v14, hc13, h⟩ := nq_bE h
      refine nq_callSi hX (tX9_in  hc13) gX9_answer_X9_in rfl rfl dsX9_in (by decide) rfl (Nat.le_of_ble_eq_true rfl) dX9_answer_21 ?_
      refine nq_if_ne hX (tgt := 33) (by decide) dX9_answer_24 (fun c15 => ?_) (fun c15 => ?_)
      · rw [if_pos c15] at h
        refine nq_aload_n hX rfl 0 rfl dX9_answer_27 ?_
        refine nq_iconst hX (v := 1) (by decide) dX9_answer_28 ?_
        obtain ⟨v17, M18, hc16, h⟩ := nq_b2E h
        refine nq_callVi hX (tX9_finds hL hc16) gX9_answer_X9_finds rfl rfl dsX9_finds (by decide) (nq_Model_0 hL) rfl rfl (Nat.le_of_ble_eq_true rfl) dX9_answer_29 ?_
        obtain ⟨rfl, rfl⟩ := nq_sE2 h; exact nq_iret hX hr dX9_answer_32
      · rw [if_neg c15] at h
        refine nq_aload_n hX rfl 0 rfl dX9_answer_33 ?_
        refine nq_iload_n hX rfl 1 rfl dX9_answer_34 ?_
        refine nq_iload_n hX rfl 2 rfl dX9_answer_35 ?_
        refine nq_iconst hX (v := 1) (by decide) dX9_answer_36 ?_
        refine nq_iload_n hX rfl 3 rfl dX9_answer_37 ?_
        obtain ⟨v20, hc19, h⟩ := nq_bE h
        refine nq_callVi hX (tX9_payOf hL hc19) gX9_answer_X9_payOf rfl rfl dsX9_payOf (by decide) (nq_Model_0 hL) rfl rfl (Nat.le_of_ble_eq_true rfl) dX9_answer_38 ?_
        refine nq_aload_n hX rfl 0 rfl dX9_answer_41 ?_
        refine nq_iload_n hX rfl 1 rfl dX9_answer_42 ?_
        refine nq_iload_n hX rfl 2 rfl dX9_answer_43 ?_
        refine nq_iconst hX (v := 0) (by decide) dX9_answer_44 ?_
        refine nq_iload_n hX rfl 3 rfl dX9_answer_45 ?_
        obtain ⟨v22, hc21, h⟩ := nq_bE h
        refine nq_callVi hX (tX9_payOf hL hc21) gX9_answer_X9_payOf rfl rfl dsX9_payOf (by decide) (nq_Model_0 hL) rfl rfl (Nat.le_of_ble_eq_true rfl) dX9_answer_46 ?_
        refine nq_icmp_le hX (tgt := 56) (by decide) dX9_answer_49 (fun c23 => ?_) (fun c23 => ?_)
        · rw [if_pos c23] at h
          refine nq_iconst hX (v := 0) (by decide) dX9_answer_56 ?_
          obtain ⟨rfl, rfl⟩ := nq_sE2 h; exact nq_iret hX hr dX9_answer_57
        · rw [if_neg c23] at h
          refine nq_iconst hX (v := 1) (by decide) dX9_answer_52 ?_
          refine nq_goto hX (tgt := 57) (by decide) dX9_answer_53 ?_
          obtain ⟨rfl, rfl⟩ := nq_sE2 h; exact nq_iret hX hr dX9_answer_57
theorem dsX9_answer : yX9_answer.cls ≠ "java/lang/invoke/MethodHandle" ∧ yX9_answer.cls ≠ "java/lang/invoke/VarHandle" ∧ (parseMethodDescriptor yX9_answer.desc).map (fun d => d.parameters.length) = some 3 := by decide +kernel
theorem tX9_answer {l : Launch} {E : Ev} {K : List Sh} {x1 : Int32} {x2 : Int32} {x3 : Int32} {M : Mem} {r : Int32} {M' : Mem} (hL : nq_atModel E K) (h : fX9_answer x1 x2 x3 M = some (r, M')) : nq_MA l E yX9_answer wsX9_answer (nq_rm 3) [.ref (nq_ad E 0), .int x1, .int x2, .int x3] K M (some (.int r)) K M' :=
  nq_met (own := RX9) (cc := cX9_answer) (maxL := 4) (ret := (some .int)) (by decide) rfl rfl (Nat.le_of_ble_eq_true rfl) (fun X hX hr => mX9_answer hL hX hr h)

theorem inX9_isWork_9 : ∀ w ∈ u_ws RX9 TX9 23, w ∈ wsX9_isWork := by
  intro w h; unfold wsX9_isWork; simp only [List.mem_cons, List.mem_append]; simp only [h, true_or, or_true]
theorem lkX9_isWork_7 : Cond.fieldLink RX9 7 (TX9 0).1 (TX9 0).2.1 (TX9 0).2.2.1 ∈ wsX9_isWork := by decide +kernel
def fX9_isWork (x1 : Int32) (M : Mem) : Option (Int32) :=
  (nq_ag (M 1) 1250 (3 : Int32)).bind fun v1 =>
  (fX9_in x1.toInt64 (0 : Int64) ((v1 - (1 : Int32)).toInt64) M).bind fun v3 =>
  (nq_nz .boolean v3).bind fun _ =>
  some v3
set_option maxHeartbeats 4000000 in
theorem mX9_isWork {X : Cx} {E : Ev} {l : Launch} {K : List Sh} {x1 : Int32} {M : Mem} {r : Int32} (hL : nq_atModel E K) (hX : nq_OK X E l (nq_rm 2) cX9_isWork 2 RX9 wsX9_isWork) (hr : nq_RT X E (some .boolean) (some (.int r)) K M) (h : fX9_isWork x1 M = some r) : nq_G X E 2 0 [(0, .ref (nq_ad E 0)), (1, .int x1)] [] K M := by
  unfold fX9_isWork at h
  refine nq_iload_n hX rfl 1 rfl dX9_isWork_0 ?_
  refine nq_i2l hX dX9_isWork_1 ?_
  refine nq_lconst hX (v := 0) (by decide) dX9_isWork_2 ?_
  refine nq_aload_n hX rfl 0 rfl dX9_isWork_3 ?_
  refine nq_getr (v := .ref (nq_ad E 1)) hX inX9_isWork_9 (nq_Model_0 hL) rfl 0 (by decide) lkX9_isWork_7 _ rfl rfl dX9_isWork_4 ?_
  refine nq_iconst hX (v := 3) (by decide) dX9_isWork_7 ?_
  obtain ⟨v1, e1, hi1, h⟩ := nq_agE h
  refine nq_iald hX (nq_Model_d hL) e1 hi1 dX9_isWork_8 ?_
  refine nq_iconst hX (v := 1) (by decide) dX9_isWork_9 ?_
  refine nq_isub hX dX9_isWork_10 ?_
  refine nq_i2l hX dX9_isWork_11 ?_
  obtain ⟨v3, hc2, h⟩ := nq_bE h
  refine nq_callSi hX (tX9_in  hc2) gX9_isWork_X9_in rfl rfl dsX9_in (by decide) rfl (Nat.le_of_ble_eq_true rfl) dX9_isWork_12 ?_
  obtain ⟨hn4, h⟩ := nq_nzE h
  obtain rfl := nq_sE1 h; exact nq_zret hX hr hn4 dX9_isWork_15
theorem dsX9_isWork : yX9_isWork.cls ≠ "java/lang/invoke/MethodHandle" ∧ yX9_isWork.cls ≠ "java/lang/invoke/VarHandle" ∧ (parseMethodDescriptor yX9_isWork.desc).map (fun d => d.parameters.length) = some 1 := by decide +kernel
theorem tX9_isWork {l : Launch} {E : Ev} {K : List Sh} {x1 : Int32} {M : Mem} {r : Int32} (hL : nq_atModel E K) (h : fX9_isWork x1 M = some r) : nq_MA l E yX9_isWork wsX9_isWork (nq_rm 2) [.ref (nq_ad E 0), .int x1] K M (some (.int r)) K M :=
  nq_met (own := RX9) (cc := cX9_isWork) (maxL := 2) (ret := (some .boolean)) (by decide) rfl rfl (Nat.le_of_ble_eq_true rfl) (fun X hX hr => mX9_isWork hL hX hr h)

theorem mmX9_work_c280 : Cond.constantLong RX9 280 (999) ∈ wsX9_work := by decide +kernel
theorem inX9_work_9 : ∀ w ∈ u_ws RX9 TX9 23, w ∈ wsX9_work := by
  intro w h; unfold wsX9_work; simp only [List.mem_cons, List.mem_append]; simp only [h, true_or, or_true]
theorem lkX9_work_7 : Cond.fieldLink RX9 7 (TX9 0).1 (TX9 0).2.1 (TX9 0).2.2.1 ∈ wsX9_work := by decide +kernel
def fX9_work (x1 : Int32) (x2 : Int32) (M : Mem) : Option (Int32 × Mem) :=
  (fX9_in x1.toInt64 (0 : Int64) (999 : Int64) M).bind fun v2 =>
  if v2 = 0 then
  (nq_b2 (fX9_finds (1 : Int32) M) fun v5 M6 =>
  some (v5, M6))
  else
  ((fX9_in x2.toInt64 (0 : Int64) (999 : Int64) M).bind fun v8 =>
  if v8 = 0 then
  (nq_b2 (fX9_finds (1 : Int32) M) fun v11 M12 =>
  some (v11, M12))
  else
  ((nq_ag (M 1) 1250 (3 : Int32)).bind fun v13 =>
  if v13 = (8 : Int32) then
  (nq_b2 (fX9_finds (4 : Int32) M) fun v16 M17 =>
  some (v16, M17))
  else
  ((nq_ag (M 1) 1250 (3 : Int32)).bind fun v18 =>
  (nq_as M 1 1250 ((110 : Int32) + ((2 : Int32) * v18)) x1).bind fun M19 =>
  (nq_ag (M19 1) 1250 (3 : Int32)).bind fun v20 =>
  (nq_as M19 1 1250 (((110 : Int32) + ((2 : Int32) * v20)) + (1 : Int32)) x2).bind fun M21 =>
  (nq_ag (M21 1) 1250 (3 : Int32)).bind fun v22 =>
  (nq_as M21 1 1250 (3 : Int32) (v22 + (1 : Int32))).bind fun M23 =>
  (nq_ag (M23 1) 1250 (3 : Int32)).bind fun v24 =>
  some ((v24 - (1 : Int32)), M23))))
set_option maxHeartbeats 4000000 in
theorem mX9_work {X : Cx} {E : Ev} {l : Launch} {K : List Sh} {x1 : Int32} {x2 : Int32} {M : Mem} {r : Int32} {M' : Mem} (hL : nq_atModel E K) (hX : nq_OK X E l (nq_rm 2) cX9_work 3 RX9 wsX9_work) (hr : nq_RT X E (some .int) (some (.int r)) K M') (h : fX9_work x1 x2 M = some (r, M')) : nq_G X E 3 0 [(0, .ref (nq_ad E 0)), (1, .int x1), (2, .int x2)] [] K M := by
  unfold fX9_work at h
  refine nq_iload_n hX rfl 1 rfl dX9_work_0 ?_
  refine nq_i2l hX dX9_work_1 ?_
  refine nq_lconst hX (v := 0) (by decide) dX9_work_2 ?_
  refine nq_ldc2 hX (v := 999) mmX9_work_c280 dX9_work_3 ?_
  obtain ⟨v2, hc1, h⟩ := nq_bE h
  refine nq_callSi hX (tX9_in  hc1) gX9_work_X9_in rfl rfl dsX9_in (by decide) rfl (Nat.le_of_ble_eq_true rfl) dX9_work_6 ?_
  refine nq_if_eq hX (tgt := 24) (by decide) dX9_work_9 (fun c3 => ?_) (fun c3 => ?_)
  · rw [if_pos c3] at h
    refine nq_aload_n hX rfl 0 rfl dX9_work_24 ?_
    refine nq_iconst hX (v := 1) (by decide) dX9_work_25 ?_
    obtain ⟨v5, M6, hc4, h⟩ := nq_b2E h
    refine nq_callVi hX (tX9_finds hL hc4) gX9_work_X9_finds rfl rfl dsX9_finds (by decide) (nq_Model_0 hL) rfl rfl (Nat.le_of_ble_eq_true rfl) dX9_work_26 ?_
    obtain ⟨rfl, rfl⟩ := nq_sE2 h; exact nq_iret hX hr dX9_work_29
  · rw [if_neg c3] at h
    refine nq_iload_n hX rfl 2 rfl dX9_work_12 ?_
    refine nq_i2l hX dX9_work_13 ?_
    refine nq_lconst hX (v := 0) (by decide) dX9_work_14 ?_
    refine nq_ldc2 hX (v := 999) mmX9_work_c280 dX9_work_15 ?_
    obtain ⟨v8, hc7, h⟩ := nq_bE h
    refine nq_callSi hX (tX9_in  hc7) gX9_work_X9_in rfl rfl dsX9_in (by decide) rfl (Nat.le_of_ble_eq_true rfl) dX9_work_18 ?_
    refine nq_if_ne hX (tgt := 30) (by decide) dX9_work_21 (fun c9 => ?_) (fun c9 => ?_)
    · rw [if_pos c9] at h
      refine nq_aload_n hX rfl 0 rfl dX9_work_24 ?_
      refine nq_iconst hX (v := 1) (by decide) dX9_work_25 ?_
      obtain ⟨v11, M12, hc10, h⟩ := nq_b2E h
      refine nq_callVi hX (tX9_finds hL hc10) gX9_work_X9_finds rfl rfl dsX9_finds (by decide) (nq_Model_0 hL) rfl rfl (Nat.le_of_ble_eq_true rfl) dX9_work_26 ?_
      obtain ⟨rfl, rfl⟩ := nq_sE2 h; exact nq_iret hX hr dX9_work_29
    · rw [if_neg c9] at h
      refine nq_aload_n hX rfl 0 rfl dX9_work_30 ?_
      refine nq_getr (v := .ref (nq_ad E 1)) hX inX9_work_9 (nq_Model_0 hL) rfl 0 (by decide) lkX9_work_7 _ rfl rfl dX9_work_31 ?_
      refine nq_iconst hX (v := 3) (by decide) dX9_work_34 ?_
      obtain ⟨v13, e13, hi13, h⟩ := nq_agE h
      refine nq_iald hX (nq_Model_d hL) e13 hi13 dX9_work_35 ?_
      refine nq_bipush hX (v := 8) (by decide) dX9_work_36 ?_
      refine nq_icmp_ne hX (tgt := 47) (by decide) dX9_work_38 (fun c14 => ?_) (fun c14 => ?_)
      · rw [if_pos c14] at h
        refine nq_aload_n hX rfl 0 rfl dX9_work_41 ?_
        refine nq_iconst hX (v := 4) (by decide) dX9_work_42 ?_
        obtain ⟨v16, M17, hc15, h⟩ := nq_b2E h
        refine nq_callVi hX (tX9_finds hL hc15) gX9_work_X9_finds rfl rfl dsX9_finds (by decide) (nq_Model_0 hL) rfl rfl (Nat.le_of_ble_eq_true rfl) dX9_work_43 ?_
        obtain ⟨rfl, rfl⟩ := nq_sE2 h; exact nq_iret hX hr dX9_work_46
      · rw [if_neg c14] at h
        refine nq_aload_n hX rfl 0 rfl dX9_work_47 ?_
        refine nq_getr (v := .ref (nq_ad E 1)) hX inX9_work_9 (nq_Model_0 hL) rfl 0 (by decide) lkX9_work_7 _ rfl rfl dX9_work_48 ?_
        refine nq_bipush hX (v := 110) (by decide) dX9_work_51 ?_
        refine nq_iconst hX (v := 2) (by decide) dX9_work_53 ?_
        refine nq_aload_n hX rfl 0 rfl dX9_work_54 ?_
        refine nq_getr (v := .ref (nq_ad E 1)) hX inX9_work_9 (nq_Model_0 hL) rfl 0 (by decide) lkX9_work_7 _ rfl rfl dX9_work_55 ?_
        refine nq_iconst hX (v := 3) (by decide) dX9_work_58 ?_
        obtain ⟨v18, e18, hi18, h⟩ := nq_agE h
        refine nq_iald hX (nq_Model_d hL) e18 hi18 dX9_work_59 ?_
        refine nq_imul hX dX9_work_60 ?_
        refine nq_iadd hX dX9_work_61 ?_
        refine nq_iload_n hX rfl 1 rfl dX9_work_62 ?_
        obtain ⟨M19, e19, hi19, h⟩ := nq_asE h
        refine nq_iast hX (nq_Model_d hL) e19 hi19 dX9_work_63 ?_
        refine nq_aload_n hX rfl 0 rfl dX9_work_64 ?_
        refine nq_getr (v := .ref (nq_ad E 1)) hX inX9_work_9 (nq_Model_0 hL) rfl 0 (by decide) lkX9_work_7 _ rfl rfl dX9_work_65 ?_
        refine nq_bipush hX (v := 110) (by decide) dX9_work_68 ?_
        refine nq_iconst hX (v := 2) (by decide) dX9_work_70 ?_
        refine nq_aload_n hX rfl 0 rfl dX9_work_71 ?_
        refine nq_getr (v := .ref (nq_ad E 1)) hX inX9_work_9 (nq_Model_0 hL) rfl 0 (by decide) lkX9_work_7 _ rfl rfl dX9_work_72 ?_
        refine nq_iconst hX (v := 3) (by decide) dX9_work_75 ?_
        obtain ⟨v20, e20, hi20, h⟩ := nq_agE h
        refine nq_iald hX (nq_Model_d hL) e20 hi20 dX9_work_76 ?_
        refine nq_imul hX dX9_work_77 ?_
        refine nq_iadd hX dX9_work_78 ?_
        refine nq_iconst hX (v := 1) (by decide) dX9_work_79 ?_
        refine nq_iadd hX dX9_work_80 ?_
        refine nq_iload_n hX rfl 2 rfl dX9_work_81 ?_
        obtain ⟨M21, e21, hi21, h⟩ := nq_asE h
        refine nq_iast hX (nq_Model_d hL) e21 hi21 dX9_work_82 ?_
        refine nq_aload_n hX rfl 0 rfl dX9_work_83 ?_
        refine nq_getr (v := .ref (nq_ad E 1)) hX inX9_work_9 (nq_Model_0 hL) rfl 0 (by decide) lkX9_work_7 _ rfl rfl dX9_work_84 ?_
        refine nq_iconst hX (v := 3) (by decide) dX9_work_87 ?_
        refine nq_dup2 hX rfl rfl dX9_work_88 ?_
        obtain ⟨v22, e22, hi22, h⟩ := nq_agE h
        refine nq_iald hX (nq_Model_d hL) e22 hi22 dX9_work_89 ?_
        refine nq_iconst hX (v := 1) (by decide) dX9_work_90 ?_
        refine nq_iadd hX dX9_work_91 ?_
        obtain ⟨M23, e23, hi23, h⟩ := nq_asE h
        refine nq_iast hX (nq_Model_d hL) e23 hi23 dX9_work_92 ?_
        refine nq_aload_n hX rfl 0 rfl dX9_work_93 ?_
        refine nq_getr (v := .ref (nq_ad E 1)) hX inX9_work_9 (nq_Model_0 hL) rfl 0 (by decide) lkX9_work_7 _ rfl rfl dX9_work_94 ?_
        refine nq_iconst hX (v := 3) (by decide) dX9_work_97 ?_
        obtain ⟨v24, e24, hi24, h⟩ := nq_agE h
        refine nq_iald hX (nq_Model_d hL) e24 hi24 dX9_work_98 ?_
        refine nq_iconst hX (v := 1) (by decide) dX9_work_99 ?_
        refine nq_isub hX dX9_work_100 ?_
        obtain ⟨rfl, rfl⟩ := nq_sE2 h; exact nq_iret hX hr dX9_work_101
theorem dsX9_work : yX9_work.cls ≠ "java/lang/invoke/MethodHandle" ∧ yX9_work.cls ≠ "java/lang/invoke/VarHandle" ∧ (parseMethodDescriptor yX9_work.desc).map (fun d => d.parameters.length) = some 2 := by decide +kernel
theorem tX9_work {l : Launch} {E : Ev} {K : List Sh} {x1 : Int32} {x2 : Int32} {M : Mem} {r : Int32} {M' : Mem} (hL : nq_atModel E K) (h : fX9_work x1 x2 M = some (r, M')) : nq_MA l E yX9_work wsX9_work (nq_rm 2) [.ref (nq_ad E 0), .int x1, .int x2] K M (some (.int r)) K M' :=
  nq_met (own := RX9) (cc := cX9_work) (maxL := 3) (ret := (some .int)) (by decide) rfl rfl (Nat.le_of_ble_eq_true rfl) (fun X hX hr => mX9_work hL hX hr h)

theorem inX9_isBlind_9 : ∀ w ∈ u_ws RX9 TX9 23, w ∈ wsX9_isBlind := by
  intro w h; unfold wsX9_isBlind; simp only [List.mem_cons, List.mem_append]; simp only [h, true_or, or_true]
theorem lkX9_isBlind_7 : Cond.fieldLink RX9 7 (TX9 0).1 (TX9 0).2.1 (TX9 0).2.2.1 ∈ wsX9_isBlind := by decide +kernel
def fX9_isBlind (x1 : Int32) (x2 : Int32) (x3 : Int32) (M : Mem) : Option (Int32) :=
  (nq_ag (M 1) 1250 (((110 : Int32) + ((2 : Int32) * x1)) + (1 : Int32))).bind fun v1 =>
  (nq_ag (M 1) 1250 ((110 : Int32) + ((2 : Int32) * x1))).bind fun v2 =>
  if (v1 * x2) ≤ (v2 * x3) then
  (some (0 : Int32))
  else
  (some (1 : Int32))
set_option maxHeartbeats 4000000 in
theorem mX9_isBlind {X : Cx} {E : Ev} {l : Launch} {K : List Sh} {x1 : Int32} {x2 : Int32} {x3 : Int32} {M : Mem} {r : Int32} (hL : nq_atModel E K) (hX : nq_OK X E l (nq_rm 1) cX9_isBlind 4 RX9 wsX9_isBlind) (hr : nq_RT X E (some .boolean) (some (.int r)) K M) (h : fX9_isBlind x1 x2 x3 M = some r) : nq_G X E 4 0 [(0, .ref (nq_ad E 0)), (1, .int x1), (2, .int x2), (3, .int x3)] [] K M := by
  unfold fX9_isBlind at h
  refine nq_aload_n hX rfl 0 rfl dX9_isBlind_0 ?_
  refine nq_getr (v := .ref (nq_ad E 1)) hX inX9_isBlind_9 (nq_Model_0 hL) rfl 0 (by decide) lkX9_isBlind_7 _ rfl rfl dX9_isBlind_1 ?_
  refine nq_bipush hX (v := 110) (by decide) dX9_isBlind_4 ?_
  refine nq_iconst hX (v := 2) (by decide) dX9_isBlind_6 ?_
  refine nq_iload_n hX rfl 1 rfl dX9_isBlind_7 ?_
  refine nq_imul hX dX9_isBlind_8 ?_
  refine nq_iadd hX dX9_isBlind_9 ?_
  refine nq_iconst hX (v := 1) (by decide) dX9_isBlind_10 ?_
  refine nq_iadd hX dX9_isBlind_11 ?_
  obtain ⟨v1, e1, hi1, h⟩ := nq_agE h
  refine nq_iald hX (nq_Model_d hL) e1 hi1 dX9_isBlind_12 ?_
  refine nq_iload_n hX rfl 2 rfl dX9_isBlind_13 ?_
  refine nq_imul hX dX9_isBlind_14 ?_
  refine nq_aload_n hX rfl 0 rfl dX9_isBlind_15 ?_
  refine nq_getr (v := .ref (nq_ad E 1)) hX inX9_isBlind_9 (nq_Model_0 hL) rfl 0 (by decide) lkX9_isBlind_7 _ rfl rfl dX9_isBlind_16 ?_
  refine nq_bipush hX (v := 110) (by decide) dX9_isBlind_19 ?_
  refine nq_iconst hX (v := 2) (by decide) dX9_isBlind_21 ?_
  refine nq_iload_n hX rfl 1 rfl dX9_isBlind_22 ?_
  refine nq_imul hX dX9_isBlind_23 ?_
  refine nq_iadd hX dX9_isBlind_24 ?_
  obtain ⟨v2, e2, hi2, h⟩ := nq_agE h
  refine nq_iald hX (nq_Model_d hL) e2 hi2 dX9_isBlind_25 ?_
  refine nq_iload_n hX rfl 3 rfl dX9_isBlind_26 ?_
  refine nq_imul hX dX9_isBlind_27 ?_
  refine nq_icmp_le hX (tgt := 35) (by decide) dX9_isBlind_28 (fun c3 => ?_) (fun c3 => ?_)
  · rw [if_pos c3] at h
    refine nq_iconst hX (v := 0) (by decide) dX9_isBlind_35 ?_
    obtain rfl := nq_sE1 h; exact nq_zret hX hr rfl dX9_isBlind_36
  · rw [if_neg c3] at h
    refine nq_iconst hX (v := 1) (by decide) dX9_isBlind_31 ?_
    refine nq_goto hX (tgt := 36) (by decide) dX9_isBlind_32 ?_
    obtain rfl := nq_sE1 h; exact nq_zret hX hr rfl dX9_isBlind_36
theorem dsX9_isBlind : yX9_isBlind.cls ≠ "java/lang/invoke/MethodHandle" ∧ yX9_isBlind.cls ≠ "java/lang/invoke/VarHandle" ∧ (parseMethodDescriptor yX9_isBlind.desc).map (fun d => d.parameters.length) = some 3 := by decide +kernel
theorem tX9_isBlind {l : Launch} {E : Ev} {K : List Sh} {x1 : Int32} {x2 : Int32} {x3 : Int32} {M : Mem} {r : Int32} (hL : nq_atModel E K) (h : fX9_isBlind x1 x2 x3 M = some r) : nq_MA l E yX9_isBlind wsX9_isBlind (nq_rm 1) [.ref (nq_ad E 0), .int x1, .int x2, .int x3] K M (some (.int r)) K M :=
  nq_met (own := RX9) (cc := cX9_isBlind) (maxL := 4) (ret := (some .boolean)) (by decide) rfl rfl (Nat.le_of_ble_eq_true rfl) (fun X hX hr => mX9_isBlind hL hX hr h)

def fX9_blind (x1 : Int32) (x2 : Int32) (M : Mem) : Option (Int32 × Mem) :=
  (fX9_isWork x1 M).bind fun v2 =>
  if v2 = 0 then
  (nq_b2 (fX9_finds (1 : Int32) M) fun v5 M6 =>
  some (v5, M6))
  else
  ((fX9_isPart x2 M).bind fun v8 =>
  if v8 = 0 then
  (nq_b2 (fX9_finds (1 : Int32) M) fun v11 M12 =>
  some (v11, M12))
  else
  ((nq_dv x2 (10 : Int32)).bind fun v13 =>
  (nq_rem x2 (10 : Int32)).bind fun v14 =>
  (fX9_isBlind x1 v13 v14 M).bind fun v16 =>
  if v16 = 0 then
  (some ((0 : Int32), M))
  else
  (some ((1 : Int32), M))))
set_option maxHeartbeats 4000000 in
theorem mX9_blind {X : Cx} {E : Ev} {l : Launch} {K : List Sh} {x1 : Int32} {x2 : Int32} {M : Mem} {r : Int32} {M' : Mem} (hL : nq_atModel E K) (hX : nq_OK X E l (nq_rm 3) cX9_blind 3 RX9 wsX9_blind) (hr : nq_RT X E (some .int) (some (.int r)) K M') (h : fX9_blind x1 x2 M = some (r, M')) : nq_G X E 3 0 [(0, .ref (nq_ad E 0)), (1, .int x1), (2, .int x2)] [] K M := by
  unfold fX9_blind at h
  refine nq_aload_n hX rfl 0 rfl dX9_blind_0 ?_
  refine nq_iload_n hX rfl 1 rfl dX9_blind_1 ?_
  obtain ⟨v2, hc1, h⟩ := nq_bE h
  refine nq_callVi hX (tX9_isWork hL hc1) gX9_blind_X9_isWork rfl rfl dsX9_isWork (by decide) (nq_Model_0 hL) rfl rfl (Nat.le_of_ble_eq_true rfl) dX9_blind_2 ?_
  refine nq_if_eq hX (tgt := 15) (by decide) dX9_blind_5 (fun c3 => ?_) (fun c3 => ?_)
  · rw [if_pos c3] at h
    refine nq_aload_n hX rfl 0 rfl dX9_blind_15 ?_
    refine nq_iconst hX (v := 1) (by decide) dX9_blind_16 ?_
    obtain ⟨v5, M6, hc4, h⟩ := nq_b2E h
    refine nq_callVi hX (tX9_finds hL hc4) gX9_blind_X9_finds rfl rfl dsX9_finds (by decide) (nq_Model_0 hL) rfl rfl (Nat.le_of_ble_eq_true rfl) dX9_blind_17 ?_
    obtain ⟨rfl, rfl⟩ := nq_sE2 h; exact nq_iret hX hr dX9_blind_20
  · rw [if_neg c3] at h
    refine nq_iload_n hX rfl 2 rfl dX9_blind_8 ?_
    obtain ⟨v8, hc7, h⟩ := nq_bE h
    refine nq_callSi hX (tX9_isPart  hc7) gX9_blind_X9_isPart rfl rfl dsX9_isPart (by decide) rfl (Nat.le_of_ble_eq_true rfl) dX9_blind_9 ?_
    refine nq_if_ne hX (tgt := 21) (by decide) dX9_blind_12 (fun c9 => ?_) (fun c9 => ?_)
    · rw [if_pos c9] at h
      refine nq_aload_n hX rfl 0 rfl dX9_blind_15 ?_
      refine nq_iconst hX (v := 1) (by decide) dX9_blind_16 ?_
      obtain ⟨v11, M12, hc10, h⟩ := nq_b2E h
      refine nq_callVi hX (tX9_finds hL hc10) gX9_blind_X9_finds rfl rfl dsX9_finds (by decide) (nq_Model_0 hL) rfl rfl (Nat.le_of_ble_eq_true rfl) dX9_blind_17 ?_
      obtain ⟨rfl, rfl⟩ := nq_sE2 h; exact nq_iret hX hr dX9_blind_20
    · rw [if_neg c9] at h
      refine nq_aload_n hX rfl 0 rfl dX9_blind_21 ?_
      refine nq_iload_n hX rfl 1 rfl dX9_blind_22 ?_
      refine nq_iload_n hX rfl 2 rfl dX9_blind_23 ?_
      refine nq_bipush hX (v := 10) (by decide) dX9_blind_24 ?_
      obtain ⟨v13, e13, hn13, h⟩ := nq_ifE h
      refine nq_idiv hX hn13 e13 dX9_blind_26 ?_
      refine nq_iload_n hX rfl 2 rfl dX9_blind_27 ?_
      refine nq_bipush hX (v := 10) (by decide) dX9_blind_28 ?_
      obtain ⟨v14, e14, hn14, h⟩ := nq_ifE h
      refine nq_irem hX hn14 e14 dX9_blind_30 ?_
      obtain ⟨v16, hc15, h⟩ := nq_bE h
      refine nq_callVi hX (tX9_isBlind hL hc15) gX9_blind_X9_isBlind rfl rfl dsX9_isBlind (by decide) (nq_Model_0 hL) rfl rfl (Nat.le_of_ble_eq_true rfl) dX9_blind_31 ?_
      refine nq_if_eq hX (tgt := 41) (by decide) dX9_blind_34 (fun c17 => ?_) (fun c17 => ?_)
      · rw [if_pos c17] at h
        refine nq_iconst hX (v := 0) (by decide) dX9_blind_41 ?_
        obtain ⟨rfl, rfl⟩ := nq_sE2 h; exact nq_iret hX hr dX9_blind_42
      · rw [if_neg c17] at h
        refine nq_iconst hX (v := 1) (by decide) dX9_blind_37 ?_
        refine nq_goto hX (tgt := 42) (by decide) dX9_blind_38 ?_
        obtain ⟨rfl, rfl⟩ := nq_sE2 h; exact nq_iret hX hr dX9_blind_42
theorem dsX9_blind : yX9_blind.cls ≠ "java/lang/invoke/MethodHandle" ∧ yX9_blind.cls ≠ "java/lang/invoke/VarHandle" ∧ (parseMethodDescriptor yX9_blind.desc).map (fun d => d.parameters.length) = some 2 := by decide +kernel
theorem tX9_blind {l : Launch} {E : Ev} {K : List Sh} {x1 : Int32} {x2 : Int32} {M : Mem} {r : Int32} {M' : Mem} (hL : nq_atModel E K) (h : fX9_blind x1 x2 M = some (r, M')) : nq_MA l E yX9_blind wsX9_blind (nq_rm 3) [.ref (nq_ad E 0), .int x1, .int x2] K M (some (.int r)) K M' :=
  nq_met (own := RX9) (cc := cX9_blind) (maxL := 3) (ret := (some .int)) (by decide) rfl rfl (Nat.le_of_ble_eq_true rfl) (fun X hX hr => mX9_blind hL hX hr h)

theorem mmX9_edge_c93 : Cond.constantLong RX9 93 (9) ∈ wsX9_edge := by decide +kernel
def fX9_edge_B28 (x1 : Int32) (x2 : Int32) (x3 : Int32) (M : Mem) : Option ((Int32) ⊕ ((Unit) ⊕ (Int32 × Mem))) :=
  if x2 < x3 then
  (some (.inr (.inl ())))
  else
  ((fX9_isBlind x1 x3 x2 M).bind fun v15 =>
  if v15 = 0 then
  (nq_lt (x3 + (1 : Int32)) fun v17 =>
  some (.inl v17))
  else
  (some (.inr (.inr (x3, M)))))
set_option maxHeartbeats 4000000 in
theorem mX9_edge_B28 {X : Cx} {E : Ev} {l : Launch} {K : List Sh} {x1 : Int32} {x2 : Int32} {x3 : Int32} {M : Mem} (hL : nq_atModel E K) (hX : nq_OK X E l (nq_rm 3) cX9_edge 4 RX9 wsX9_edge) {x : (Int32) ⊕ ((Unit) ⊕ (Int32 × Mem))} (hc : ∀ s' : Int32, x = .inl s' → nq_G X E 4 28 [(0, .ref (nq_ad E 0)), (1, .int x1), (2, .int x2), (3, .int s')] [] K M) (he : ∀ s' : Unit, x = .inr (.inl s') → nq_G X E 4 51 [(0, .ref (nq_ad E 0))] [] K M) (hret : ∀ r : Int32 × Mem, x = .inr (.inr r) → nq_RT X E (some .int) (some (.int r.1)) K r.2) (h : fX9_edge_B28 x1 x2 x3 M = some x) : nq_G X E 4 28 [(0, .ref (nq_ad E 0)), (1, .int x1), (2, .int x2), (3, .int x3)] [] K M := by
  unfold fX9_edge_B28 at h
  refine nq_iload_n hX rfl 3 rfl dX9_edge_28 ?_
  refine nq_iload_n hX rfl 2 rfl dX9_edge_29 ?_
  refine nq_icmp_gt hX (tgt := 51) (by decide) dX9_edge_30 (fun c13 => ?_) (fun c13 => ?_)
  · rw [if_pos c13] at h
    refine nq_sub (lv' := [(0, .ref (nq_ad E 0))]) [0] rfl ?_
    exact he () (nq_sE h).symm
  · rw [if_neg c13] at h
    refine nq_aload_n hX rfl 0 rfl dX9_edge_33 ?_
    refine nq_iload_n hX rfl 1 rfl dX9_edge_34 ?_
    refine nq_iload_n hX rfl 3 rfl dX9_edge_35 ?_
    refine nq_iload_n hX rfl 2 rfl dX9_edge_36 ?_
    obtain ⟨v15, hc14, h⟩ := nq_bE h
    refine nq_callVi hX (tX9_isBlind hL hc14) gX9_edge_X9_isBlind rfl rfl dsX9_isBlind (by decide) (nq_Model_0 hL) rfl rfl (Nat.le_of_ble_eq_true rfl) dX9_edge_37 ?_
    refine nq_if_eq hX (tgt := 45) (by decide) dX9_edge_40 (fun c16 => ?_) (fun c16 => ?_)
    · rw [if_pos c16] at h
      obtain ⟨v17, e17, h⟩ := nq_ltE h
      refine nq_iinc hX (lv' := [(3, .int v17), (0, .ref (nq_ad E 0)), (1, .int x1), (2, .int x2)]) (j := 3) rfl (e17.trans rfl) (by decide) rfl dX9_edge_45 ?_
      refine nq_goto hX (tgt := 28) (by decide) dX9_edge_48 ?_
      refine nq_sub (lv' := [(0, .ref (nq_ad E 0)), (1, .int x1), (2, .int x2), (3, .int v17)]) [1, 2, 3, 0] rfl ?_
      exact hc v17 (nq_sE h).symm
    · rw [if_neg c16] at h
      refine nq_iload_n hX rfl 3 rfl dX9_edge_43 ?_
      exact nq_iret hX (hret (x3, M) (nq_sE h).symm) dX9_edge_44
def fX9_edge_L51 (M : Mem) : Option (Int32 × Mem) :=
  nq_b2 (fX9_finds (2 : Int32) M) fun v19 M20 =>
  some (v19, M20)
set_option maxHeartbeats 4000000 in
theorem mX9_edge_L51 {X : Cx} {E : Ev} {l : Launch} {K : List Sh} {M : Mem} {r : Int32} {M' : Mem} (hL : nq_atModel E K) (hX : nq_OK X E l (nq_rm 3) cX9_edge 4 RX9 wsX9_edge) (hr : nq_RT X E (some .int) (some (.int r)) K M') (h : fX9_edge_L51 M = some (r, M')) : nq_G X E 4 51 [(0, .ref (nq_ad E 0))] [] K M := by
  unfold fX9_edge_L51 at h
  refine nq_aload_n hX rfl 0 rfl dX9_edge_51 ?_
  refine nq_iconst hX (v := 2) (by decide) dX9_edge_52 ?_
  obtain ⟨v19, M20, hc18, h⟩ := nq_b2E h
  refine nq_callVi hX (tX9_finds hL hc18) gX9_edge_X9_finds rfl rfl dsX9_finds (by decide) (nq_Model_0 hL) rfl rfl (Nat.le_of_ble_eq_true rfl) dX9_edge_53 ?_
  obtain ⟨rfl, rfl⟩ := nq_sE2 h; exact nq_iret hX hr dX9_edge_56
def fX9_edge_L28 (x1 : Int32) (x2 : Int32) (x3 : Int32) (M : Mem) : Option (Int32 × Mem) :=
  (nq_lp (fun s : Int32 => fX9_edge_B28 x1 x2 s M) nq_fuel x3).bind (Sum.elim (fun e => fX9_edge_L51 M) (fun r1 => some r1))
set_option maxHeartbeats 4000000 in
theorem mX9_edge_L28 {X : Cx} {E : Ev} {l : Launch} {K : List Sh} {x1 : Int32} {x2 : Int32} {x3 : Int32} {M : Mem} {r : Int32} {M' : Mem} (hL : nq_atModel E K) (hX : nq_OK X E l (nq_rm 3) cX9_edge 4 RX9 wsX9_edge) (hr : nq_RT X E (some .int) (some (.int r)) K M') (h : fX9_edge_L28 x1 x2 x3 M = some (r, M')) : nq_G X E 4 28 [(0, .ref (nq_ad E 0)), (1, .int x1), (2, .int x2), (3, .int x3)] [] K M := by
  unfold fX9_edge_L28 at h
  obtain ⟨e, h1, h⟩ := nq_bE h
  have key : ∀ (ex : (Unit) ⊕ (Int32 × Mem)), nq_lp (fun s : Int32 => fX9_edge_B28 x1 x2 s M) nq_fuel x3 = some ex → (∀ e, ex = .inl e → nq_G X E 4 51 [(0, .ref (nq_ad E 0))] [] K M) → (∀ r, ex = .inr r → nq_RT X E (some .int) (some (.int r.1)) K r.2) → nq_G X E 4 28 [(0, .ref (nq_ad E 0)), (1, .int x1), (2, .int x2), (3, .int x3)] [] K M := by
    intro ex h1 hE hR
    refine nq_lpE (P := fun s : Int32 => nq_G X E 4 28 [(0, .ref (nq_ad E 0)), (1, .int x1), (2, .int x2), (3, .int s)] [] K M) (r := ex) ?_ nq_fuel x3 h1
    intro s xx hx1 hc1 he1
    exact mX9_edge_B28 hL hX hc1 (fun e q => hE e (he1 _ q).symm) (fun r q => hR r (he1 _ q).symm) hx1
  refine key e h1 (fun e q => ?_) (fun r1 q => ?_)
  · subst q
    have h : fX9_edge_L51 M = some (r, M') := h
    exact mX9_edge_L51 hL hX hr h
  · subst q
    have h : some r1 = some (r, M') := h
    obtain rfl := nq_sE1 h; exact hr
def fX9_edge (x1 : Int32) (x2 : Int32) (M : Mem) : Option (Int32 × Mem) :=
  (fX9_isWork x1 M).bind fun v2 =>
  if v2 = 0 then
  (nq_b2 (fX9_finds (1 : Int32) M) fun v5 M6 =>
  some (v5, M6))
  else
  ((fX9_in x2.toInt64 (1 : Int64) (9 : Int64) M).bind fun v8 =>
  if v8 = 0 then
  (nq_b2 (fX9_finds (1 : Int32) M) fun v11 M12 =>
  some (v11, M12))
  else
  (fX9_edge_L28 x1 x2 (0 : Int32) M))
set_option maxHeartbeats 4000000 in
theorem mX9_edge {X : Cx} {E : Ev} {l : Launch} {K : List Sh} {x1 : Int32} {x2 : Int32} {M : Mem} {r : Int32} {M' : Mem} (hL : nq_atModel E K) (hX : nq_OK X E l (nq_rm 3) cX9_edge 4 RX9 wsX9_edge) (hr : nq_RT X E (some .int) (some (.int r)) K M') (h : fX9_edge x1 x2 M = some (r, M')) : nq_G X E 4 0 [(0, .ref (nq_ad E 0)), (1, .int x1), (2, .int x2)] [] K M := by
  unfold fX9_edge at h
  refine nq_aload_n hX rfl 0 rfl dX9_edge_0 ?_
  refine nq_iload_n hX rfl 1 rfl dX9_edge_1 ?_
  obtain ⟨v2, hc1, h⟩ := nq_bE h
  refine nq_callVi hX (tX9_isWork hL hc1) gX9_edge_X9_isWork rfl rfl dsX9_isWork (by decide) (nq_Model_0 hL) rfl rfl (Nat.le_of_ble_eq_true rfl) dX9_edge_2 ?_
  refine nq_if_eq hX (tgt := 20) (by decide) dX9_edge_5 (fun c3 => ?_) (fun c3 => ?_)
  · rw [if_pos c3] at h
    refine nq_aload_n hX rfl 0 rfl dX9_edge_20 ?_
    refine nq_iconst hX (v := 1) (by decide) dX9_edge_21 ?_
    obtain ⟨v5, M6, hc4, h⟩ := nq_b2E h
    refine nq_callVi hX (tX9_finds hL hc4) gX9_edge_X9_finds rfl rfl dsX9_finds (by decide) (nq_Model_0 hL) rfl rfl (Nat.le_of_ble_eq_true rfl) dX9_edge_22 ?_
    obtain ⟨rfl, rfl⟩ := nq_sE2 h; exact nq_iret hX hr dX9_edge_25
  · rw [if_neg c3] at h
    refine nq_iload_n hX rfl 2 rfl dX9_edge_8 ?_
    refine nq_i2l hX dX9_edge_9 ?_
    refine nq_lconst hX (v := 1) (by decide) dX9_edge_10 ?_
    refine nq_ldc2 hX (v := 9) mmX9_edge_c93 dX9_edge_11 ?_
    obtain ⟨v8, hc7, h⟩ := nq_bE h
    refine nq_callSi hX (tX9_in  hc7) gX9_edge_X9_in rfl rfl dsX9_in (by decide) rfl (Nat.le_of_ble_eq_true rfl) dX9_edge_14 ?_
    refine nq_if_ne hX (tgt := 26) (by decide) dX9_edge_17 (fun c9 => ?_) (fun c9 => ?_)
    · rw [if_pos c9] at h
      refine nq_aload_n hX rfl 0 rfl dX9_edge_20 ?_
      refine nq_iconst hX (v := 1) (by decide) dX9_edge_21 ?_
      obtain ⟨v11, M12, hc10, h⟩ := nq_b2E h
      refine nq_callVi hX (tX9_finds hL hc10) gX9_edge_X9_finds rfl rfl dsX9_finds (by decide) (nq_Model_0 hL) rfl rfl (Nat.le_of_ble_eq_true rfl) dX9_edge_22 ?_
      obtain ⟨rfl, rfl⟩ := nq_sE2 h; exact nq_iret hX hr dX9_edge_25
    · rw [if_neg c9] at h
      refine nq_iconst hX (v := 0) (by decide) dX9_edge_26 ?_
      refine nq_istore_n hX (lv' := [(3, .int (0 : Int32)), (0, .ref (nq_ad E 0)), (1, .int x1), (2, .int x2)]) rfl (by decide) rfl rfl dX9_edge_27 ?_
      refine nq_sub (lv' := [(0, .ref (nq_ad E 0)), (1, .int x1), (2, .int x2), (3, .int (0 : Int32))]) [1, 2, 3, 0] rfl ?_
      exact mX9_edge_L28 hL hX hr h
theorem dsX9_edge : yX9_edge.cls ≠ "java/lang/invoke/MethodHandle" ∧ yX9_edge.cls ≠ "java/lang/invoke/VarHandle" ∧ (parseMethodDescriptor yX9_edge.desc).map (fun d => d.parameters.length) = some 2 := by decide +kernel
theorem tX9_edge {l : Launch} {E : Ev} {K : List Sh} {x1 : Int32} {x2 : Int32} {M : Mem} {r : Int32} {M' : Mem} (hL : nq_atModel E K) (h : fX9_edge x1 x2 M = some (r, M')) : nq_MA l E yX9_edge wsX9_edge (nq_rm 3) [.ref (nq_ad E 0), .int x1, .int x2] K M (some (.int r)) K M' :=
  nq_met (own := RX9) (cc := cX9_edge) (maxL := 4) (ret := (some .int)) (by decide) rfl rfl (Nat.le_of_ble_eq_true rfl) (fun X hX hr => mX9_edge hL hX hr h)

