/-! printed by dec.py: Model 4 -/
theorem dsX9_either : yX9_either.cls ≠ "java/lang/invoke/MethodHandle" ∧ yX9_either.cls ≠ "java/lang/invoke/VarHandle" ∧ (parseMethodDescriptor yX9_either.desc).map (fun d => d.parameters.length) = some 0 := by decide +kernel
theorem dsX9_both : yX9_both.cls ≠ "java/lang/invoke/MethodHandle" ∧ yX9_both.cls ≠ "java/lang/invoke/VarHandle" ∧ (parseMethodDescriptor yX9_both.desc).map (fun d => d.parameters.length) = some 0 := by decide +kernel
theorem dsX9_compared : yX9_compared.cls ≠ "java/lang/invoke/MethodHandle" ∧ yX9_compared.cls ≠ "java/lang/invoke/VarHandle" ∧ (parseMethodDescriptor yX9_compared.desc).map (fun d => d.parameters.length) = some 0 := by decide +kernel
theorem dsX9_sum : yX9_sum.cls ≠ "java/lang/invoke/MethodHandle" ∧ yX9_sum.cls ≠ "java/lang/invoke/VarHandle" ∧ (parseMethodDescriptor yX9_sum.desc).map (fun d => d.parameters.length) = some 0 := by decide +kernel
theorem dsX9_product : yX9_product.cls ≠ "java/lang/invoke/MethodHandle" ∧ yX9_product.cls ≠ "java/lang/invoke/VarHandle" ∧ (parseMethodDescriptor yX9_product.desc).map (fun d => d.parameters.length) = some 0 := by decide +kernel
theorem dsX9_unit : yX9_unit.cls ≠ "java/lang/invoke/MethodHandle" ∧ yX9_unit.cls ≠ "java/lang/invoke/VarHandle" ∧ (parseMethodDescriptor yX9_unit.desc).map (fun d => d.parameters.length) = some 0 := by decide +kernel
def fX9_either_B5 (g_both : Mem → Option (Int32 × Mem)) (x1 : Int32) (M : Mem) : Option ((Int32 × Mem) ⊕ (Int32 × Mem)) :=
  nq_b2 (fX9_takes (124 : Int32) M) fun v5 M6 =>
  if v5 = 0 then
  (some (.inr (x1, M6)))
  else
  (nq_b2 (g_both  M6) fun v9 M10 =>
  if x1 = 0 then
  (if v9 = 0 then
  (some (.inl ((0 : Int32), M10)))
  else
  (some (.inl ((1 : Int32), M10))))
  else
  (some (.inl ((1 : Int32), M10))))
set_option maxHeartbeats 4000000 in
theorem mX9_either_B5 {X : Cx} {E : Ev} {l : Launch} {K : List Sh} {n : Nat} {g_both : Mem → Option (Int32 × Mem)} {x1 : Int32} {M : Mem} (hL : nq_atModel E K) (h_both : ∀ {M : Mem} {r : Int32} {M' : Mem} (hL : nq_atModel E K), g_both M = some (r, M') → nq_MA l E yX9_both wsX9_both (nq_rm n) [.ref (nq_ad E 0)] K M (some (.int r)) K M') (hn : 2 ≤ n) (hX : nq_OK X E l (nq_rm (n + 1)) cX9_either 3 RX9 wsX9_either) {x : (Int32 × Mem) ⊕ (Int32 × Mem)} (hc : ∀ s' : Int32 × Mem, x = .inl s' → nq_G X E 3 5 [(0, .ref (nq_ad E 0)), (1, .int s'.1)] [] K s'.2) (he : ∀ s' : Int32 × Mem, x = .inr s' → nq_G X E 3 36 [(1, .int s'.1)] [] K s'.2) (h : fX9_either_B5 g_both x1 M = some x) : nq_G X E 3 5 [(0, .ref (nq_ad E 0)), (1, .int x1)] [] K M := by
  unfold fX9_either_B5 at h
  refine nq_aload_n hX rfl 0 rfl dX9_either_5 ?_
  refine nq_bipush hX (v := 124) (by decide) dX9_either_6 ?_
  obtain ⟨v5, M6, hc4, h⟩ := nq_b2E h
  refine nq_callVi hX (tX9_takes hL hc4) gX9_either_X9_takes rfl rfl dsX9_takes (nq_room (by decide) (by omega)) (nq_Model_0 hL) rfl rfl (Nat.le_of_ble_eq_true rfl) dX9_either_8 ?_
  refine nq_if_eq hX (tgt := 36) (by decide) dX9_either_11 (fun c7 => ?_) (fun c7 => ?_)
  · rw [if_pos c7] at h
    refine nq_sub (lv' := [(1, .int x1)]) [1] rfl ?_
    exact he (x1, M6) (nq_sE h).symm
  · rw [if_neg c7] at h
    refine nq_aload_n hX rfl 0 rfl dX9_either_14 ?_
    obtain ⟨v9, M10, hc8, h⟩ := nq_b2E h
    refine nq_callVi hX (h_both hL hc8) gX9_either_X9_both rfl rfl dsX9_both (nq_room (by decide) (by omega)) (nq_Model_0 hL) rfl rfl (Nat.le_of_ble_eq_true rfl) dX9_either_15 ?_
    refine nq_istore_n hX (lv' := [(2, .int v9), (0, .ref (nq_ad E 0)), (1, .int x1)]) rfl (by decide) rfl rfl dX9_either_18 ?_
    refine nq_iload_n hX rfl 2 rfl dX9_either_19 ?_
    refine nq_if_ne hX (tgt := 27) (by decide) dX9_either_20 (fun c11 => ?_) (fun c11 => ?_)
    · rw [if_pos c11] at h
      refine nq_iload_n hX rfl 0 rfl dX9_either_23 ?_
      refine nq_if_eq hX (tgt := 31) (by decide) dX9_either_24 (fun c12 => ?_) (fun c12 => ?_)
      · rw [if_pos c12] at h
        refine nq_iconst hX (v := 0) (by decide) dX9_either_31 ?_
        refine nq_istore_n hX (lv' := [(1, .int (0 : Int32)), (2, .int v9), (0, .ref (nq_ad E 0))]) rfl (by decide) rfl rfl dX9_either_32 ?_
        refine nq_goto hX (tgt := 5) (by decide) dX9_either_33 ?_
        refine nq_sub (lv' := [(0, .ref (nq_ad E 0)), (1, .int (0 : Int32))]) [2, 0] rfl ?_
        exact hc ((0 : Int32), M10) (nq_sE h).symm
      · rw [if_neg c12] at h
        refine nq_iconst hX (v := 1) (by decide) dX9_either_27 ?_
        refine nq_goto hX (tgt := 32) (by decide) dX9_either_28 ?_
        refine nq_istore_n hX (lv' := [(1, .int (1 : Int32)), (2, .int v9), (0, .ref (nq_ad E 0))]) rfl (by decide) rfl rfl dX9_either_32 ?_
        refine nq_goto hX (tgt := 5) (by decide) dX9_either_33 ?_
        refine nq_sub (lv' := [(0, .ref (nq_ad E 0)), (1, .int (1 : Int32))]) [2, 0] rfl ?_
        exact hc ((1 : Int32), M10) (nq_sE h).symm
    · rw [if_neg c11] at h
      refine nq_iconst hX (v := 1) (by decide) dX9_either_27 ?_
      refine nq_goto hX (tgt := 32) (by decide) dX9_either_28 ?_
      refine nq_istore_n hX (lv' := [(1, .int (1 : Int32)), (2, .int v9), (0, .ref (nq_ad E 0))]) rfl (by decide) rfl rfl dX9_either_32 ?_
      refine nq_goto hX (tgt := 5) (by decide) dX9_either_33 ?_
      refine nq_sub (lv' := [(0, .ref (nq_ad E 0)), (1, .int (1 : Int32))]) [2, 0] rfl ?_
      exact hc ((1 : Int32), M10) (nq_sE h).symm
def fX9_either_L36 (g_both : Mem → Option (Int32 × Mem)) (x1 : Int32) (M : Mem) : Option (Int32 × Mem) :=
  some (x1, M)
set_option maxHeartbeats 4000000 in
theorem mX9_either_L36 {X : Cx} {E : Ev} {l : Launch} {K : List Sh} {n : Nat} {g_both : Mem → Option (Int32 × Mem)} {x1 : Int32} {M : Mem} {r : Int32} {M' : Mem} (hL : nq_atModel E K) (h_both : ∀ {M : Mem} {r : Int32} {M' : Mem} (hL : nq_atModel E K), g_both M = some (r, M') → nq_MA l E yX9_both wsX9_both (nq_rm n) [.ref (nq_ad E 0)] K M (some (.int r)) K M') (hn : 2 ≤ n) (hX : nq_OK X E l (nq_rm (n + 1)) cX9_either 3 RX9 wsX9_either) (hr : nq_RT X E (some .int) (some (.int r)) K M') (h : fX9_either_L36 g_both x1 M = some (r, M')) : nq_G X E 3 36 [(1, .int x1)] [] K M := by
  unfold fX9_either_L36 at h
  refine nq_iload_n hX rfl 0 rfl dX9_either_36 ?_
  obtain ⟨rfl, rfl⟩ := nq_sE2 h; exact nq_iret hX hr dX9_either_37
def fX9_either_L5 (g_both : Mem → Option (Int32 × Mem)) (x1 : Int32) (M : Mem) : Option (Int32 × Mem) :=
  (nq_lp (fun s : Int32 × Mem => fX9_either_B5 g_both s.1 s.2) nq_fuel (x1, M)).bind (fun e => fX9_either_L36 g_both e.1 e.2)
set_option maxHeartbeats 4000000 in
theorem mX9_either_L5 {X : Cx} {E : Ev} {l : Launch} {K : List Sh} {n : Nat} {g_both : Mem → Option (Int32 × Mem)} {x1 : Int32} {M : Mem} {r : Int32} {M' : Mem} (hL : nq_atModel E K) (h_both : ∀ {M : Mem} {r : Int32} {M' : Mem} (hL : nq_atModel E K), g_both M = some (r, M') → nq_MA l E yX9_both wsX9_both (nq_rm n) [.ref (nq_ad E 0)] K M (some (.int r)) K M') (hn : 2 ≤ n) (hX : nq_OK X E l (nq_rm (n + 1)) cX9_either 3 RX9 wsX9_either) (hr : nq_RT X E (some .int) (some (.int r)) K M') (h : fX9_either_L5 g_both x1 M = some (r, M')) : nq_G X E 3 5 [(0, .ref (nq_ad E 0)), (1, .int x1)] [] K M := by
  unfold fX9_either_L5 at h
  obtain ⟨e, h1, h⟩ := nq_bE h
  have key : ∀ (ex : Int32 × Mem), nq_lp (fun s : Int32 × Mem => fX9_either_B5 g_both s.1 s.2) nq_fuel (x1, M) = some ex → (∀ e, ex = e → nq_G X E 3 36 [(1, .int e.1)] [] K e.2) → nq_G X E 3 5 [(0, .ref (nq_ad E 0)), (1, .int ((x1, M).1))] [] K (x1, M).2 := by
    intro ex h1 hE
    refine nq_lpE (P := fun s : Int32 × Mem => nq_G X E 3 5 [(0, .ref (nq_ad E 0)), (1, .int s.1)] [] K s.2) (r := ex) ?_ nq_fuel (x1, M) h1
    intro s xx hx1 hc1 he1
    exact mX9_either_B5 hL h_both hn hX hc1 (fun e q => hE e (he1 _ q).symm) hx1
  refine key e h1 (fun e q => ?_)
  subst q
  exact mX9_either_L36 hL h_both hn hX hr h
def fX9_either (g_both : Mem → Option (Int32 × Mem)) (M : Mem) : Option (Int32 × Mem) :=
  nq_b2 (g_both  M) fun v2 M3 =>
  fX9_either_L5 g_both v2 M3
set_option maxHeartbeats 4000000 in
theorem mX9_either {X : Cx} {E : Ev} {l : Launch} {K : List Sh} {n : Nat} {g_both : Mem → Option (Int32 × Mem)} {M : Mem} {r : Int32} {M' : Mem} (hL : nq_atModel E K) (h_both : ∀ {M : Mem} {r : Int32} {M' : Mem} (hL : nq_atModel E K), g_both M = some (r, M') → nq_MA l E yX9_both wsX9_both (nq_rm n) [.ref (nq_ad E 0)] K M (some (.int r)) K M') (hn : 2 ≤ n) (hX : nq_OK X E l (nq_rm (n + 1)) cX9_either 3 RX9 wsX9_either) (hr : nq_RT X E (some .int) (some (.int r)) K M') (h : fX9_either g_both M = some (r, M')) : nq_G X E 3 0 [(0, .ref (nq_ad E 0))] [] K M := by
  unfold fX9_either at h
  refine nq_aload_n hX rfl 0 rfl dX9_either_0 ?_
  obtain ⟨v2, M3, hc1, h⟩ := nq_b2E h
  refine nq_callVi hX (h_both hL hc1) gX9_either_X9_both rfl rfl dsX9_both (nq_room (by decide) (by omega)) (nq_Model_0 hL) rfl rfl (Nat.le_of_ble_eq_true rfl) dX9_either_1 ?_
  refine nq_istore_n hX (lv' := [(1, .int v2), (0, .ref (nq_ad E 0))]) rfl (by decide) rfl rfl dX9_either_4 ?_
  refine nq_sub (lv' := [(0, .ref (nq_ad E 0)), (1, .int v2)]) [1, 0] rfl ?_
  exact mX9_either_L5 hL h_both hn hX hr h
theorem tX9_either {l : Launch} {E : Ev} {K : List Sh} {n : Nat} {g_both : Mem → Option (Int32 × Mem)} {M : Mem} {r : Int32} {M' : Mem} (hL : nq_atModel E K) (h_both : ∀ {M : Mem} {r : Int32} {M' : Mem} (hL : nq_atModel E K), g_both M = some (r, M') → nq_MA l E yX9_both wsX9_both (nq_rm n) [.ref (nq_ad E 0)] K M (some (.int r)) K M') (hn : 2 ≤ n) (h : fX9_either g_both M = some (r, M')) : nq_MA l E yX9_either wsX9_either (nq_rm (n + 1)) [.ref (nq_ad E 0)] K M (some (.int r)) K M' :=
  nq_met (own := RX9) (cc := cX9_either) (maxL := 3) (ret := (some .int)) (by decide) rfl rfl (Nat.le_of_ble_eq_true rfl) (fun X hX hr => mX9_either hL h_both hn hX hr h)

def fX9_both_B5 (g_compared : Mem → Option (Int32 × Mem)) (x1 : Int32) (M : Mem) : Option ((Int32 × Mem) ⊕ (Int32 × Mem)) :=
  nq_b2 (fX9_takes (38 : Int32) M) fun v5 M6 =>
  if v5 = 0 then
  (some (.inr (x1, M6)))
  else
  (nq_b2 (g_compared  M6) fun v9 M10 =>
  if x1 = 0 then
  (some (.inl ((0 : Int32), M10)))
  else
  (if v9 = 0 then
  (some (.inl ((0 : Int32), M10)))
  else
  (some (.inl ((1 : Int32), M10)))))
set_option maxHeartbeats 4000000 in
theorem mX9_both_B5 {X : Cx} {E : Ev} {l : Launch} {K : List Sh} {n : Nat} {g_compared : Mem → Option (Int32 × Mem)} {x1 : Int32} {M : Mem} (hL : nq_atModel E K) (h_compared : ∀ {M : Mem} {r : Int32} {M' : Mem} (hL : nq_atModel E K), g_compared M = some (r, M') → nq_MA l E yX9_compared wsX9_compared (nq_rm n) [.ref (nq_ad E 0)] K M (some (.int r)) K M') (hn : 2 ≤ n) (hX : nq_OK X E l (nq_rm (n + 1)) cX9_both 3 RX9 wsX9_both) {x : (Int32 × Mem) ⊕ (Int32 × Mem)} (hc : ∀ s' : Int32 × Mem, x = .inl s' → nq_G X E 3 5 [(0, .ref (nq_ad E 0)), (1, .int s'.1)] [] K s'.2) (he : ∀ s' : Int32 × Mem, x = .inr s' → nq_G X E 3 36 [(1, .int s'.1)] [] K s'.2) (h : fX9_both_B5 g_compared x1 M = some x) : nq_G X E 3 5 [(0, .ref (nq_ad E 0)), (1, .int x1)] [] K M := by
  unfold fX9_both_B5 at h
  refine nq_aload_n hX rfl 0 rfl dX9_both_5 ?_
  refine nq_bipush hX (v := 38) (by decide) dX9_both_6 ?_
  obtain ⟨v5, M6, hc4, h⟩ := nq_b2E h
  refine nq_callVi hX (tX9_takes hL hc4) gX9_both_X9_takes rfl rfl dsX9_takes (nq_room (by decide) (by omega)) (nq_Model_0 hL) rfl rfl (Nat.le_of_ble_eq_true rfl) dX9_both_8 ?_
  refine nq_if_eq hX (tgt := 36) (by decide) dX9_both_11 (fun c7 => ?_) (fun c7 => ?_)
  · rw [if_pos c7] at h
    refine nq_sub (lv' := [(1, .int x1)]) [1] rfl ?_
    exact he (x1, M6) (nq_sE h).symm
  · rw [if_neg c7] at h
    refine nq_aload_n hX rfl 0 rfl dX9_both_14 ?_
    obtain ⟨v9, M10, hc8, h⟩ := nq_b2E h
    refine nq_callVi hX (h_compared hL hc8) gX9_both_X9_compared rfl rfl dsX9_compared (nq_room (by decide) (by omega)) (nq_Model_0 hL) rfl rfl (Nat.le_of_ble_eq_true rfl) dX9_both_15 ?_
    refine nq_istore_n hX (lv' := [(2, .int v9), (0, .ref (nq_ad E 0)), (1, .int x1)]) rfl (by decide) rfl rfl dX9_both_18 ?_
    refine nq_iload_n hX rfl 2 rfl dX9_both_19 ?_
    refine nq_if_eq hX (tgt := 31) (by decide) dX9_both_20 (fun c11 => ?_) (fun c11 => ?_)
    · rw [if_pos c11] at h
      refine nq_iconst hX (v := 0) (by decide) dX9_both_31 ?_
      refine nq_istore_n hX (lv' := [(1, .int (0 : Int32)), (2, .int v9), (0, .ref (nq_ad E 0))]) rfl (by decide) rfl rfl dX9_both_32 ?_
      refine nq_goto hX (tgt := 5) (by decide) dX9_both_33 ?_
      refine nq_sub (lv' := [(0, .ref (nq_ad E 0)), (1, .int (0 : Int32))]) [2, 0] rfl ?_
      exact hc ((0 : Int32), M10) (nq_sE h).symm
    · rw [if_neg c11] at h
      refine nq_iload_n hX rfl 0 rfl dX9_both_23 ?_
      refine nq_if_eq hX (tgt := 31) (by decide) dX9_both_24 (fun c12 => ?_) (fun c12 => ?_)
      · rw [if_pos c12] at h
        refine nq_iconst hX (v := 0) (by decide) dX9_both_31 ?_
        refine nq_istore_n hX (lv' := [(1, .int (0 : Int32)), (2, .int v9), (0, .ref (nq_ad E 0))]) rfl (by decide) rfl rfl dX9_both_32 ?_
        refine nq_goto hX (tgt := 5) (by decide) dX9_both_33 ?_
        refine nq_sub (lv' := [(0, .ref (nq_ad E 0)), (1, .int (0 : Int32))]) [2, 0] rfl ?_
        exact hc ((0 : Int32), M10) (nq_sE h).symm
      · rw [if_neg c12] at h
        refine nq_iconst hX (v := 1) (by decide) dX9_both_27 ?_
        refine nq_goto hX (tgt := 32) (by decide) dX9_both_28 ?_
        refine nq_istore_n hX (lv' := [(1, .int (1 : Int32)), (2, .int v9), (0, .ref (nq_ad E 0))]) rfl (by decide) rfl rfl dX9_both_32 ?_
        refine nq_goto hX (tgt := 5) (by decide) dX9_both_33 ?_
        refine nq_sub (lv' := [(0, .ref (nq_ad E 0)), (1, .int (1 : Int32))]) [2, 0] rfl ?_
        exact hc ((1 : Int32), M10) (nq_sE h).symm
def fX9_both_L36 (g_compared : Mem → Option (Int32 × Mem)) (x1 : Int32) (M : Mem) : Option (Int32 × Mem) :=
  some (x1, M)
set_option maxHeartbeats 4000000 in
theorem mX9_both_L36 {X : Cx} {E : Ev} {l : Launch} {K : List Sh} {n : Nat} {g_compared : Mem → Option (Int32 × Mem)} {x1 : Int32} {M : Mem} {r : Int32} {M' : Mem} (hL : nq_atModel E K) (h_compared : ∀ {M : Mem} {r : Int32} {M' : Mem} (hL : nq_atModel E K), g_compared M = some (r, M') → nq_MA l E yX9_compared wsX9_compared (nq_rm n) [.ref (nq_ad E 0)] K M (some (.int r)) K M') (hn : 2 ≤ n) (hX : nq_OK X E l (nq_rm (n + 1)) cX9_both 3 RX9 wsX9_both) (hr : nq_RT X E (some .int) (some (.int r)) K M') (h : fX9_both_L36 g_compared x1 M = some (r, M')) : nq_G X E 3 36 [(1, .int x1)] [] K M := by
  unfold fX9_both_L36 at h
  refine nq_iload_n hX rfl 0 rfl dX9_both_36 ?_
  obtain ⟨rfl, rfl⟩ := nq_sE2 h; exact nq_iret hX hr dX9_both_37
def fX9_both_L5 (g_compared : Mem → Option (Int32 × Mem)) (x1 : Int32) (M : Mem) : Option (Int32 × Mem) :=
  (nq_lp (fun s : Int32 × Mem => fX9_both_B5 g_compared s.1 s.2) nq_fuel (x1, M)).bind (fun e => fX9_both_L36 g_compared e.1 e.2)
set_option maxHeartbeats 4000000 in
theorem mX9_both_L5 {X : Cx} {E : Ev} {l : Launch} {K : List Sh} {n : Nat} {g_compared : Mem → Option (Int32 × Mem)} {x1 : Int32} {M : Mem} {r : Int32} {M' : Mem} (hL : nq_atModel E K) (h_compared : ∀ {M : Mem} {r : Int32} {M' : Mem} (hL : nq_atModel E K), g_compared M = some (r, M') → nq_MA l E yX9_compared wsX9_compared (nq_rm n) [.ref (nq_ad E 0)] K M (some (.int r)) K M') (hn : 2 ≤ n) (hX : nq_OK X E l (nq_rm (n + 1)) cX9_both 3 RX9 wsX9_both) (hr : nq_RT X E (some .int) (some (.int r)) K M') (h : fX9_both_L5 g_compared x1 M = some (r, M')) : nq_G X E 3 5 [(0, .ref (nq_ad E 0)), (1, .int x1)] [] K M := by
  unfold fX9_both_L5 at h
  obtain ⟨e, h1, h⟩ := nq_bE h
  have key : ∀ (ex : Int32 × Mem), nq_lp (fun s : Int32 × Mem => fX9_both_B5 g_compared s.1 s.2) nq_fuel (x1, M) = some ex → (∀ e, ex = e → nq_G X E 3 36 [(1, .int e.1)] [] K e.2) → nq_G X E 3 5 [(0, .ref (nq_ad E 0)), (1, .int ((x1, M).1))] [] K (x1, M).2 := by
    intro ex h1 hE
    refine nq_lpE (P := fun s : Int32 × Mem => nq_G X E 3 5 [(0, .ref (nq_ad E 0)), (1, .int s.1)] [] K s.2) (r := ex) ?_ nq_fuel (x1, M) h1
    intro s xx hx1 hc1 he1
    exact mX9_both_B5 hL h_compared hn hX hc1 (fun e q => hE e (he1 _ q).symm) hx1
  refine key e h1 (fun e q => ?_)
  subst q
  exact mX9_both_L36 hL h_compared hn hX hr h
def fX9_both (g_compared : Mem → Option (Int32 × Mem)) (M : Mem) : Option (Int32 × Mem) :=
  nq_b2 (g_compared  M) fun v2 M3 =>
  fX9_both_L5 g_compared v2 M3
set_option maxHeartbeats 4000000 in
theorem mX9_both {X : Cx} {E : Ev} {l : Launch} {K : List Sh} {n : Nat} {g_compared : Mem → Option (Int32 × Mem)} {M : Mem} {r : Int32} {M' : Mem} (hL : nq_atModel E K) (h_compared : ∀ {M : Mem} {r : Int32} {M' : Mem} (hL : nq_atModel E K), g_compared M = some (r, M') → nq_MA l E yX9_compared wsX9_compared (nq_rm n) [.ref (nq_ad E 0)] K M (some (.int r)) K M') (hn : 2 ≤ n) (hX : nq_OK X E l (nq_rm (n + 1)) cX9_both 3 RX9 wsX9_both) (hr : nq_RT X E (some .int) (some (.int r)) K M') (h : fX9_both g_compared M = some (r, M')) : nq_G X E 3 0 [(0, .ref (nq_ad E 0))] [] K M := by
  unfold fX9_both at h
  refine nq_aload_n hX rfl 0 rfl dX9_both_0 ?_
  obtain ⟨v2, M3, hc1, h⟩ := nq_b2E h
  refine nq_callVi hX (h_compared hL hc1) gX9_both_X9_compared rfl rfl dsX9_compared (nq_room (by decide) (by omega)) (nq_Model_0 hL) rfl rfl (Nat.le_of_ble_eq_true rfl) dX9_both_1 ?_
  refine nq_istore_n hX (lv' := [(1, .int v2), (0, .ref (nq_ad E 0))]) rfl (by decide) rfl rfl dX9_both_4 ?_
  refine nq_sub (lv' := [(0, .ref (nq_ad E 0)), (1, .int v2)]) [1, 0] rfl ?_
  exact mX9_both_L5 hL h_compared hn hX hr h
theorem tX9_both {l : Launch} {E : Ev} {K : List Sh} {n : Nat} {g_compared : Mem → Option (Int32 × Mem)} {M : Mem} {r : Int32} {M' : Mem} (hL : nq_atModel E K) (h_compared : ∀ {M : Mem} {r : Int32} {M' : Mem} (hL : nq_atModel E K), g_compared M = some (r, M') → nq_MA l E yX9_compared wsX9_compared (nq_rm n) [.ref (nq_ad E 0)] K M (some (.int r)) K M') (hn : 2 ≤ n) (h : fX9_both g_compared M = some (r, M')) : nq_MA l E yX9_both wsX9_both (nq_rm (n + 1)) [.ref (nq_ad E 0)] K M (some (.int r)) K M' :=
  nq_met (own := RX9) (cc := cX9_both) (maxL := 3) (ret := (some .int)) (by decide) rfl rfl (Nat.le_of_ble_eq_true rfl) (fun X hX hr => mX9_both hL h_compared hn hX hr h)

theorem inX9_compared_9 : ∀ w ∈ u_ws RX9 TX9 23, w ∈ wsX9_compared := by
  intro w h; unfold wsX9_compared; simp only [List.mem_cons, List.mem_append]; simp only [h, true_or, or_true]
theorem lkX9_compared_180 : Cond.fieldLink RX9 180 (TX9 10).1 (TX9 10).2.1 (TX9 10).2.2.1 ∈ wsX9_compared := by decide +kernel
def fX9_compared_L30 (g_sum : Mem → Option (Int32 × Mem)) (x1 : Int32) (x2 : Int32) (M : Mem) : Option (Int32 × Mem) :=
  nq_lt (M 0 10) fun v7 =>
  nq_lt (nq_wr M 0 10 (v7 + (1 : Int32))) fun M8 =>
  nq_b2 (g_sum  M8) fun v10 M11 =>
  if x2 = (60 : Int32) then
  (if v10 ≤ x1 then
  (some ((0 : Int32), M11))
  else
  (some ((1 : Int32), M11)))
  else
  (if x2 = (61 : Int32) then
  (if x1 = v10 then
  (some ((1 : Int32), M11))
  else
  (some ((0 : Int32), M11)))
  else
  (if x1 ≤ v10 then
  (some ((0 : Int32), M11))
  else
  (some ((1 : Int32), M11))))
set_option maxHeartbeats 4000000 in
theorem mX9_compared_L30 {X : Cx} {E : Ev} {l : Launch} {K : List Sh} {n : Nat} {g_sum : Mem → Option (Int32 × Mem)} {x1 : Int32} {x2 : Int32} {M : Mem} {r : Int32} {M' : Mem} (hL : nq_atModel E K) (h_sum : ∀ {M : Mem} {r : Int32} {M' : Mem} (hL : nq_atModel E K), g_sum M = some (r, M') → nq_MA l E yX9_sum wsX9_sum (nq_rm n) [.ref (nq_ad E 0)] K M (some (.int r)) K M') (hn : 2 ≤ n) (hX : nq_OK X E l (nq_rm (n + 1)) cX9_compared 4 RX9 wsX9_compared) (hr : nq_RT X E (some .int) (some (.int r)) K M') (h : fX9_compared_L30 g_sum x1 x2 M = some (r, M')) : nq_G X E 4 30 [(0, .ref (nq_ad E 0)), (1, .int x1), (2, .int x2)] [] K M := by
  unfold fX9_compared_L30 at h
  refine nq_aload_n hX rfl 0 rfl dX9_compared_30 ?_
  refine nq_dup hX rfl dX9_compared_31 ?_
  obtain ⟨v7, e7, h⟩ := nq_ltE h
  refine nq_geti hX inX9_compared_9 (nq_Model_0 hL) rfl 10 (by decide) lkX9_compared_180 rfl e7 dX9_compared_32 ?_
  refine nq_iconst hX (v := 1) (by decide) dX9_compared_35 ?_
  refine nq_iadd hX dX9_compared_36 ?_
  obtain ⟨M8, eM8, h⟩ := nq_ltE h
  refine nq_puti hX inX9_compared_9 tyX9 tyX9_ok nmX9 (nq_Model_0 hL) rfl 10 (by decide) lkX9_compared_180 rfl rfl rfl rfl rfl eM8 dX9_compared_37 ?_
  refine nq_aload_n hX rfl 0 rfl dX9_compared_40 ?_
  obtain ⟨v10, M11, hc9, h⟩ := nq_b2E h
  refine nq_callVi hX (h_sum hL hc9) gX9_compared_X9_sum rfl rfl dsX9_sum (nq_room (by decide) (by omega)) (nq_Model_0 hL) rfl rfl (Nat.le_of_ble_eq_true rfl) dX9_compared_41 ?_
  refine nq_istore_n hX (lv' := [(3, .int v10), (0, .ref (nq_ad E 0)), (1, .int x1), (2, .int x2)]) rfl (by decide) rfl rfl dX9_compared_44 ?_
  refine nq_iload_n hX rfl 3 rfl dX9_compared_45 ?_
  refine nq_bipush hX (v := 60) (by decide) dX9_compared_46 ?_
  refine nq_icmp_ne hX (tgt := 59) (by decide) dX9_compared_48 (fun c12 => ?_) (fun c12 => ?_)
  · rw [if_pos c12] at h
    refine nq_iload_n hX rfl 2 rfl dX9_compared_51 ?_
    refine nq_iload_n hX rfl 0 rfl dX9_compared_52 ?_
    refine nq_icmp_ge hX (tgt := 82) (by decide) dX9_compared_53 (fun c13 => ?_) (fun c13 => ?_)
    · rw [if_pos c13] at h
      refine nq_iconst hX (v := 0) (by decide) dX9_compared_82 ?_
      obtain ⟨rfl, rfl⟩ := nq_sE2 h; exact nq_iret hX hr dX9_compared_83
    · rw [if_neg c13] at h
      refine nq_goto hX (tgt := 78) (by decide) dX9_compared_56 ?_
      refine nq_iconst hX (v := 1) (by decide) dX9_compared_78 ?_
      refine nq_goto hX (tgt := 83) (by decide) dX9_compared_79 ?_
      obtain ⟨rfl, rfl⟩ := nq_sE2 h; exact nq_iret hX hr dX9_compared_83
  · rw [if_neg c12] at h
    refine nq_iload_n hX rfl 3 rfl dX9_compared_59 ?_
    refine nq_bipush hX (v := 61) (by decide) dX9_compared_60 ?_
    refine nq_icmp_ne hX (tgt := 73) (by decide) dX9_compared_62 (fun c14 => ?_) (fun c14 => ?_)
    · rw [if_pos c14] at h
      refine nq_iload_n hX rfl 2 rfl dX9_compared_65 ?_
      refine nq_iload_n hX rfl 0 rfl dX9_compared_66 ?_
      refine nq_icmp_ne hX (tgt := 82) (by decide) dX9_compared_67 (fun c15 => ?_) (fun c15 => ?_)
      · rw [if_pos c15] at h
        refine nq_goto hX (tgt := 78) (by decide) dX9_compared_70 ?_
        refine nq_iconst hX (v := 1) (by decide) dX9_compared_78 ?_
        refine nq_goto hX (tgt := 83) (by decide) dX9_compared_79 ?_
        obtain ⟨rfl, rfl⟩ := nq_sE2 h; exact nq_iret hX hr dX9_compared_83
      · rw [if_neg c15] at h
        refine nq_iconst hX (v := 0) (by decide) dX9_compared_82 ?_
        obtain ⟨rfl, rfl⟩ := nq_sE2 h; exact nq_iret hX hr dX9_compared_83
    · rw [if_neg c14] at h
      refine nq_iload_n hX rfl 2 rfl dX9_compared_73 ?_
      refine nq_iload_n hX rfl 0 rfl dX9_compared_74 ?_
      refine nq_icmp_le hX (tgt := 82) (by decide) dX9_compared_75 (fun c16 => ?_) (fun c16 => ?_)
      · rw [if_pos c16] at h
        refine nq_iconst hX (v := 0) (by decide) dX9_compared_82 ?_
        obtain ⟨rfl, rfl⟩ := nq_sE2 h; exact nq_iret hX hr dX9_compared_83
      · rw [if_neg c16] at h
        refine nq_iconst hX (v := 1) (by decide) dX9_compared_78 ?_
        refine nq_goto hX (tgt := 83) (by decide) dX9_compared_79 ?_
        obtain ⟨rfl, rfl⟩ := nq_sE2 h; exact nq_iret hX hr dX9_compared_83
def fX9_compared (g_sum : Mem → Option (Int32 × Mem)) (M : Mem) : Option (Int32 × Mem) :=
  nq_b2 (g_sum  M) fun v2 M3 =>
  (fX9_here  M3).bind fun v5 =>
  if v5 = (60 : Int32) then
  (fX9_compared_L30 g_sum v2 v5 M3)
  else
  (if v5 = (61 : Int32) then
  (fX9_compared_L30 g_sum v2 v5 M3)
  else
  (if v5 = (62 : Int32) then
  (fX9_compared_L30 g_sum v2 v5 M3)
  else
  (some (v2, M3))))
set_option maxHeartbeats 4000000 in
theorem mX9_compared {X : Cx} {E : Ev} {l : Launch} {K : List Sh} {n : Nat} {g_sum : Mem → Option (Int32 × Mem)} {M : Mem} {r : Int32} {M' : Mem} (hL : nq_atModel E K) (h_sum : ∀ {M : Mem} {r : Int32} {M' : Mem} (hL : nq_atModel E K), g_sum M = some (r, M') → nq_MA l E yX9_sum wsX9_sum (nq_rm n) [.ref (nq_ad E 0)] K M (some (.int r)) K M') (hn : 2 ≤ n) (hX : nq_OK X E l (nq_rm (n + 1)) cX9_compared 4 RX9 wsX9_compared) (hr : nq_RT X E (some .int) (some (.int r)) K M') (h : fX9_compared g_sum M = some (r, M')) : nq_G X E 4 0 [(0, .ref (nq_ad E 0))] [] K M := by
  unfold fX9_compared at h
  refine nq_aload_n hX rfl 0 rfl dX9_compared_0 ?_
  obtain ⟨v2, M3, hc1, h⟩ := nq_b2E h
  refine nq_callVi hX (h_sum hL hc1) gX9_compared_X9_sum rfl rfl dsX9_sum (nq_room (by decide) (by omega)) (nq_Model_0 hL) rfl rfl (Nat.le_of_ble_eq_true rfl) dX9_compared_1 ?_
  refine nq_istore_n hX (lv' := [(1, .int v2), (0, .ref (nq_ad E 0))]) rfl (by decide) rfl rfl dX9_compared_4 ?_
  refine nq_aload_n hX rfl 1 rfl dX9_compared_5 ?_
  obtain ⟨v5, hc4, h⟩ := nq_bE h
  refine nq_callVi hX (tX9_here hL hc4) gX9_compared_X9_here rfl rfl dsX9_here (nq_room (by decide) (by omega)) (nq_Model_0 hL) rfl rfl (Nat.le_of_ble_eq_true rfl) dX9_compared_6 ?_
  refine nq_istore_n hX (lv' := [(2, .int v5), (1, .int v2), (0, .ref (nq_ad E 0))]) rfl (by decide) rfl rfl dX9_compared_9 ?_
  refine nq_iload_n hX rfl 0 rfl dX9_compared_10 ?_
  refine nq_bipush hX (v := 60) (by decide) dX9_compared_11 ?_
  refine nq_icmp_eq hX (tgt := 30) (by decide) dX9_compared_13 (fun c6 => ?_) (fun c6 => ?_)
  · rw [if_pos c6] at h
    refine nq_sub (lv' := [(0, .ref (nq_ad E 0)), (1, .int v2), (2, .int v5)]) [2, 1, 0] rfl ?_
    exact mX9_compared_L30 hL h_sum hn hX hr h
  · rw [if_neg c6] at h
    refine nq_iload_n hX rfl 0 rfl dX9_compared_16 ?_
    refine nq_bipush hX (v := 61) (by decide) dX9_compared_17 ?_
    refine nq_icmp_eq hX (tgt := 30) (by decide) dX9_compared_19 (fun c17 => ?_) (fun c17 => ?_)
    · rw [if_pos c17] at h
      refine nq_sub (lv' := [(0, .ref (nq_ad E 0)), (1, .int v2), (2, .int v5)]) [2, 1, 0] rfl ?_
      exact mX9_compared_L30 hL h_sum hn hX hr h
    · rw [if_neg c17] at h
      refine nq_iload_n hX rfl 0 rfl dX9_compared_22 ?_
      refine nq_bipush hX (v := 62) (by decide) dX9_compared_23 ?_
      refine nq_icmp_eq hX (tgt := 30) (by decide) dX9_compared_25 (fun c18 => ?_) (fun c18 => ?_)
      · rw [if_pos c18] at h
        refine nq_sub (lv' := [(0, .ref (nq_ad E 0)), (1, .int v2), (2, .int v5)]) [2, 1, 0] rfl ?_
        exact mX9_compared_L30 hL h_sum hn hX hr h
      · rw [if_neg c18] at h
        refine nq_iload_n hX rfl 1 rfl dX9_compared_28 ?_
        obtain ⟨rfl, rfl⟩ := nq_sE2 h; exact nq_iret hX hr dX9_compared_29
theorem tX9_compared {l : Launch} {E : Ev} {K : List Sh} {n : Nat} {g_sum : Mem → Option (Int32 × Mem)} {M : Mem} {r : Int32} {M' : Mem} (hL : nq_atModel E K) (h_sum : ∀ {M : Mem} {r : Int32} {M' : Mem} (hL : nq_atModel E K), g_sum M = some (r, M') → nq_MA l E yX9_sum wsX9_sum (nq_rm n) [.ref (nq_ad E 0)] K M (some (.int r)) K M') (hn : 2 ≤ n) (h : fX9_compared g_sum M = some (r, M')) : nq_MA l E yX9_compared wsX9_compared (nq_rm (n + 1)) [.ref (nq_ad E 0)] K M (some (.int r)) K M' :=
  nq_met (own := RX9) (cc := cX9_compared) (maxL := 4) (ret := (some .int)) (by decide) rfl rfl (Nat.le_of_ble_eq_true rfl) (fun X hX hr => mX9_compared hL h_sum hn hX hr h)

theorem inX9_sum_9 : ∀ w ∈ u_ws RX9 TX9 23, w ∈ wsX9_sum := by
  intro w h; unfold wsX9_sum; simp only [List.mem_cons, List.mem_append]; simp only [h, true_or, or_true]
theorem lkX9_sum_180 : Cond.fieldLink RX9 180 (TX9 10).1 (TX9 10).2.1 (TX9 10).2.2.1 ∈ wsX9_sum := by decide +kernel
def fX9_sum_L23_5 (g_product : Mem → Option (Int32 × Mem)) (x1 : Int32) (M : Mem) : Option ((Int32 × Mem) ⊕ (Int32 × Mem)) :=
  (fX9_here  M).bind fun v8 =>
  nq_lt (M 0 10) fun v9 =>
  nq_lt (nq_wr M 0 10 (v9 + (1 : Int32))) fun M10 =>
  nq_b2 (g_product  M10) fun v12 M13 =>
  if v8 = (43 : Int32) then
  (nq_lt ((x1 + v12)) fun v15 =>
  some (.inl (v15, M13)))
  else
  (nq_lt ((x1 - v12)) fun v16 =>
  some (.inl (v16, M13)))
set_option maxHeartbeats 4000000 in
theorem mX9_sum_L23_5 {X : Cx} {E : Ev} {l : Launch} {K : List Sh} {n : Nat} {g_product : Mem → Option (Int32 × Mem)} {x1 : Int32} {M : Mem} (hL : nq_atModel E K) (h_product : ∀ {M : Mem} {r : Int32} {M' : Mem} (hL : nq_atModel E K), g_product M = some (r, M') → nq_MA l E yX9_product wsX9_product (nq_rm n) [.ref (nq_ad E 0)] K M (some (.int r)) K M') (hn : 2 ≤ n) (hX : nq_OK X E l (nq_rm (n + 1)) cX9_sum 4 RX9 wsX9_sum) {x : (Int32 × Mem) ⊕ (Int32 × Mem)} (hc : ∀ s' : Int32 × Mem, x = .inl s' → nq_G X E 4 5 [(0, .ref (nq_ad E 0)), (1, .int s'.1)] [] K s'.2) (he : ∀ s' : Int32 × Mem, x = .inr s' → nq_G X E 4 62 [(1, .int s'.1)] [] K s'.2) (h : fX9_sum_L23_5 g_product x1 M = some x) : nq_G X E 4 23 [(0, .ref (nq_ad E 0)), (1, .int x1)] [] K M := by
  unfold fX9_sum_L23_5 at h
  refine nq_aload_n hX rfl 0 rfl dX9_sum_23 ?_
  obtain ⟨v8, hc7, h⟩ := nq_bE h
  refine nq_callVi hX (tX9_here hL hc7) gX9_sum_X9_here rfl rfl dsX9_here (nq_room (by decide) (by omega)) (nq_Model_0 hL) rfl rfl (Nat.le_of_ble_eq_true rfl) dX9_sum_24 ?_
  refine nq_istore_n hX (lv' := [(2, .int v8), (0, .ref (nq_ad E 0)), (1, .int x1)]) rfl (by decide) rfl rfl dX9_sum_27 ?_
  refine nq_aload_n hX rfl 1 rfl dX9_sum_28 ?_
  refine nq_dup hX rfl dX9_sum_29 ?_
  obtain ⟨v9, e9, h⟩ := nq_ltE h
  refine nq_geti hX inX9_sum_9 (nq_Model_0 hL) rfl 10 (by decide) lkX9_sum_180 rfl e9 dX9_sum_30 ?_
  refine nq_iconst hX (v := 1) (by decide) dX9_sum_33 ?_
  refine nq_iadd hX dX9_sum_34 ?_
  obtain ⟨M10, eM10, h⟩ := nq_ltE h
  refine nq_puti hX inX9_sum_9 tyX9 tyX9_ok nmX9 (nq_Model_0 hL) rfl 10 (by decide) lkX9_sum_180 rfl rfl rfl rfl rfl eM10 dX9_sum_35 ?_
  refine nq_aload_n hX rfl 1 rfl dX9_sum_38 ?_
  obtain ⟨v12, M13, hc11, h⟩ := nq_b2E h
  refine nq_callVi hX (h_product hL hc11) gX9_sum_X9_product rfl rfl dsX9_product (nq_room (by decide) (by omega)) (nq_Model_0 hL) rfl rfl (Nat.le_of_ble_eq_true rfl) dX9_sum_39 ?_
  refine nq_istore_n hX (lv' := [(3, .int v12), (2, .int v8), (0, .ref (nq_ad E 0)), (1, .int x1)]) rfl (by decide) rfl rfl dX9_sum_42 ?_
  refine nq_iload_n hX rfl 1 rfl dX9_sum_43 ?_
  refine nq_bipush hX (v := 43) (by decide) dX9_sum_44 ?_
  refine nq_icmp_ne hX (tgt := 55) (by decide) dX9_sum_46 (fun c14 => ?_) (fun c14 => ?_)
  · rw [if_pos c14] at h
    refine nq_iload_n hX rfl 3 rfl dX9_sum_49 ?_
    refine nq_iload_n hX rfl 0 rfl dX9_sum_50 ?_
    refine nq_iadd hX dX9_sum_51 ?_
    refine nq_goto hX (tgt := 58) (by decide) dX9_sum_52 ?_
    obtain ⟨v15, e15, h⟩ := nq_ltE h
    refine nq_istore_n hX (lv' := [(1, .int v15), (3, .int v12), (2, .int v8), (0, .ref (nq_ad E 0))]) rfl (by decide) e15 rfl dX9_sum_58 ?_
    refine nq_goto hX (tgt := 5) (by decide) dX9_sum_59 ?_
    refine nq_sub (lv' := [(0, .ref (nq_ad E 0)), (1, .int v15)]) [3, 0] rfl ?_
    exact hc (v15, M13) (nq_sE h).symm
  · rw [if_neg c14] at h
    refine nq_iload_n hX rfl 3 rfl dX9_sum_55 ?_
    refine nq_iload_n hX rfl 0 rfl dX9_sum_56 ?_
    refine nq_isub hX dX9_sum_57 ?_
    obtain ⟨v16, e16, h⟩ := nq_ltE h
    refine nq_istore_n hX (lv' := [(1, .int v16), (3, .int v12), (2, .int v8), (0, .ref (nq_ad E 0))]) rfl (by decide) e16 rfl dX9_sum_58 ?_
    refine nq_goto hX (tgt := 5) (by decide) dX9_sum_59 ?_
    refine nq_sub (lv' := [(0, .ref (nq_ad E 0)), (1, .int v16)]) [3, 0] rfl ?_
    exact hc (v16, M13) (nq_sE h).symm
def fX9_sum_B5 (g_product : Mem → Option (Int32 × Mem)) (x1 : Int32) (M : Mem) : Option ((Int32 × Mem) ⊕ (Int32 × Mem)) :=
  (fX9_here  M).bind fun v5 =>
  if v5 = (43 : Int32) then
  (fX9_sum_L23_5 g_product x1 M)
  else
  ((fX9_here  M).bind fun v18 =>
  if v18 = (45 : Int32) then
  (fX9_sum_L23_5 g_product x1 M)
  else
  (some (.inr (x1, M))))
set_option maxHeartbeats 4000000 in
theorem mX9_sum_B5 {X : Cx} {E : Ev} {l : Launch} {K : List Sh} {n : Nat} {g_product : Mem → Option (Int32 × Mem)} {x1 : Int32} {M : Mem} (hL : nq_atModel E K) (h_product : ∀ {M : Mem} {r : Int32} {M' : Mem} (hL : nq_atModel E K), g_product M = some (r, M') → nq_MA l E yX9_product wsX9_product (nq_rm n) [.ref (nq_ad E 0)] K M (some (.int r)) K M') (hn : 2 ≤ n) (hX : nq_OK X E l (nq_rm (n + 1)) cX9_sum 4 RX9 wsX9_sum) {x : (Int32 × Mem) ⊕ (Int32 × Mem)} (hc : ∀ s' : Int32 × Mem, x = .inl s' → nq_G X E 4 5 [(0, .ref (nq_ad E 0)), (1, .int s'.1)] [] K s'.2) (he : ∀ s' : Int32 × Mem, x = .inr s' → nq_G X E 4 62 [(1, .int s'.1)] [] K s'.2) (h : fX9_sum_B5 g_product x1 M = some x) : nq_G X E 4 5 [(0, .ref (nq_ad E 0)), (1, .int x1)] [] K M := by
  unfold fX9_sum_B5 at h
  refine nq_aload_n hX rfl 0 rfl dX9_sum_5 ?_
  obtain ⟨v5, hc4, h⟩ := nq_bE h
  refine nq_callVi hX (tX9_here hL hc4) gX9_sum_X9_here rfl rfl dsX9_here (nq_room (by decide) (by omega)) (nq_Model_0 hL) rfl rfl (Nat.le_of_ble_eq_true rfl) dX9_sum_6 ?_
  refine nq_bipush hX (v := 43) (by decide) dX9_sum_9 ?_
  refine nq_icmp_eq hX (tgt := 23) (by decide) dX9_sum_11 (fun c6 => ?_) (fun c6 => ?_)
  · rw [if_pos c6] at h
    exact mX9_sum_L23_5 hL h_product hn hX hc he h
  · rw [if_neg c6] at h
    refine nq_aload_n hX rfl 0 rfl dX9_sum_14 ?_
    obtain ⟨v18, hc17, h⟩ := nq_bE h
    refine nq_callVi hX (tX9_here hL hc17) gX9_sum_X9_here rfl rfl dsX9_here (nq_room (by decide) (by omega)) (nq_Model_0 hL) rfl rfl (Nat.le_of_ble_eq_true rfl) dX9_sum_15 ?_
    refine nq_bipush hX (v := 45) (by decide) dX9_sum_18 ?_
    refine nq_icmp_ne hX (tgt := 62) (by decide) dX9_sum_20 (fun c19 => ?_) (fun c19 => ?_)
    · rw [if_pos c19] at h
      exact mX9_sum_L23_5 hL h_product hn hX hc he h
    · rw [if_neg c19] at h
      refine nq_sub (lv' := [(1, .int x1)]) [1] rfl ?_
      exact he (x1, M) (nq_sE h).symm
def fX9_sum_L62 (g_product : Mem → Option (Int32 × Mem)) (x1 : Int32) (M : Mem) : Option (Int32 × Mem) :=
  some (x1, M)
set_option maxHeartbeats 4000000 in
theorem mX9_sum_L62 {X : Cx} {E : Ev} {l : Launch} {K : List Sh} {n : Nat} {g_product : Mem → Option (Int32 × Mem)} {x1 : Int32} {M : Mem} {r : Int32} {M' : Mem} (hL : nq_atModel E K) (h_product : ∀ {M : Mem} {r : Int32} {M' : Mem} (hL : nq_atModel E K), g_product M = some (r, M') → nq_MA l E yX9_product wsX9_product (nq_rm n) [.ref (nq_ad E 0)] K M (some (.int r)) K M') (hn : 2 ≤ n) (hX : nq_OK X E l (nq_rm (n + 1)) cX9_sum 4 RX9 wsX9_sum) (hr : nq_RT X E (some .int) (some (.int r)) K M') (h : fX9_sum_L62 g_product x1 M = some (r, M')) : nq_G X E 4 62 [(1, .int x1)] [] K M := by
  unfold fX9_sum_L62 at h
  refine nq_iload_n hX rfl 0 rfl dX9_sum_62 ?_
  obtain ⟨rfl, rfl⟩ := nq_sE2 h; exact nq_iret hX hr dX9_sum_63
def fX9_sum_L5 (g_product : Mem → Option (Int32 × Mem)) (x1 : Int32) (M : Mem) : Option (Int32 × Mem) :=
  (nq_lp (fun s : Int32 × Mem => fX9_sum_B5 g_product s.1 s.2) nq_fuel (x1, M)).bind (fun e => fX9_sum_L62 g_product e.1 e.2)
set_option maxHeartbeats 4000000 in
theorem mX9_sum_L5 {X : Cx} {E : Ev} {l : Launch} {K : List Sh} {n : Nat} {g_product : Mem → Option (Int32 × Mem)} {x1 : Int32} {M : Mem} {r : Int32} {M' : Mem} (hL : nq_atModel E K) (h_product : ∀ {M : Mem} {r : Int32} {M' : Mem} (hL : nq_atModel E K), g_product M = some (r, M') → nq_MA l E yX9_product wsX9_product (nq_rm n) [.ref (nq_ad E 0)] K M (some (.int r)) K M') (hn : 2 ≤ n) (hX : nq_OK X E l (nq_rm (n + 1)) cX9_sum 4 RX9 wsX9_sum) (hr : nq_RT X E (some .int) (some (.int r)) K M') (h : fX9_sum_L5 g_product x1 M = some (r, M')) : nq_G X E 4 5 [(0, .ref (nq_ad E 0)), (1, .int x1)] [] K M := by
  unfold fX9_sum_L5 at h
  obtain ⟨e, h1, h⟩ := nq_bE h
  have key : ∀ (ex : Int32 × Mem), nq_lp (fun s : Int32 × Mem => fX9_sum_B5 g_product s.1 s.2) nq_fuel (x1, M) = some ex → (∀ e, ex = e → nq_G X E 4 62 [(1, .int e.1)] [] K e.2) → nq_G X E 4 5 [(0, .ref (nq_ad E 0)), (1, .int ((x1, M).1))] [] K (x1, M).2 := by
    intro ex h1 hE
    refine nq_lpE (P := fun s : Int32 × Mem => nq_G X E 4 5 [(0, .ref (nq_ad E 0)), (1, .int s.1)] [] K s.2) (r := ex) ?_ nq_fuel (x1, M) h1
    intro s xx hx1 hc1 he1
    exact mX9_sum_B5 hL h_product hn hX hc1 (fun e q => hE e (he1 _ q).symm) hx1
  refine key e h1 (fun e q => ?_)
  subst q
  exact mX9_sum_L62 hL h_product hn hX hr h
def fX9_sum (g_product : Mem → Option (Int32 × Mem)) (M : Mem) : Option (Int32 × Mem) :=
  nq_b2 (g_product  M) fun v2 M3 =>
  fX9_sum_L5 g_product v2 M3
set_option maxHeartbeats 4000000 in
theorem mX9_sum {X : Cx} {E : Ev} {l : Launch} {K : List Sh} {n : Nat} {g_product : Mem → Option (Int32 × Mem)} {M : Mem} {r : Int32} {M' : Mem} (hL : nq_atModel E K) (h_product : ∀ {M : Mem} {r : Int32} {M' : Mem} (hL : nq_atModel E K), g_product M = some (r, M') → nq_MA l E yX9_product wsX9_product (nq_rm n) [.ref (nq_ad E 0)] K M (some (.int r)) K M') (hn : 2 ≤ n) (hX : nq_OK X E l (nq_rm (n + 1)) cX9_sum 4 RX9 wsX9_sum) (hr : nq_RT X E (some .int) (some (.int r)) K M') (h : fX9_sum g_product M = some (r, M')) : nq_G X E 4 0 [(0, .ref (nq_ad E 0))] [] K M := by
  unfold fX9_sum at h
  refine nq_aload_n hX rfl 0 rfl dX9_sum_0 ?_
  obtain ⟨v2, M3, hc1, h⟩ := nq_b2E h
  refine nq_callVi hX (h_product hL hc1) gX9_sum_X9_product rfl rfl dsX9_product (nq_room (by decide) (by omega)) (nq_Model_0 hL) rfl rfl (Nat.le_of_ble_eq_true rfl) dX9_sum_1 ?_
  refine nq_istore_n hX (lv' := [(1, .int v2), (0, .ref (nq_ad E 0))]) rfl (by decide) rfl rfl dX9_sum_4 ?_
  refine nq_sub (lv' := [(0, .ref (nq_ad E 0)), (1, .int v2)]) [1, 0] rfl ?_
  exact mX9_sum_L5 hL h_product hn hX hr h
theorem tX9_sum {l : Launch} {E : Ev} {K : List Sh} {n : Nat} {g_product : Mem → Option (Int32 × Mem)} {M : Mem} {r : Int32} {M' : Mem} (hL : nq_atModel E K) (h_product : ∀ {M : Mem} {r : Int32} {M' : Mem} (hL : nq_atModel E K), g_product M = some (r, M') → nq_MA l E yX9_product wsX9_product (nq_rm n) [.ref (nq_ad E 0)] K M (some (.int r)) K M') (hn : 2 ≤ n) (h : fX9_sum g_product M = some (r, M')) : nq_MA l E yX9_sum wsX9_sum (nq_rm (n + 1)) [.ref (nq_ad E 0)] K M (some (.int r)) K M' :=
  nq_met (own := RX9) (cc := cX9_sum) (maxL := 4) (ret := (some .int)) (by decide) rfl rfl (Nat.le_of_ble_eq_true rfl) (fun X hX hr => mX9_sum hL h_product hn hX hr h)

theorem inX9_product_9 : ∀ w ∈ u_ws RX9 TX9 23, w ∈ wsX9_product := by
  intro w h; unfold wsX9_product; simp only [List.mem_cons, List.mem_append]; simp only [h, true_or, or_true]
theorem lkX9_product_180 : Cond.fieldLink RX9 180 (TX9 10).1 (TX9 10).2.1 (TX9 10).2.2.1 ∈ wsX9_product := by decide +kernel
def fX9_product_L32_5 (g_unit : Mem → Option (Int32 × Mem)) (x1 : Int32) (M : Mem) : Option ((Int32 × Mem) ⊕ (Int32 × Mem)) :=
  (fX9_here  M).bind fun v8 =>
  nq_lt (M 0 10) fun v9 =>
  nq_lt (nq_wr M 0 10 (v9 + (1 : Int32))) fun M10 =>
  nq_b2 (g_unit  M10) fun v12 M13 =>
  if v8 = (42 : Int32) then
  (nq_lt ((x1 * v12)) fun v15 =>
  some (.inl (v15, M13)))
  else
  (if v12 = 0 then
  (some (.inl ((0 : Int32), M13)))
  else
  (if v8 = (47 : Int32) then
  ((nq_dv x1 v12).bind fun v18 =>
  some (.inl (v18, M13)))
  else
  ((nq_rem x1 v12).bind fun v19 =>
  some (.inl (v19, M13)))))
set_option maxHeartbeats 4000000 in
theorem mX9_product_L32_5 {X : Cx} {E : Ev} {l : Launch} {K : List Sh} {n : Nat} {g_unit : Mem → Option (Int32 × Mem)} {x1 : Int32} {M : Mem} (hL : nq_atModel E K) (h_unit : ∀ {M : Mem} {r : Int32} {M' : Mem} (hL : nq_atModel E K), g_unit M = some (r, M') → nq_MA l E yX9_unit wsX9_unit (nq_rm n) [.ref (nq_ad E 0)] K M (some (.int r)) K M') (hn : 2 ≤ n) (hX : nq_OK X E l (nq_rm (n + 1)) cX9_product 4 RX9 wsX9_product) {x : (Int32 × Mem) ⊕ (Int32 × Mem)} (hc : ∀ s' : Int32 × Mem, x = .inl s' → nq_G X E 4 5 [(0, .ref (nq_ad E 0)), (1, .int s'.1)] [] K s'.2) (he : ∀ s' : Int32 × Mem, x = .inr s' → nq_G X E 4 91 [(1, .int s'.1)] [] K s'.2) (h : fX9_product_L32_5 g_unit x1 M = some x) : nq_G X E 4 32 [(0, .ref (nq_ad E 0)), (1, .int x1)] [] K M := by
  unfold fX9_product_L32_5 at h
  refine nq_aload_n hX rfl 0 rfl dX9_product_32 ?_
  obtain ⟨v8, hc7, h⟩ := nq_bE h
  refine nq_callVi hX (tX9_here hL hc7) gX9_product_X9_here rfl rfl dsX9_here (nq_room (by decide) (by omega)) (nq_Model_0 hL) rfl rfl (Nat.le_of_ble_eq_true rfl) dX9_product_33 ?_
  refine nq_istore_n hX (lv' := [(2, .int v8), (0, .ref (nq_ad E 0)), (1, .int x1)]) rfl (by decide) rfl rfl dX9_product_36 ?_
  refine nq_aload_n hX rfl 1 rfl dX9_product_37 ?_
  refine nq_dup hX rfl dX9_product_38 ?_
  obtain ⟨v9, e9, h⟩ := nq_ltE h
  refine nq_geti hX inX9_product_9 (nq_Model_0 hL) rfl 10 (by decide) lkX9_product_180 rfl e9 dX9_product_39 ?_
  refine nq_iconst hX (v := 1) (by decide) dX9_product_42 ?_
  refine nq_iadd hX dX9_product_43 ?_
  obtain ⟨M10, eM10, h⟩ := nq_ltE h
  refine nq_puti hX inX9_product_9 tyX9 tyX9_ok nmX9 (nq_Model_0 hL) rfl 10 (by decide) lkX9_product_180 rfl rfl rfl rfl rfl eM10 dX9_product_44 ?_
  refine nq_aload_n hX rfl 1 rfl dX9_product_47 ?_
  obtain ⟨v12, M13, hc11, h⟩ := nq_b2E h
  refine nq_callVi hX (h_unit hL hc11) gX9_product_X9_unit rfl rfl dsX9_unit (nq_room (by decide) (by omega)) (nq_Model_0 hL) rfl rfl (Nat.le_of_ble_eq_true rfl) dX9_product_48 ?_
  refine nq_istore_n hX (lv' := [(3, .int v12), (2, .int v8), (0, .ref (nq_ad E 0)), (1, .int x1)]) rfl (by decide) rfl rfl dX9_product_51 ?_
  refine nq_iload_n hX rfl 1 rfl dX9_product_52 ?_
  refine nq_bipush hX (v := 42) (by decide) dX9_product_53 ?_
  refine nq_icmp_ne hX (tgt := 64) (by decide) dX9_product_55 (fun c14 => ?_) (fun c14 => ?_)
  · rw [if_pos c14] at h
    refine nq_iload_n hX rfl 3 rfl dX9_product_58 ?_
    refine nq_iload_n hX rfl 0 rfl dX9_product_59 ?_
    refine nq_imul hX dX9_product_60 ?_
    refine nq_goto hX (tgt := 87) (by decide) dX9_product_61 ?_
    obtain ⟨v15, e15, h⟩ := nq_ltE h
    refine nq_istore_n hX (lv' := [(1, .int v15), (3, .int v12), (2, .int v8), (0, .ref (nq_ad E 0))]) rfl (by decide) e15 rfl dX9_product_87 ?_
    refine nq_goto hX (tgt := 5) (by decide) dX9_product_88 ?_
    refine nq_sub (lv' := [(0, .ref (nq_ad E 0)), (1, .int v15)]) [3, 0] rfl ?_
    exact hc (v15, M13) (nq_sE h).symm
  · rw [if_neg c14] at h
    refine nq_iload_n hX rfl 0 rfl dX9_product_64 ?_
    refine nq_if_ne hX (tgt := 72) (by decide) dX9_product_65 (fun c16 => ?_) (fun c16 => ?_)
    · rw [if_pos c16] at h
      refine nq_iconst hX (v := 0) (by decide) dX9_product_68 ?_
      refine nq_goto hX (tgt := 87) (by decide) dX9_product_69 ?_
      refine nq_istore_n hX (lv' := [(1, .int (0 : Int32)), (3, .int v12), (2, .int v8), (0, .ref (nq_ad E 0))]) rfl (by decide) rfl rfl dX9_product_87 ?_
      refine nq_goto hX (tgt := 5) (by decide) dX9_product_88 ?_
      refine nq_sub (lv' := [(0, .ref (nq_ad E 0)), (1, .int (0 : Int32))]) [3, 0] rfl ?_
      exact hc ((0 : Int32), M13) (nq_sE h).symm
    · rw [if_neg c16] at h
      refine nq_iload_n hX rfl 1 rfl dX9_product_72 ?_
      refine nq_bipush hX (v := 47) (by decide) dX9_product_73 ?_
      refine nq_icmp_ne hX (tgt := 84) (by decide) dX9_product_75 (fun c17 => ?_) (fun c17 => ?_)
      · rw [if_pos c17] at h
        refine nq_iload_n hX rfl 3 rfl dX9_product_78 ?_
        refine nq_iload_n hX rfl 0 rfl dX9_product_79 ?_
        obtain ⟨v18, e18, hn18, h⟩ := nq_ifE h
        refine nq_idiv hX hn18 e18 dX9_product_80 ?_
        refine nq_goto hX (tgt := 87) (by decide) dX9_product_81 ?_
        refine nq_istore_n hX (lv' := [(1, .int v18), (3, .int v12), (2, .int v8), (0, .ref (nq_ad E 0))]) rfl (by decide) rfl rfl dX9_product_87 ?_
        refine nq_goto hX (tgt := 5) (by decide) dX9_product_88 ?_
        refine nq_sub (lv' := [(0, .ref (nq_ad E 0)), (1, .int v18)]) [3, 0] rfl ?_
        exact hc (v18, M13) (nq_sE h).symm
      · rw [if_neg c17] at h
        refine nq_iload_n hX rfl 3 rfl dX9_product_84 ?_
        refine nq_iload_n hX rfl 0 rfl dX9_product_85 ?_
        obtain ⟨v19, e19, hn19, h⟩ := nq_ifE h
        refine nq_irem hX hn19 e19 dX9_product_86 ?_
        refine nq_istore_n hX (lv' := [(1, .int v19), (3, .int v12), (2, .int v8), (0, .ref (nq_ad E 0))]) rfl (by decide) rfl rfl dX9_product_87 ?_
        refine nq_goto hX (tgt := 5) (by decide) dX9_product_88 ?_
        refine nq_sub (lv' := [(0, .ref (nq_ad E 0)), (1, .int v19)]) [3, 0] rfl ?_
        exact hc (v19, M13) (nq_sE h).symm
def fX9_product_B5 (g_unit : Mem → Option (Int32 × Mem)) (x1 : Int32) (M : Mem) : Option ((Int32 × Mem) ⊕ (Int32 × Mem)) :=
  (fX9_here  M).bind fun v5 =>
  if v5 = (42 : Int32) then
  (fX9_product_L32_5 g_unit x1 M)
  else
  ((fX9_here  M).bind fun v21 =>
  if v21 = (47 : Int32) then
  (fX9_product_L32_5 g_unit x1 M)
  else
  ((fX9_here  M).bind fun v24 =>
  if v24 = (37 : Int32) then
  (fX9_product_L32_5 g_unit x1 M)
  else
  (some (.inr (x1, M)))))
set_option maxHeartbeats 4000000 in
theorem mX9_product_B5 {X : Cx} {E : Ev} {l : Launch} {K : List Sh} {n : Nat} {g_unit : Mem → Option (Int32 × Mem)} {x1 : Int32} {M : Mem} (hL : nq_atModel E K) (h_unit : ∀ {M : Mem} {r : Int32} {M' : Mem} (hL : nq_atModel E K), g_unit M = some (r, M') → nq_MA l E yX9_unit wsX9_unit (nq_rm n) [.ref (nq_ad E 0)] K M (some (.int r)) K M') (hn : 2 ≤ n) (hX : nq_OK X E l (nq_rm (n + 1)) cX9_product 4 RX9 wsX9_product) {x : (Int32 × Mem) ⊕ (Int32 × Mem)} (hc : ∀ s' : Int32 × Mem, x = .inl s' → nq_G X E 4 5 [(0, .ref (nq_ad E 0)), (1, .int s'.1)] [] K s'.2) (he : ∀ s' : Int32 × Mem, x = .inr s' → nq_G X E 4 91 [(1, .int s'.1)] [] K s'.2) (h : fX9_product_B5 g_unit x1 M = some x) : nq_G X E 4 5 [(0, .ref (nq_ad E 0)), (1, .int x1)] [] K M := by
  unfold fX9_product_B5 at h
  refine nq_aload_n hX rfl 0 rfl dX9_product_5 ?_
  obtain ⟨v5, hc4, h⟩ := nq_bE h
  refine nq_callVi hX (tX9_here hL hc4) gX9_product_X9_here rfl rfl dsX9_here (nq_room (by decide) (by omega)) (nq_Model_0 hL) rfl rfl (Nat.le_of_ble_eq_true rfl) dX9_product_6 ?_
  refine nq_bipush hX (v := 42) (by decide) dX9_product_9 ?_
  refine nq_icmp_eq hX (tgt := 32) (by decide) dX9_product_11 (fun c6 => ?_) (fun c6 => ?_)
  · rw [if_pos c6] at h
    exact mX9_product_L32_5 hL h_unit hn hX hc he h
  · rw [if_neg c6] at h
    refine nq_aload_n hX rfl 0 rfl dX9_product_14 ?_
    obtain ⟨v21, hc20, h⟩ := nq_bE h
    refine nq_callVi hX (tX9_here hL hc20) gX9_product_X9_here rfl rfl dsX9_here (nq_room (by decide) (by omega)) (nq_Model_0 hL) rfl rfl (Nat.le_of_ble_eq_true rfl) dX9_product_15 ?_
    refine nq_bipush hX (v := 47) (by decide) dX9_product_18 ?_
    refine nq_icmp_eq hX (tgt := 32) (by decide) dX9_product_20 (fun c22 => ?_) (fun c22 => ?_)
    · rw [if_pos c22] at h
      exact mX9_product_L32_5 hL h_unit hn hX hc he h
    · rw [if_neg c22] at h
      refine nq_aload_n hX rfl 0 rfl dX9_product_23 ?_
      obtain ⟨v24, hc23, h⟩ := nq_bE h
      refine nq_callVi hX (tX9_here hL hc23) gX9_product_X9_here rfl rfl dsX9_here (nq_room (by decide) (by omega)) (nq_Model_0 hL) rfl rfl (Nat.le_of_ble_eq_true rfl) dX9_product_24 ?_
      refine nq_bipush hX (v := 37) (by decide) dX9_product_27 ?_
      refine nq_icmp_ne hX (tgt := 91) (by decide) dX9_product_29 (fun c25 => ?_) (fun c25 => ?_)
      · rw [if_pos c25] at h
        exact mX9_product_L32_5 hL h_unit hn hX hc he h
      · rw [if_neg c25] at h
        refine nq_sub (lv' := [(1, .int x1)]) [1] rfl ?_
        exact he (x1, M) (nq_sE h).symm
def fX9_product_L91 (g_unit : Mem → Option (Int32 × Mem)) (x1 : Int32) (M : Mem) : Option (Int32 × Mem) :=
  some (x1, M)
set_option maxHeartbeats 4000000 in
theorem mX9_product_L91 {X : Cx} {E : Ev} {l : Launch} {K : List Sh} {n : Nat} {g_unit : Mem → Option (Int32 × Mem)} {x1 : Int32} {M : Mem} {r : Int32} {M' : Mem} (hL : nq_atModel E K) (h_unit : ∀ {M : Mem} {r : Int32} {M' : Mem} (hL : nq_atModel E K), g_unit M = some (r, M') → nq_MA l E yX9_unit wsX9_unit (nq_rm n) [.ref (nq_ad E 0)] K M (some (.int r)) K M') (hn : 2 ≤ n) (hX : nq_OK X E l (nq_rm (n + 1)) cX9_product 4 RX9 wsX9_product) (hr : nq_RT X E (some .int) (some (.int r)) K M') (h : fX9_product_L91 g_unit x1 M = some (r, M')) : nq_G X E 4 91 [(1, .int x1)] [] K M := by
  unfold fX9_product_L91 at h
  refine nq_iload_n hX rfl 0 rfl dX9_product_91 ?_
  obtain ⟨rfl, rfl⟩ := nq_sE2 h; exact nq_iret hX hr dX9_product_92
def fX9_product_L5 (g_unit : Mem → Option (Int32 × Mem)) (x1 : Int32) (M : Mem) : Option (Int32 × Mem) :=
  (nq_lp (fun s : Int32 × Mem => fX9_product_B5 g_unit s.1 s.2) nq_fuel (x1, M)).bind (fun e => fX9_product_L91 g_unit e.1 e.2)
set_option maxHeartbeats 4000000 in
theorem mX9_product_L5 {X : Cx} {E : Ev} {l : Launch} {K : List Sh} {n : Nat} {g_unit : Mem → Option (Int32 × Mem)} {x1 : Int32} {M : Mem} {r : Int32} {M' : Mem} (hL : nq_atModel E K) (h_unit : ∀ {M : Mem} {r : Int32} {M' : Mem} (hL : nq_atModel E K), g_unit M = some (r, M') → nq_MA l E yX9_unit wsX9_unit (nq_rm n) [.ref (nq_ad E 0)] K M (some (.int r)) K M') (hn : 2 ≤ n) (hX : nq_OK X E l (nq_rm (n + 1)) cX9_product 4 RX9 wsX9_product) (hr : nq_RT X E (some .int) (some (.int r)) K M') (h : fX9_product_L5 g_unit x1 M = some (r, M')) : nq_G X E 4 5 [(0, .ref (nq_ad E 0)), (1, .int x1)] [] K M := by
  unfold fX9_product_L5 at h
  obtain ⟨e, h1, h⟩ := nq_bE h
  have key : ∀ (ex : Int32 × Mem), nq_lp (fun s : Int32 × Mem => fX9_product_B5 g_unit s.1 s.2) nq_fuel (x1, M) = some ex → (∀ e, ex = e → nq_G X E 4 91 [(1, .int e.1)] [] K e.2) → nq_G X E 4 5 [(0, .ref (nq_ad E 0)), (1, .int ((x1, M).1))] [] K (x1, M).2 := by
    intro ex h1 hE
    refine nq_lpE (P := fun s : Int32 × Mem => nq_G X E 4 5 [(0, .ref (nq_ad E 0)), (1, .int s.1)] [] K s.2) (r := ex) ?_ nq_fuel (x1, M) h1
    intro s xx hx1 hc1 he1
    exact mX9_product_B5 hL h_unit hn hX hc1 (fun e q => hE e (he1 _ q).symm) hx1
  refine key e h1 (fun e q => ?_)
  subst q
  exact mX9_product_L91 hL h_unit hn hX hr h
def fX9_product (g_unit : Mem → Option (Int32 × Mem)) (M : Mem) : Option (Int32 × Mem) :=
  nq_b2 (g_unit  M) fun v2 M3 =>
  fX9_product_L5 g_unit v2 M3
set_option maxHeartbeats 4000000 in
theorem mX9_product {X : Cx} {E : Ev} {l : Launch} {K : List Sh} {n : Nat} {g_unit : Mem → Option (Int32 × Mem)} {M : Mem} {r : Int32} {M' : Mem} (hL : nq_atModel E K) (h_unit : ∀ {M : Mem} {r : Int32} {M' : Mem} (hL : nq_atModel E K), g_unit M = some (r, M') → nq_MA l E yX9_unit wsX9_unit (nq_rm n) [.ref (nq_ad E 0)] K M (some (.int r)) K M') (hn : 2 ≤ n) (hX : nq_OK X E l (nq_rm (n + 1)) cX9_product 4 RX9 wsX9_product) (hr : nq_RT X E (some .int) (some (.int r)) K M') (h : fX9_product g_unit M = some (r, M')) : nq_G X E 4 0 [(0, .ref (nq_ad E 0))] [] K M := by
  unfold fX9_product at h
  refine nq_aload_n hX rfl 0 rfl dX9_product_0 ?_
  obtain ⟨v2, M3, hc1, h⟩ := nq_b2E h
  refine nq_callVi hX (h_unit hL hc1) gX9_product_X9_unit rfl rfl dsX9_unit (nq_room (by decide) (by omega)) (nq_Model_0 hL) rfl rfl (Nat.le_of_ble_eq_true rfl) dX9_product_1 ?_
  refine nq_istore_n hX (lv' := [(1, .int v2), (0, .ref (nq_ad E 0))]) rfl (by decide) rfl rfl dX9_product_4 ?_
  refine nq_sub (lv' := [(0, .ref (nq_ad E 0)), (1, .int v2)]) [1, 0] rfl ?_
  exact mX9_product_L5 hL h_unit hn hX hr h
theorem tX9_product {l : Launch} {E : Ev} {K : List Sh} {n : Nat} {g_unit : Mem → Option (Int32 × Mem)} {M : Mem} {r : Int32} {M' : Mem} (hL : nq_atModel E K) (h_unit : ∀ {M : Mem} {r : Int32} {M' : Mem} (hL : nq_atModel E K), g_unit M = some (r, M') → nq_MA l E yX9_unit wsX9_unit (nq_rm n) [.ref (nq_ad E 0)] K M (some (.int r)) K M') (hn : 2 ≤ n) (h : fX9_product g_unit M = some (r, M')) : nq_MA l E yX9_product wsX9_product (nq_rm (n + 1)) [.ref (nq_ad E 0)] K M (some (.int r)) K M' :=
  nq_met (own := RX9) (cc := cX9_product) (maxL := 4) (ret := (some .int)) (by decide) rfl rfl (Nat.le_of_ble_eq_true rfl) (fun X hX hr => mX9_product hL h_unit hn hX hr h)

theorem inX9_unit_9 : ∀ w ∈ u_ws RX9 TX9 23, w ∈ wsX9_unit := by
  intro w h; unfold wsX9_unit; simp only [List.mem_cons, List.mem_append]; simp only [h, true_or, or_true]
theorem lkX9_unit_218 : Cond.fieldLink RX9 218 (TX9 13).1 (TX9 13).2.1 (TX9 13).2.2.1 ∈ wsX9_unit := by decide +kernel
theorem lkX9_unit_180 : Cond.fieldLink RX9 180 (TX9 10).1 (TX9 10).2.1 (TX9 10).2.2.1 ∈ wsX9_unit := by decide +kernel
theorem mmX9_unit_c230 : Cond.constantLong RX9 230 (48) ∈ wsX9_unit := by decide +kernel
theorem mmX9_unit_c232 : Cond.constantLong RX9 232 (57) ∈ wsX9_unit := by decide +kernel
theorem lkX9_unit_35 : Cond.fieldLink RX9 35 (TX9 15).1 (TX9 15).2.1 (TX9 15).2.2.1 ∈ wsX9_unit := by decide +kernel
def fX9_unit_L88 (g_either : Mem → Option (Int32 × Mem)) (g_unit : Mem → Option (Int32 × Mem)) (x1 : Int32) (x2 : Int32) (M : Mem) : Option (Int32 × Mem) :=
  nq_lt (M 0 13) fun v25 =>
  nq_lt (nq_wr M 0 13 (v25 - (1 : Int32))) fun M26 =>
  if x1 = (40 : Int32) then
  (some (x2, M26))
  else
  (if x2 = 0 then
  (some ((1 : Int32), M26))
  else
  (some ((0 : Int32), M26)))
set_option maxHeartbeats 4000000 in
theorem mX9_unit_L88 {X : Cx} {E : Ev} {l : Launch} {K : List Sh} {n : Nat} {g_either : Mem → Option (Int32 × Mem)} {g_unit : Mem → Option (Int32 × Mem)} {x1 : Int32} {x2 : Int32} {M : Mem} {r : Int32} {M' : Mem} (hL : nq_atModel E K) (h_either : ∀ {M : Mem} {r : Int32} {M' : Mem} (hL : nq_atModel E K), g_either M = some (r, M') → nq_MA l E yX9_either wsX9_either (nq_rm n) [.ref (nq_ad E 0)] K M (some (.int r)) K M') (h_unit : ∀ {M : Mem} {r : Int32} {M' : Mem} (hL : nq_atModel E K), g_unit M = some (r, M') → nq_MA l E yX9_unit wsX9_unit (nq_rm n) [.ref (nq_ad E 0)] K M (some (.int r)) K M') (hn : 2 ≤ n) (hX : nq_OK X E l (nq_rm (n + 1)) cX9_unit 5 RX9 wsX9_unit) (hr : nq_RT X E (some .int) (some (.int r)) K M') (h : fX9_unit_L88 g_either g_unit x1 x2 M = some (r, M')) : nq_G X E 5 88 [(0, .ref (nq_ad E 0)), (1, .int x1), (2, .int x2)] [] K M := by
  unfold fX9_unit_L88 at h
  refine nq_aload_n hX rfl 0 rfl dX9_unit_88 ?_
  refine nq_dup hX rfl dX9_unit_89 ?_
  obtain ⟨v25, e25, h⟩ := nq_ltE h
  refine nq_geti hX inX9_unit_9 (nq_Model_0 hL) rfl 13 (by decide) lkX9_unit_218 rfl e25 dX9_unit_90 ?_
  refine nq_iconst hX (v := 1) (by decide) dX9_unit_93 ?_
  refine nq_isub hX dX9_unit_94 ?_
  obtain ⟨M26, eM26, h⟩ := nq_ltE h
  refine nq_puti hX inX9_unit_9 tyX9 tyX9_ok nmX9 (nq_Model_0 hL) rfl 13 (by decide) lkX9_unit_218 rfl rfl rfl rfl rfl eM26 dX9_unit_95 ?_
  refine nq_iload_n hX rfl 1 rfl dX9_unit_98 ?_
  refine nq_bipush hX (v := 40) (by decide) dX9_unit_99 ?_
  refine nq_icmp_ne hX (tgt := 108) (by decide) dX9_unit_101 (fun c27 => ?_) (fun c27 => ?_)
  · rw [if_pos c27] at h
    refine nq_iload_n hX rfl 2 rfl dX9_unit_104 ?_
    refine nq_goto hX (tgt := 117) (by decide) dX9_unit_105 ?_
    obtain ⟨rfl, rfl⟩ := nq_sE2 h; exact nq_iret hX hr dX9_unit_117
  · rw [if_neg c27] at h
    refine nq_iload_n hX rfl 2 rfl dX9_unit_108 ?_
    refine nq_if_ne hX (tgt := 116) (by decide) dX9_unit_109 (fun c28 => ?_) (fun c28 => ?_)
    · rw [if_pos c28] at h
      refine nq_iconst hX (v := 1) (by decide) dX9_unit_112 ?_
      refine nq_goto hX (tgt := 117) (by decide) dX9_unit_113 ?_
      obtain ⟨rfl, rfl⟩ := nq_sE2 h; exact nq_iret hX hr dX9_unit_117
    · rw [if_neg c28] at h
      refine nq_iconst hX (v := 0) (by decide) dX9_unit_116 ?_
      obtain ⟨rfl, rfl⟩ := nq_sE2 h; exact nq_iret hX hr dX9_unit_117
def fX9_unit_L67 (g_either : Mem → Option (Int32 × Mem)) (g_unit : Mem → Option (Int32 × Mem)) (x1 : Int32) (s0 : Int32) (M : Mem) : Option (Int32 × Mem) :=
  if x1 = (40 : Int32) then
  (nq_b2 (fX9_takes (41 : Int32) M) fun v19 M20 =>
  if v19 = 0 then
  (nq_b2 (fX9_wrong  M20) fun v23 M24 =>
  some (v23, M24))
  else
  (fX9_unit_L88 g_either g_unit x1 s0 M20))
  else
  (fX9_unit_L88 g_either g_unit x1 s0 M)
set_option maxHeartbeats 4000000 in
theorem mX9_unit_L67 {X : Cx} {E : Ev} {l : Launch} {K : List Sh} {n : Nat} {g_either : Mem → Option (Int32 × Mem)} {g_unit : Mem → Option (Int32 × Mem)} {x1 : Int32} {s0 : Int32} {M : Mem} {r : Int32} {M' : Mem} (hL : nq_atModel E K) (h_either : ∀ {M : Mem} {r : Int32} {M' : Mem} (hL : nq_atModel E K), g_either M = some (r, M') → nq_MA l E yX9_either wsX9_either (nq_rm n) [.ref (nq_ad E 0)] K M (some (.int r)) K M') (h_unit : ∀ {M : Mem} {r : Int32} {M' : Mem} (hL : nq_atModel E K), g_unit M = some (r, M') → nq_MA l E yX9_unit wsX9_unit (nq_rm n) [.ref (nq_ad E 0)] K M (some (.int r)) K M') (hn : 2 ≤ n) (hX : nq_OK X E l (nq_rm (n + 1)) cX9_unit 5 RX9 wsX9_unit) (hr : nq_RT X E (some .int) (some (.int r)) K M') (h : fX9_unit_L67 g_either g_unit x1 s0 M = some (r, M')) : nq_G X E 5 67 [(0, .ref (nq_ad E 0)), (1, .int x1)] [.int s0] K M := by
  unfold fX9_unit_L67 at h
  refine nq_istore_n hX (lv' := [(2, .int s0), (0, .ref (nq_ad E 0)), (1, .int x1)]) rfl (by decide) rfl rfl dX9_unit_67 ?_
  refine nq_iload_n hX rfl 2 rfl dX9_unit_68 ?_
  refine nq_bipush hX (v := 40) (by decide) dX9_unit_69 ?_
  refine nq_icmp_ne hX (tgt := 88) (by decide) dX9_unit_71 (fun c17 => ?_) (fun c17 => ?_)
  · rw [if_pos c17] at h
    refine nq_aload_n hX rfl 1 rfl dX9_unit_74 ?_
    refine nq_bipush hX (v := 41) (by decide) dX9_unit_75 ?_
    obtain ⟨v19, M20, hc18, h⟩ := nq_b2E h
    refine nq_callVi hX (tX9_takes hL hc18) gX9_unit_X9_takes rfl rfl dsX9_takes (nq_room (by decide) (by omega)) (nq_Model_0 hL) rfl rfl (Nat.le_of_ble_eq_true rfl) dX9_unit_77 ?_
    refine nq_if_ne hX (tgt := 88) (by decide) dX9_unit_80 (fun c21 => ?_) (fun c21 => ?_)
    · rw [if_pos c21] at h
      refine nq_aload_n hX rfl 1 rfl dX9_unit_83 ?_
      obtain ⟨v23, M24, hc22, h⟩ := nq_b2E h
      refine nq_callVi hX (tX9_wrong hL hc22) gX9_unit_X9_wrong rfl rfl dsX9_wrong (nq_room (by decide) (by omega)) (nq_Model_0 hL) rfl rfl (Nat.le_of_ble_eq_true rfl) dX9_unit_84 ?_
      obtain ⟨rfl, rfl⟩ := nq_sE2 h; exact nq_iret hX hr dX9_unit_87
    · rw [if_neg c21] at h
      refine nq_sub (lv' := [(0, .ref (nq_ad E 0)), (1, .int x1), (2, .int s0)]) [1, 2, 0] rfl ?_
      exact mX9_unit_L88 hL h_either h_unit hn hX hr h
  · rw [if_neg c17] at h
    refine nq_sub (lv' := [(0, .ref (nq_ad E 0)), (1, .int x1), (2, .int s0)]) [1, 2, 0] rfl ?_
    exact mX9_unit_L88 hL h_either h_unit hn hX hr h
def fX9_unit_L17 (g_either : Mem → Option (Int32 × Mem)) (g_unit : Mem → Option (Int32 × Mem)) (x1 : Int32) (M : Mem) : Option (Int32 × Mem) :=
  nq_lt (M 0 13) fun v4 =>
  if v4 = (5 : Int32) then
  (nq_b2 (fX9_wrong  M) fun v7 M8 =>
  some (v7, M8))
  else
  (nq_lt (M 0 13) fun v9 =>
  nq_lt (nq_wr M 0 13 (v9 + (1 : Int32))) fun M10 =>
  nq_lt (M10 0 10) fun v11 =>
  nq_lt (nq_wr M10 0 10 (v11 + (1 : Int32))) fun M12 =>
  if x1 = (40 : Int32) then
  (nq_b2 (g_either  M12) fun v15 M16 =>
  fX9_unit_L67 g_either g_unit x1 v15 M16)
  else
  (nq_b2 (g_unit  M12) fun v30 M31 =>
  fX9_unit_L67 g_either g_unit x1 v30 M31))
set_option maxHeartbeats 4000000 in
theorem mX9_unit_L17 {X : Cx} {E : Ev} {l : Launch} {K : List Sh} {n : Nat} {g_either : Mem → Option (Int32 × Mem)} {g_unit : Mem → Option (Int32 × Mem)} {x1 : Int32} {M : Mem} {r : Int32} {M' : Mem} (hL : nq_atModel E K) (h_either : ∀ {M : Mem} {r : Int32} {M' : Mem} (hL : nq_atModel E K), g_either M = some (r, M') → nq_MA l E yX9_either wsX9_either (nq_rm n) [.ref (nq_ad E 0)] K M (some (.int r)) K M') (h_unit : ∀ {M : Mem} {r : Int32} {M' : Mem} (hL : nq_atModel E K), g_unit M = some (r, M') → nq_MA l E yX9_unit wsX9_unit (nq_rm n) [.ref (nq_ad E 0)] K M (some (.int r)) K M') (hn : 2 ≤ n) (hX : nq_OK X E l (nq_rm (n + 1)) cX9_unit 5 RX9 wsX9_unit) (hr : nq_RT X E (some .int) (some (.int r)) K M') (h : fX9_unit_L17 g_either g_unit x1 M = some (r, M')) : nq_G X E 5 17 [(0, .ref (nq_ad E 0)), (1, .int x1)] [] K M := by
  unfold fX9_unit_L17 at h
  refine nq_aload_n hX rfl 0 rfl dX9_unit_17 ?_
  obtain ⟨v4, e4, h⟩ := nq_ltE h
  refine nq_geti hX inX9_unit_9 (nq_Model_0 hL) rfl 13 (by decide) lkX9_unit_218 rfl e4 dX9_unit_18 ?_
  refine nq_iconst hX (v := 5) (by decide) dX9_unit_21 ?_
  refine nq_icmp_ne hX (tgt := 30) (by decide) dX9_unit_22 (fun c5 => ?_) (fun c5 => ?_)
  · rw [if_pos c5] at h
    refine nq_aload_n hX rfl 0 rfl dX9_unit_25 ?_
    obtain ⟨v7, M8, hc6, h⟩ := nq_b2E h
    refine nq_callVi hX (tX9_wrong hL hc6) gX9_unit_X9_wrong rfl rfl dsX9_wrong (nq_room (by decide) (by omega)) (nq_Model_0 hL) rfl rfl (Nat.le_of_ble_eq_true rfl) dX9_unit_26 ?_
    obtain ⟨rfl, rfl⟩ := nq_sE2 h; exact nq_iret hX hr dX9_unit_29
  · rw [if_neg c5] at h
    refine nq_aload_n hX rfl 0 rfl dX9_unit_30 ?_
    refine nq_dup hX rfl dX9_unit_31 ?_
    obtain ⟨v9, e9, h⟩ := nq_ltE h
    refine nq_geti hX inX9_unit_9 (nq_Model_0 hL) rfl 13 (by decide) lkX9_unit_218 rfl e9 dX9_unit_32 ?_
    refine nq_iconst hX (v := 1) (by decide) dX9_unit_35 ?_
    refine nq_iadd hX dX9_unit_36 ?_
    obtain ⟨M10, eM10, h⟩ := nq_ltE h
    refine nq_puti hX inX9_unit_9 tyX9 tyX9_ok nmX9 (nq_Model_0 hL) rfl 13 (by decide) lkX9_unit_218 rfl rfl rfl rfl rfl eM10 dX9_unit_37 ?_
    refine nq_aload_n hX rfl 0 rfl dX9_unit_40 ?_
    refine nq_dup hX rfl dX9_unit_41 ?_
    obtain ⟨v11, e11, h⟩ := nq_ltE h
    refine nq_geti hX inX9_unit_9 (nq_Model_0 hL) rfl 10 (by decide) lkX9_unit_180 rfl e11 dX9_unit_42 ?_
    refine nq_iconst hX (v := 1) (by decide) dX9_unit_45 ?_
    refine nq_iadd hX dX9_unit_46 ?_
    obtain ⟨M12, eM12, h⟩ := nq_ltE h
    refine nq_puti hX inX9_unit_9 tyX9 tyX9_ok nmX9 (nq_Model_0 hL) rfl 10 (by decide) lkX9_unit_180 rfl rfl rfl rfl rfl eM12 dX9_unit_47 ?_
    refine nq_iload_n hX rfl 1 rfl dX9_unit_50 ?_
    refine nq_bipush hX (v := 40) (by decide) dX9_unit_51 ?_
    refine nq_icmp_ne hX (tgt := 63) (by decide) dX9_unit_53 (fun c13 => ?_) (fun c13 => ?_)
    · rw [if_pos c13] at h
      refine nq_aload_n hX rfl 0 rfl dX9_unit_56 ?_
      obtain ⟨v15, M16, hc14, h⟩ := nq_b2E h
      refine nq_callVi hX (h_either hL hc14) gX9_unit_X9_either rfl rfl dsX9_either (nq_room (by decide) (by omega)) (nq_Model_0 hL) rfl rfl (Nat.le_of_ble_eq_true rfl) dX9_unit_57 ?_
      refine nq_goto hX (tgt := 67) (by decide) dX9_unit_60 ?_
      exact mX9_unit_L67 hL h_either h_unit hn hX hr h
    · rw [if_neg c13] at h
      refine nq_aload_n hX rfl 0 rfl dX9_unit_63 ?_
      obtain ⟨v30, M31, hc29, h⟩ := nq_b2E h
      refine nq_callVi hX (h_unit hL hc29) gX9_unit_X9_unit rfl rfl dsX9_unit (nq_room (by decide) (by omega)) (nq_Model_0 hL) rfl rfl (Nat.le_of_ble_eq_true rfl) dX9_unit_64 ?_
      exact mX9_unit_L67 hL h_either h_unit hn hX hr h
def fX9_unit_B150 (g_either : Mem → Option (Int32 × Mem)) (g_unit : Mem → Option (Int32 × Mem)) (x3 : Int32) (x4 : Int32) (M : Mem) : Option ((Int32 × Int32 × Mem) ⊕ (Int32 × Int32 × Mem)) :=
  if (4 : Int32) ≤ x4 then
  (some (.inr (x3, x4, M)))
  else
  ((fX9_here  M).bind fun v38 =>
  (fX9_in v38.toInt64 (48 : Int64) (57 : Int64) M).bind fun v40 =>
  if v40 = 0 then
  (some (.inr (x3, x4, M)))
  else
  ((fX9_here  M).bind fun v43 =>
  nq_lt (((((10 : Int32) * x3) + v43) - (48 : Int32))) fun v44 =>
  nq_lt (M 0 10) fun v45 =>
  nq_lt (nq_wr M 0 10 (v45 + (1 : Int32))) fun M46 =>
  nq_lt (x4 + (1 : Int32)) fun v47 =>
  some (.inl (v44, v47, M46))))
set_option maxHeartbeats 4000000 in
theorem mX9_unit_B150 {X : Cx} {E : Ev} {l : Launch} {K : List Sh} {n : Nat} {g_either : Mem → Option (Int32 × Mem)} {g_unit : Mem → Option (Int32 × Mem)} {x3 : Int32} {x4 : Int32} {M : Mem} (hL : nq_atModel E K) (h_either : ∀ {M : Mem} {r : Int32} {M' : Mem} (hL : nq_atModel E K), g_either M = some (r, M') → nq_MA l E yX9_either wsX9_either (nq_rm n) [.ref (nq_ad E 0)] K M (some (.int r)) K M') (h_unit : ∀ {M : Mem} {r : Int32} {M' : Mem} (hL : nq_atModel E K), g_unit M = some (r, M') → nq_MA l E yX9_unit wsX9_unit (nq_rm n) [.ref (nq_ad E 0)] K M (some (.int r)) K M') (hn : 2 ≤ n) (hX : nq_OK X E l (nq_rm (n + 1)) cX9_unit 5 RX9 wsX9_unit) {x : (Int32 × Int32 × Mem) ⊕ (Int32 × Int32 × Mem)} (hc : ∀ s' : Int32 × Int32 × Mem, x = .inl s' → nq_G X E 5 150 [(0, .ref (nq_ad E 0)), (3, .int s'.1), (4, .int s'.2.1)] [] K s'.2.2) (he : ∀ s' : Int32 × Int32 × Mem, x = .inr s' → nq_G X E 5 202 [(0, .ref (nq_ad E 0)), (3, .int s'.1), (4, .int s'.2.1)] [] K s'.2.2) (h : fX9_unit_B150 g_either g_unit x3 x4 M = some x) : nq_G X E 5 150 [(0, .ref (nq_ad E 0)), (3, .int x3), (4, .int x4)] [] K M := by
  unfold fX9_unit_B150 at h
  refine nq_iload hX 2 rfl dX9_unit_150 ?_
  refine nq_iconst hX (v := 4) (by decide) dX9_unit_152 ?_
  refine nq_icmp_ge hX (tgt := 202) (by decide) dX9_unit_153 (fun c36 => ?_) (fun c36 => ?_)
  · rw [if_pos c36] at h
    exact he (x3, x4, M) (nq_sE h).symm
  · rw [if_neg c36] at h
    refine nq_aload_n hX rfl 0 rfl dX9_unit_156 ?_
    obtain ⟨v38, hc37, h⟩ := nq_bE h
    refine nq_callVi hX (tX9_here hL hc37) gX9_unit_X9_here rfl rfl dsX9_here (nq_room (by decide) (by omega)) (nq_Model_0 hL) rfl rfl (Nat.le_of_ble_eq_true rfl) dX9_unit_157 ?_
    refine nq_i2l hX dX9_unit_160 ?_
    refine nq_ldc2 hX (v := 48) mmX9_unit_c230 dX9_unit_161 ?_
    refine nq_ldc2 hX (v := 57) mmX9_unit_c232 dX9_unit_164 ?_
    obtain ⟨v40, hc39, h⟩ := nq_bE h
    refine nq_callSi hX (tX9_in  hc39) gX9_unit_X9_in rfl rfl dsX9_in (nq_room (by decide) (by omega)) rfl (Nat.le_of_ble_eq_true rfl) dX9_unit_167 ?_
    refine nq_if_eq hX (tgt := 202) (by decide) dX9_unit_170 (fun c41 => ?_) (fun c41 => ?_)
    · rw [if_pos c41] at h
      exact he (x3, x4, M) (nq_sE h).symm
    · rw [if_neg c41] at h
      refine nq_bipush hX (v := 10) (by decide) dX9_unit_173 ?_
      refine nq_iload_n hX rfl 1 rfl dX9_unit_175 ?_
      refine nq_imul hX dX9_unit_176 ?_
      refine nq_aload_n hX rfl 0 rfl dX9_unit_177 ?_
      obtain ⟨v43, hc42, h⟩ := nq_bE h
      refine nq_callVi hX (tX9_here hL hc42) gX9_unit_X9_here rfl rfl dsX9_here (nq_room (by decide) (by omega)) (nq_Model_0 hL) rfl rfl (Nat.le_of_ble_eq_true rfl) dX9_unit_178 ?_
      refine nq_iadd hX dX9_unit_181 ?_
      refine nq_bipush hX (v := 48) (by decide) dX9_unit_182 ?_
      refine nq_isub hX dX9_unit_184 ?_
      obtain ⟨v44, e44, h⟩ := nq_ltE h
      refine nq_istore_n hX (lv' := [(3, .int v44), (0, .ref (nq_ad E 0)), (4, .int x4)]) rfl (by decide) e44 rfl dX9_unit_185 ?_
      refine nq_aload_n hX rfl 1 rfl dX9_unit_186 ?_
      refine nq_dup hX rfl dX9_unit_187 ?_
      obtain ⟨v45, e45, h⟩ := nq_ltE h
      refine nq_geti hX inX9_unit_9 (nq_Model_0 hL) rfl 10 (by decide) lkX9_unit_180 rfl e45 dX9_unit_188 ?_
      refine nq_iconst hX (v := 1) (by decide) dX9_unit_191 ?_
      refine nq_iadd hX dX9_unit_192 ?_
      obtain ⟨M46, eM46, h⟩ := nq_ltE h
      refine nq_puti hX inX9_unit_9 tyX9 tyX9_ok nmX9 (nq_Model_0 hL) rfl 10 (by decide) lkX9_unit_180 rfl rfl rfl rfl rfl eM46 dX9_unit_193 ?_
      obtain ⟨v47, e47, h⟩ := nq_ltE h
      refine nq_iinc hX (lv' := [(4, .int v47), (3, .int v44), (0, .ref (nq_ad E 0))]) (j := 2) rfl (e47.trans rfl) (by decide) rfl dX9_unit_196 ?_
      refine nq_goto hX (tgt := 150) (by decide) dX9_unit_199 ?_
      refine nq_sub (lv' := [(0, .ref (nq_ad E 0)), (3, .int v44), (4, .int v47)]) [2, 1, 0] rfl ?_
      exact hc (v44, v47, M46) (nq_sE h).symm
def fX9_unit_L202 (g_either : Mem → Option (Int32 × Mem)) (g_unit : Mem → Option (Int32 × Mem)) (x3 : Int32) (x4 : Int32) (M : Mem) : Option (Int32 × Mem) :=
  if x4 = 0 then
  (nq_b2 (fX9_wrong  M) fun v50 M51 =>
  some (v50, M51))
  else
  (some (x3, M))
set_option maxHeartbeats 4000000 in
theorem mX9_unit_L202 {X : Cx} {E : Ev} {l : Launch} {K : List Sh} {n : Nat} {g_either : Mem → Option (Int32 × Mem)} {g_unit : Mem → Option (Int32 × Mem)} {x3 : Int32} {x4 : Int32} {M : Mem} {r : Int32} {M' : Mem} (hL : nq_atModel E K) (h_either : ∀ {M : Mem} {r : Int32} {M' : Mem} (hL : nq_atModel E K), g_either M = some (r, M') → nq_MA l E yX9_either wsX9_either (nq_rm n) [.ref (nq_ad E 0)] K M (some (.int r)) K M') (h_unit : ∀ {M : Mem} {r : Int32} {M' : Mem} (hL : nq_atModel E K), g_unit M = some (r, M') → nq_MA l E yX9_unit wsX9_unit (nq_rm n) [.ref (nq_ad E 0)] K M (some (.int r)) K M') (hn : 2 ≤ n) (hX : nq_OK X E l (nq_rm (n + 1)) cX9_unit 5 RX9 wsX9_unit) (hr : nq_RT X E (some .int) (some (.int r)) K M') (h : fX9_unit_L202 g_either g_unit x3 x4 M = some (r, M')) : nq_G X E 5 202 [(0, .ref (nq_ad E 0)), (3, .int x3), (4, .int x4)] [] K M := by
  unfold fX9_unit_L202 at h
  refine nq_iload hX 2 rfl dX9_unit_202 ?_
  refine nq_if_ne hX (tgt := 214) (by decide) dX9_unit_204 (fun c48 => ?_) (fun c48 => ?_)
  · rw [if_pos c48] at h
    refine nq_aload_n hX rfl 0 rfl dX9_unit_207 ?_
    obtain ⟨v50, M51, hc49, h⟩ := nq_b2E h
    refine nq_callVi hX (tX9_wrong hL hc49) gX9_unit_X9_wrong rfl rfl dsX9_wrong (nq_room (by decide) (by omega)) (nq_Model_0 hL) rfl rfl (Nat.le_of_ble_eq_true rfl) dX9_unit_208 ?_
    refine nq_goto hX (tgt := 215) (by decide) dX9_unit_211 ?_
    obtain ⟨rfl, rfl⟩ := nq_sE2 h; exact nq_iret hX hr dX9_unit_215
  · rw [if_neg c48] at h
    refine nq_iload_n hX rfl 1 rfl dX9_unit_214 ?_
    obtain ⟨rfl, rfl⟩ := nq_sE2 h; exact nq_iret hX hr dX9_unit_215
def fX9_unit_L150 (g_either : Mem → Option (Int32 × Mem)) (g_unit : Mem → Option (Int32 × Mem)) (x3 : Int32) (x4 : Int32) (M : Mem) : Option (Int32 × Mem) :=
  (nq_lp (fun s : Int32 × Int32 × Mem => fX9_unit_B150 g_either g_unit s.1 s.2.1 s.2.2) nq_fuel (x3, x4, M)).bind (fun e => fX9_unit_L202 g_either g_unit e.1 e.2.1 e.2.2)
set_option maxHeartbeats 4000000 in
theorem mX9_unit_L150 {X : Cx} {E : Ev} {l : Launch} {K : List Sh} {n : Nat} {g_either : Mem → Option (Int32 × Mem)} {g_unit : Mem → Option (Int32 × Mem)} {x3 : Int32} {x4 : Int32} {M : Mem} {r : Int32} {M' : Mem} (hL : nq_atModel E K) (h_either : ∀ {M : Mem} {r : Int32} {M' : Mem} (hL : nq_atModel E K), g_either M = some (r, M') → nq_MA l E yX9_either wsX9_either (nq_rm n) [.ref (nq_ad E 0)] K M (some (.int r)) K M') (h_unit : ∀ {M : Mem} {r : Int32} {M' : Mem} (hL : nq_atModel E K), g_unit M = some (r, M') → nq_MA l E yX9_unit wsX9_unit (nq_rm n) [.ref (nq_ad E 0)] K M (some (.int r)) K M') (hn : 2 ≤ n) (hX : nq_OK X E l (nq_rm (n + 1)) cX9_unit 5 RX9 wsX9_unit) (hr : nq_RT X E (some .int) (some (.int r)) K M') (h : fX9_unit_L150 g_either g_unit x3 x4 M = some (r, M')) : nq_G X E 5 150 [(0, .ref (nq_ad E 0)), (3, .int x3), (4, .int x4)] [] K M := by
  unfold fX9_unit_L150 at h
  obtain ⟨e, h1, h⟩ := nq_bE h
  have key : ∀ (ex : Int32 × Int32 × Mem), nq_lp (fun s : Int32 × Int32 × Mem => fX9_unit_B150 g_either g_unit s.1 s.2.1 s.2.2) nq_fuel (x3, x4, M) = some ex → (∀ e, ex = e → nq_G X E 5 202 [(0, .ref (nq_ad E 0)), (3, .int e.1), (4, .int e.2.1)] [] K e.2.2) → nq_G X E 5 150 [(0, .ref (nq_ad E 0)), (3, .int ((x3, x4, M).1)), (4, .int ((x3, x4, M).2.1))] [] K (x3, x4, M).2.2 := by
    intro ex h1 hE
    refine nq_lpE (P := fun s : Int32 × Int32 × Mem => nq_G X E 5 150 [(0, .ref (nq_ad E 0)), (3, .int s.1), (4, .int s.2.1)] [] K s.2.2) (r := ex) ?_ nq_fuel (x3, x4, M) h1
    intro s xx hx1 hc1 he1
    exact mX9_unit_B150 hL h_either h_unit hn hX hc1 (fun e q => hE e (he1 _ q).symm) hx1
  refine key e h1 (fun e q => ?_)
  subst q
  exact mX9_unit_L202 hL h_either h_unit hn hX hr h
def fX9_unit (g_either : Mem → Option (Int32 × Mem)) (g_unit : Mem → Option (Int32 × Mem)) (M : Mem) : Option (Int32 × Mem) :=
  (fX9_here  M).bind fun v2 =>
  if v2 = (33 : Int32) then
  (fX9_unit_L17 g_either g_unit v2 M)
  else
  (if v2 = (40 : Int32) then
  (fX9_unit_L17 g_either g_unit v2 M)
  else
  ((fX9_nameOf v2 M).bind fun v34 =>
  if v34 < 0 then
  (fX9_unit_L150 g_either g_unit (0 : Int32) (0 : Int32) M)
  else
  (nq_lt (M 0 10) fun v52 =>
  nq_lt (nq_wr M 0 10 (v52 + (1 : Int32))) fun M53 =>
  (nq_ag (M53 9) 5 v34).bind fun v54 =>
  some (v54, M53))))
set_option maxHeartbeats 4000000 in
theorem mX9_unit {X : Cx} {E : Ev} {l : Launch} {K : List Sh} {n : Nat} {g_either : Mem → Option (Int32 × Mem)} {g_unit : Mem → Option (Int32 × Mem)} {M : Mem} {r : Int32} {M' : Mem} (hL : nq_atModel E K) (h_either : ∀ {M : Mem} {r : Int32} {M' : Mem} (hL : nq_atModel E K), g_either M = some (r, M') → nq_MA l E yX9_either wsX9_either (nq_rm n) [.ref (nq_ad E 0)] K M (some (.int r)) K M') (h_unit : ∀ {M : Mem} {r : Int32} {M' : Mem} (hL : nq_atModel E K), g_unit M = some (r, M') → nq_MA l E yX9_unit wsX9_unit (nq_rm n) [.ref (nq_ad E 0)] K M (some (.int r)) K M') (hn : 2 ≤ n) (hX : nq_OK X E l (nq_rm (n + 1)) cX9_unit 5 RX9 wsX9_unit) (hr : nq_RT X E (some .int) (some (.int r)) K M') (h : fX9_unit g_either g_unit M = some (r, M')) : nq_G X E 5 0 [(0, .ref (nq_ad E 0))] [] K M := by
  unfold fX9_unit at h
  refine nq_aload_n hX rfl 0 rfl dX9_unit_0 ?_
  obtain ⟨v2, hc1, h⟩ := nq_bE h
  refine nq_callVi hX (tX9_here hL hc1) gX9_unit_X9_here rfl rfl dsX9_here (nq_room (by decide) (by omega)) (nq_Model_0 hL) rfl rfl (Nat.le_of_ble_eq_true rfl) dX9_unit_1 ?_
  refine nq_istore_n hX (lv' := [(1, .int v2), (0, .ref (nq_ad E 0))]) rfl (by decide) rfl rfl dX9_unit_4 ?_
  refine nq_iload_n hX rfl 0 rfl dX9_unit_5 ?_
  refine nq_bipush hX (v := 33) (by decide) dX9_unit_6 ?_
  refine nq_icmp_eq hX (tgt := 17) (by decide) dX9_unit_8 (fun c3 => ?_) (fun c3 => ?_)
  · rw [if_pos c3] at h
    refine nq_sub (lv' := [(0, .ref (nq_ad E 0)), (1, .int v2)]) [1, 0] rfl ?_
    exact mX9_unit_L17 hL h_either h_unit hn hX hr h
  · rw [if_neg c3] at h
    refine nq_iload_n hX rfl 0 rfl dX9_unit_11 ?_
    refine nq_bipush hX (v := 40) (by decide) dX9_unit_12 ?_
    refine nq_icmp_ne hX (tgt := 118) (by decide) dX9_unit_14 (fun c32 => ?_) (fun c32 => ?_)
    · rw [if_pos c32] at h
      refine nq_sub (lv' := [(0, .ref (nq_ad E 0)), (1, .int v2)]) [1, 0] rfl ?_
      exact mX9_unit_L17 hL h_either h_unit hn hX hr h
    · rw [if_neg c32] at h
      refine nq_aload_n hX rfl 1 rfl dX9_unit_118 ?_
      refine nq_iload_n hX rfl 0 rfl dX9_unit_119 ?_
      obtain ⟨v34, hc33, h⟩ := nq_bE h
      refine nq_callVi hX (tX9_nameOf hL hc33) gX9_unit_X9_nameOf rfl rfl dsX9_nameOf (nq_room (by decide) (by omega)) (nq_Model_0 hL) rfl rfl (Nat.le_of_ble_eq_true rfl) dX9_unit_120 ?_
      refine nq_istore_n hX (lv' := [(2, .int v34), (1, .int v2), (0, .ref (nq_ad E 0))]) rfl (by decide) rfl rfl dX9_unit_123 ?_
      refine nq_iload_n hX rfl 0 rfl dX9_unit_124 ?_
      refine nq_if_lt hX (tgt := 145) (by decide) dX9_unit_125 (fun c35 => ?_) (fun c35 => ?_)
      · rw [if_pos c35] at h
        refine nq_iconst hX (v := 0) (by decide) dX9_unit_145 ?_
        refine nq_istore_n hX (lv' := [(3, .int (0 : Int32)), (2, .int v34), (1, .int v2), (0, .ref (nq_ad E 0))]) rfl (by decide) rfl rfl dX9_unit_146 ?_
        refine nq_iconst hX (v := 0) (by decide) dX9_unit_147 ?_
        refine nq_istore hX (lv' := [(4, .int (0 : Int32)), (3, .int (0 : Int32)), (2, .int v34), (1, .int v2), (0, .ref (nq_ad E 0))]) (by decide) rfl rfl dX9_unit_148 ?_
        refine nq_sub (lv' := [(0, .ref (nq_ad E 0)), (3, .int (0 : Int32)), (4, .int (0 : Int32))]) [4, 1, 0] rfl ?_
        exact mX9_unit_L150 hL h_either h_unit hn hX hr h
      · rw [if_neg c35] at h
        refine nq_aload_n hX rfl 2 rfl dX9_unit_128 ?_
        refine nq_dup hX rfl dX9_unit_129 ?_
        obtain ⟨v52, e52, h⟩ := nq_ltE h
        refine nq_geti hX inX9_unit_9 (nq_Model_0 hL) rfl 10 (by decide) lkX9_unit_180 rfl e52 dX9_unit_130 ?_
        refine nq_iconst hX (v := 1) (by decide) dX9_unit_133 ?_
        refine nq_iadd hX dX9_unit_134 ?_
        obtain ⟨M53, eM53, h⟩ := nq_ltE h
        refine nq_puti hX inX9_unit_9 tyX9 tyX9_ok nmX9 (nq_Model_0 hL) rfl 10 (by decide) lkX9_unit_180 rfl rfl rfl rfl rfl eM53 dX9_unit_135 ?_
        refine nq_aload_n hX rfl 2 rfl dX9_unit_138 ?_
        refine nq_getr (v := .ref (nq_ad E 9)) hX inX9_unit_9 (nq_Model_0 hL) rfl 15 (by decide) lkX9_unit_35 _ rfl rfl dX9_unit_139 ?_
        refine nq_iload_n hX rfl 0 rfl dX9_unit_142 ?_
        obtain ⟨v54, e54, hi54, h⟩ := nq_agE h
        refine nq_iald hX (nq_Model_names hL) e54 hi54 dX9_unit_143 ?_
        obtain ⟨rfl, rfl⟩ := nq_sE2 h; exact nq_iret hX hr dX9_unit_144
theorem tX9_unit {l : Launch} {E : Ev} {K : List Sh} {n : Nat} {g_either : Mem → Option (Int32 × Mem)} {g_unit : Mem → Option (Int32 × Mem)} {M : Mem} {r : Int32} {M' : Mem} (hL : nq_atModel E K) (h_either : ∀ {M : Mem} {r : Int32} {M' : Mem} (hL : nq_atModel E K), g_either M = some (r, M') → nq_MA l E yX9_either wsX9_either (nq_rm n) [.ref (nq_ad E 0)] K M (some (.int r)) K M') (h_unit : ∀ {M : Mem} {r : Int32} {M' : Mem} (hL : nq_atModel E K), g_unit M = some (r, M') → nq_MA l E yX9_unit wsX9_unit (nq_rm n) [.ref (nq_ad E 0)] K M (some (.int r)) K M') (hn : 2 ≤ n) (h : fX9_unit g_either g_unit M = some (r, M')) : nq_MA l E yX9_unit wsX9_unit (nq_rm (n + 1)) [.ref (nq_ad E 0)] K M (some (.int r)) K M' :=
  nq_met (own := RX9) (cc := cX9_unit) (maxL := 5) (ret := (some .int)) (by decide) rfl rfl (Nat.le_of_ble_eq_true rfl) (fun X hX hr => mX9_unit hL h_either h_unit hn hX hr h)

def gEi_step (g : (Mem → Option (Int32 × Mem)) × (Mem → Option (Int32 × Mem)) × (Mem → Option (Int32 × Mem)) × (Mem → Option (Int32 × Mem)) × (Mem → Option (Int32 × Mem)) × (Mem → Option (Int32 × Mem))) : (Mem → Option (Int32 × Mem)) × (Mem → Option (Int32 × Mem)) × (Mem → Option (Int32 × Mem)) × (Mem → Option (Int32 × Mem)) × (Mem → Option (Int32 × Mem)) × (Mem → Option (Int32 × Mem)) := ((fX9_either g.2.1), (fX9_both g.2.2.1), (fX9_compared g.2.2.2.1), (fX9_sum g.2.2.2.2.1), (fX9_product g.2.2.2.2.2), (fX9_unit g.1 g.2.2.2.2.2))
def gEi_all : Nat → (Mem → Option (Int32 × Mem)) × (Mem → Option (Int32 × Mem)) × (Mem → Option (Int32 × Mem)) × (Mem → Option (Int32 × Mem)) × (Mem → Option (Int32 × Mem)) × (Mem → Option (Int32 × Mem))
  | 0 => (fun _ => none, fun _ => none, fun _ => none, fun _ => none, fun _ => none, fun _ => none)
  | d + 1 => gEi_step (gEi_all d)
theorem gEi_ok {l : Launch} {E : Ev} {K : List Sh} : ∀ d : Nat, (∀ {M : Mem} {r : Int32} {M' : Mem} (hL : nq_atModel E K), ((gEi_all d).1) M = some (r, M') → nq_MA l E yX9_either wsX9_either (nq_rm (2 + d)) [.ref (nq_ad E 0)] K M (some (.int r)) K M') ∧
  (∀ {M : Mem} {r : Int32} {M' : Mem} (hL : nq_atModel E K), ((gEi_all d).2.1) M = some (r, M') → nq_MA l E yX9_both wsX9_both (nq_rm (2 + d)) [.ref (nq_ad E 0)] K M (some (.int r)) K M') ∧
  (∀ {M : Mem} {r : Int32} {M' : Mem} (hL : nq_atModel E K), ((gEi_all d).2.2.1) M = some (r, M') → nq_MA l E yX9_compared wsX9_compared (nq_rm (2 + d)) [.ref (nq_ad E 0)] K M (some (.int r)) K M') ∧
  (∀ {M : Mem} {r : Int32} {M' : Mem} (hL : nq_atModel E K), ((gEi_all d).2.2.2.1) M = some (r, M') → nq_MA l E yX9_sum wsX9_sum (nq_rm (2 + d)) [.ref (nq_ad E 0)] K M (some (.int r)) K M') ∧
  (∀ {M : Mem} {r : Int32} {M' : Mem} (hL : nq_atModel E K), ((gEi_all d).2.2.2.2.1) M = some (r, M') → nq_MA l E yX9_product wsX9_product (nq_rm (2 + d)) [.ref (nq_ad E 0)] K M (some (.int r)) K M') ∧
  (∀ {M : Mem} {r : Int32} {M' : Mem} (hL : nq_atModel E K), ((gEi_all d).2.2.2.2.2) M = some (r, M') → nq_MA l E yX9_unit wsX9_unit (nq_rm (2 + d)) [.ref (nq_ad E 0)] K M (some (.int r)) K M') := by
  intro d
  induction d with
  | zero => exact ⟨(by intros; rename_i h; cases h), (by intros; rename_i h; cases h), (by intros; rename_i h; cases h), (by intros; rename_i h; cases h), (by intros; rename_i h; cases h), (by intros; rename_i h; cases h)⟩
  | succ d ih =>
    obtain ⟨i0, i1, i2, i3, i4, i5⟩ := ih
    exact ⟨(by
      intro _ _ _ h0 h
      exact tX9_either (n := 2 + d) h0 i1 (by omega) h),
     (by
      intro _ _ _ h0 h
      exact tX9_both (n := 2 + d) h0 i2 (by omega) h),
     (by
      intro _ _ _ h0 h
      exact tX9_compared (n := 2 + d) h0 i3 (by omega) h),
     (by
      intro _ _ _ h0 h
      exact tX9_sum (n := 2 + d) h0 i4 (by omega) h),
     (by
      intro _ _ _ h0 h
      exact tX9_product (n := 2 + d) h0 i5 (by omega) h),
     (by
      intro _ _ _ h0 h
      exact tX9_unit (n := 2 + d) h0 i0 i5 (by omega) h)⟩
def fX9_eitherC : Mem → Option (Int32 × Mem) := (gEi_all 100).1
theorem tX9_eitherC {l : Launch} {E : Ev} {K : List Sh} {M : Mem} {r : Int32} {M' : Mem} (hL : nq_atModel E K) (h : fX9_eitherC M = some (r, M')) : nq_MA l E yX9_either wsX9_either (nq_rm 102) [.ref (nq_ad E 0)] K M (some (.int r)) K M' := (gEi_ok (l := l) (E := E) (K := K) 100).1 hL h
def fX9_bothC : Mem → Option (Int32 × Mem) := (gEi_all 100).2.1
theorem tX9_bothC {l : Launch} {E : Ev} {K : List Sh} {M : Mem} {r : Int32} {M' : Mem} (hL : nq_atModel E K) (h : fX9_bothC M = some (r, M')) : nq_MA l E yX9_both wsX9_both (nq_rm 102) [.ref (nq_ad E 0)] K M (some (.int r)) K M' := (gEi_ok (l := l) (E := E) (K := K) 100).2.1 hL h
def fX9_comparedC : Mem → Option (Int32 × Mem) := (gEi_all 100).2.2.1
theorem tX9_comparedC {l : Launch} {E : Ev} {K : List Sh} {M : Mem} {r : Int32} {M' : Mem} (hL : nq_atModel E K) (h : fX9_comparedC M = some (r, M')) : nq_MA l E yX9_compared wsX9_compared (nq_rm 102) [.ref (nq_ad E 0)] K M (some (.int r)) K M' := (gEi_ok (l := l) (E := E) (K := K) 100).2.2.1 hL h
def fX9_sumC : Mem → Option (Int32 × Mem) := (gEi_all 100).2.2.2.1
theorem tX9_sumC {l : Launch} {E : Ev} {K : List Sh} {M : Mem} {r : Int32} {M' : Mem} (hL : nq_atModel E K) (h : fX9_sumC M = some (r, M')) : nq_MA l E yX9_sum wsX9_sum (nq_rm 102) [.ref (nq_ad E 0)] K M (some (.int r)) K M' := (gEi_ok (l := l) (E := E) (K := K) 100).2.2.2.1 hL h
def fX9_productC : Mem → Option (Int32 × Mem) := (gEi_all 100).2.2.2.2.1
theorem tX9_productC {l : Launch} {E : Ev} {K : List Sh} {M : Mem} {r : Int32} {M' : Mem} (hL : nq_atModel E K) (h : fX9_productC M = some (r, M')) : nq_MA l E yX9_product wsX9_product (nq_rm 102) [.ref (nq_ad E 0)] K M (some (.int r)) K M' := (gEi_ok (l := l) (E := E) (K := K) 100).2.2.2.2.1 hL h
def fX9_unitC : Mem → Option (Int32 × Mem) := (gEi_all 100).2.2.2.2.2
theorem tX9_unitC {l : Launch} {E : Ev} {K : List Sh} {M : Mem} {r : Int32} {M' : Mem} (hL : nq_atModel E K) (h : fX9_unitC M = some (r, M')) : nq_MA l E yX9_unit wsX9_unit (nq_rm 102) [.ref (nq_ad E 0)] K M (some (.int r)) K M' := (gEi_ok (l := l) (E := E) (K := K) 100).2.2.2.2.2 hL h

theorem inX9_worked_9 : ∀ w ∈ u_ws RX9 TX9 23, w ∈ wsX9_worked := by
  intro w h; unfold wsX9_worked; simp only [List.mem_cons, List.mem_append]; simp only [h, true_or, or_true]
theorem lkX9_worked_190 : Cond.fieldLink RX9 190 (TX9 9).1 (TX9 9).2.1 (TX9 9).2.2.1 ∈ wsX9_worked := by decide +kernel
theorem lkX9_worked_180 : Cond.fieldLink RX9 180 (TX9 10).1 (TX9 10).2.1 (TX9 10).2.2.1 ∈ wsX9_worked := by decide +kernel
theorem lkX9_worked_184 : Cond.fieldLink RX9 184 (TX9 11).1 (TX9 11).2.1 (TX9 11).2.2.1 ∈ wsX9_worked := by decide +kernel
theorem lkX9_worked_187 : Cond.fieldLink RX9 187 (TX9 12).1 (TX9 12).2.1 (TX9 12).2.2.1 ∈ wsX9_worked := by decide +kernel
theorem lkX9_worked_218 : Cond.fieldLink RX9 218 (TX9 13).1 (TX9 13).2.1 (TX9 13).2.2.1 ∈ wsX9_worked := by decide +kernel
theorem lkX9_worked_196 : Cond.fieldLink RX9 196 (TX9 14).1 (TX9 14).2.1 (TX9 14).2.2.1 ∈ wsX9_worked := by decide +kernel
def fX9_worked_L37 (s0 : Int32) (M : Mem) : Option (Int32 × Mem) :=
  (nq_gd (decide (s0 = 0 ∨ s0 = 1))).bind fun _ =>
  nq_lt (nq_wr M 0 14 s0) fun M8 =>
  nq_b2 (fX9_eitherC  M8) fun v10 M11 =>
  nq_lt (M11 0 12) fun v12 =>
  if 0 ≤ v12 then
  (some (v10, M11))
  else
  (nq_lt (M11 0 10) fun v14 =>
  nq_lt (M11 0 11) fun v15 =>
  if v15 ≤ v14 then
  (some (v10, M11))
  else
  (nq_b2 (fX9_wrong  M11) fun v18 M19 =>
  some (v18, M19)))
set_option maxHeartbeats 4000000 in
theorem mX9_worked_L37 {X : Cx} {E : Ev} {l : Launch} {K : List Sh} {s0 : Int32} {M : Mem} {r : Int32} {M' : Mem} (hL : nq_atModel E K) (hX : nq_OK X E l (nq_rm 103) cX9_worked 5 RX9 wsX9_worked) (hr : nq_RT X E (some .int) (some (.int r)) K M') (h : fX9_worked_L37 s0 M = some (r, M')) : nq_G X E 5 37 [(0, .ref (nq_ad E 0))] [.int s0, .ref (nq_ad E 0)] K M := by
  unfold fX9_worked_L37 at h
  obtain ⟨g7, h⟩ := nq_gdE h
  obtain ⟨M8, eM8, h⟩ := nq_ltE h
  refine nq_puti hX inX9_worked_9 tyX9 tyX9_ok nmX9 (nq_Model_0 hL) rfl 14 (by decide) lkX9_worked_196 rfl rfl (nq_nzb (of_decide_eq_true g7)).1 (nq_nzb (of_decide_eq_true g7)).2 rfl eM8 dX9_worked_37 ?_
  refine nq_aload_n hX rfl 0 rfl dX9_worked_40 ?_
  obtain ⟨v10, M11, hc9, h⟩ := nq_b2E h
  refine nq_callVi hX (tX9_eitherC hL hc9) gX9_worked_X9_either rfl rfl dsX9_either (by decide) (nq_Model_0 hL) rfl rfl (Nat.le_of_ble_eq_true rfl) dX9_worked_41 ?_
  refine nq_istore hX (lv' := [(4, .int v10), (0, .ref (nq_ad E 0))]) (by decide) rfl rfl dX9_worked_44 ?_
  refine nq_aload_n hX rfl 1 rfl dX9_worked_46 ?_
  obtain ⟨v12, e12, h⟩ := nq_ltE h
  refine nq_geti hX inX9_worked_9 (nq_Model_0 hL) rfl 12 (by decide) lkX9_worked_187 rfl e12 dX9_worked_47 ?_
  refine nq_if_ge hX (tgt := 69) (by decide) dX9_worked_50 (fun c13 => ?_) (fun c13 => ?_)
  · rw [if_pos c13] at h
    refine nq_iload hX 0 rfl dX9_worked_69 ?_
    obtain ⟨rfl, rfl⟩ := nq_sE2 h; exact nq_iret hX hr dX9_worked_71
  · rw [if_neg c13] at h
    refine nq_aload_n hX rfl 1 rfl dX9_worked_53 ?_
    obtain ⟨v14, e14, h⟩ := nq_ltE h
    refine nq_geti hX inX9_worked_9 (nq_Model_0 hL) rfl 10 (by decide) lkX9_worked_180 rfl e14 dX9_worked_54 ?_
    refine nq_aload_n hX rfl 1 rfl dX9_worked_57 ?_
    obtain ⟨v15, e15, h⟩ := nq_ltE h
    refine nq_geti hX inX9_worked_9 (nq_Model_0 hL) rfl 11 (by decide) lkX9_worked_184 rfl e15 dX9_worked_58 ?_
    refine nq_icmp_ge hX (tgt := 69) (by decide) dX9_worked_61 (fun c16 => ?_) (fun c16 => ?_)
    · rw [if_pos c16] at h
      refine nq_iload hX 0 rfl dX9_worked_69 ?_
      obtain ⟨rfl, rfl⟩ := nq_sE2 h; exact nq_iret hX hr dX9_worked_71
    · rw [if_neg c16] at h
      refine nq_aload_n hX rfl 1 rfl dX9_worked_64 ?_
      obtain ⟨v18, M19, hc17, h⟩ := nq_b2E h
      refine nq_callVi hX (tX9_wrong hL hc17) gX9_worked_X9_wrong rfl rfl dsX9_wrong (by decide) (nq_Model_0 hL) rfl rfl (Nat.le_of_ble_eq_true rfl) dX9_worked_65 ?_
      obtain ⟨rfl, rfl⟩ := nq_sE2 h; exact nq_iret hX hr dX9_worked_68
def fX9_worked (x1 : Int32) (x2 : Int32) (x3 : Int32) (M : Mem) : Option (Int32 × Mem) :=
  nq_lt (nq_wr M 0 9 x1) fun M1 =>
  nq_lt (nq_wr M1 0 10 (0 : Int32)) fun M2 =>
  nq_lt (nq_wr M2 0 11 x2) fun M3 =>
  nq_lt (nq_wr M3 0 12 (-1 : Int32)) fun M4 =>
  nq_lt (nq_wr M4 0 13 (0 : Int32)) fun M5 =>
  if (6 : Int32) ≤ x3 then
  (fX9_worked_L37 (0 : Int32) M5)
  else
  (fX9_worked_L37 (1 : Int32) M5)
set_option maxHeartbeats 4000000 in
theorem mX9_worked {X : Cx} {E : Ev} {l : Launch} {K : List Sh} {x1 : Int32} {x2 : Int32} {x3 : Int32} {M : Mem} {r : Int32} {M' : Mem} (hL : nq_atModel E K) (hX : nq_OK X E l (nq_rm 103) cX9_worked 5 RX9 wsX9_worked) (hr : nq_RT X E (some .int) (some (.int r)) K M') (h : fX9_worked x1 x2 x3 M = some (r, M')) : nq_G X E 5 0 [(0, .ref (nq_ad E 0)), (1, .int x1), (2, .int x2), (3, .int x3)] [] K M := by
  unfold fX9_worked at h
  refine nq_aload_n hX rfl 0 rfl dX9_worked_0 ?_
  refine nq_iload_n hX rfl 1 rfl dX9_worked_1 ?_
  obtain ⟨M1, eM1, h⟩ := nq_ltE h
  refine nq_puti hX inX9_worked_9 tyX9 tyX9_ok nmX9 (nq_Model_0 hL) rfl 9 (by decide) lkX9_worked_190 rfl rfl rfl rfl rfl eM1 dX9_worked_2 ?_
  refine nq_aload_n hX rfl 0 rfl dX9_worked_5 ?_
  refine nq_iconst hX (v := 0) (by decide) dX9_worked_6 ?_
  obtain ⟨M2, eM2, h⟩ := nq_ltE h
  refine nq_puti hX inX9_worked_9 tyX9 tyX9_ok nmX9 (nq_Model_0 hL) rfl 10 (by decide) lkX9_worked_180 rfl rfl rfl rfl rfl eM2 dX9_worked_7 ?_
  refine nq_aload_n hX rfl 0 rfl dX9_worked_10 ?_
  refine nq_iload_n hX rfl 2 rfl dX9_worked_11 ?_
  obtain ⟨M3, eM3, h⟩ := nq_ltE h
  refine nq_puti hX inX9_worked_9 tyX9 tyX9_ok nmX9 (nq_Model_0 hL) rfl 11 (by decide) lkX9_worked_184 rfl rfl rfl rfl rfl eM3 dX9_worked_12 ?_
  refine nq_aload_n hX rfl 0 rfl dX9_worked_15 ?_
  refine nq_iconst hX (v := -1) (by decide) dX9_worked_16 ?_
  obtain ⟨M4, eM4, h⟩ := nq_ltE h
  refine nq_puti hX inX9_worked_9 tyX9 tyX9_ok nmX9 (nq_Model_0 hL) rfl 12 (by decide) lkX9_worked_187 rfl rfl rfl rfl rfl eM4 dX9_worked_17 ?_
  refine nq_aload_n hX rfl 0 rfl dX9_worked_20 ?_
  refine nq_iconst hX (v := 0) (by decide) dX9_worked_21 ?_
  obtain ⟨M5, eM5, h⟩ := nq_ltE h
  refine nq_puti hX inX9_worked_9 tyX9 tyX9_ok nmX9 (nq_Model_0 hL) rfl 13 (by decide) lkX9_worked_218 rfl rfl rfl rfl rfl eM5 dX9_worked_22 ?_
  refine nq_aload_n hX rfl 0 rfl dX9_worked_25 ?_
  refine nq_iload_n hX rfl 3 rfl dX9_worked_26 ?_
  refine nq_bipush hX (v := 6) (by decide) dX9_worked_27 ?_
  refine nq_icmp_ge hX (tgt := 36) (by decide) dX9_worked_29 (fun c6 => ?_) (fun c6 => ?_)
  · rw [if_pos c6] at h
    refine nq_iconst hX (v := 0) (by decide) dX9_worked_36 ?_
    refine nq_sub (lv' := [(0, .ref (nq_ad E 0))]) [0] rfl ?_
    exact mX9_worked_L37 hL hX hr h
  · rw [if_neg c6] at h
    refine nq_iconst hX (v := 1) (by decide) dX9_worked_32 ?_
    refine nq_goto hX (tgt := 37) (by decide) dX9_worked_33 ?_
    refine nq_sub (lv' := [(0, .ref (nq_ad E 0))]) [0] rfl ?_
    exact mX9_worked_L37 hL hX hr h
theorem dsX9_worked : yX9_worked.cls ≠ "java/lang/invoke/MethodHandle" ∧ yX9_worked.cls ≠ "java/lang/invoke/VarHandle" ∧ (parseMethodDescriptor yX9_worked.desc).map (fun d => d.parameters.length) = some 3 := by decide +kernel
theorem tX9_worked {l : Launch} {E : Ev} {K : List Sh} {x1 : Int32} {x2 : Int32} {x3 : Int32} {M : Mem} {r : Int32} {M' : Mem} (hL : nq_atModel E K) (h : fX9_worked x1 x2 x3 M = some (r, M')) : nq_MA l E yX9_worked wsX9_worked (nq_rm 103) [.ref (nq_ad E 0), .int x1, .int x2, .int x3] K M (some (.int r)) K M' :=
  nq_met (own := RX9) (cc := cX9_worked) (maxL := 5) (ret := (some .int)) (by decide) rfl rfl (Nat.le_of_ble_eq_true rfl) (fun X hX hr => mX9_worked hL hX hr h)

