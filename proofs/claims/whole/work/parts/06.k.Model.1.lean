/-! printed by dec.py: Model 1 -/
theorem inX9_route_9 : ∀ w ∈ u_ws RX9 TX9 23, w ∈ wsX9_route := by
  intro w h; unfold wsX9_route; simp only [List.mem_cons, List.mem_append]; simp only [h, true_or, or_true]
theorem lkX9_route_22 : Cond.fieldLink RX9 22 (TX9 5).1 (TX9 5).2.1 (TX9 5).2.2.1 ∈ wsX9_route := by decide +kernel
def fX9_route_B92_83 (x2 : Int32) (x3 : Int32) (x4 : Int32) (x5 : Int32) (x6 : Int32) (M : Mem) : Option ((Int32) ⊕ (Int32)) :=
  (fX9_isOnWay x4 x6 x2 M).bind fun v26 =>
  if v26 = 0 then
  (nq_lt (x6 + (1 : Int32)) fun v28 =>
  some (.inl v28))
  else
  ((nq_ag (M 5) 6 x6).bind fun v29 =>
  (nq_ag (M 5) 6 x4).bind fun v30 =>
  if (v29 + (1 : Int32)) = v30 then
  (some (.inr x6))
  else
  (nq_lt (x6 + (1 : Int32)) fun v32 =>
  some (.inl v32)))
set_option maxHeartbeats 4000000 in
theorem mX9_route_B92_83 {X : Cx} {E : Ev} {l : Launch} {K : List Sh} {x2 : Int32} {x3 : Int32} {x4 : Int32} {x5 : Int32} {x6 : Int32} {M : Mem} (hL : nq_atModel E K) (hX : nq_OK X E l (nq_rm 3) cX9_route 7 RX9 wsX9_route) {x : (Int32) ⊕ (Int32)} (hc : ∀ s' : Int32, x = .inl s' → nq_G X E 7 92 [(0, .ref (nq_ad E 0)), (2, .int x2), (3, .int x3), (4, .int x4), (5, .int x5), (6, .int s')] [] K M) (he : ∀ s' : Int32, x = .inr s' → nq_G X E 7 129 [(0, .ref (nq_ad E 0)), (2, .int x2), (3, .int x3), (5, .int x5), (6, .int s')] [] K M) (h : fX9_route_B92_83 x2 x3 x4 x5 x6 M = some x) : nq_G X E 7 92 [(0, .ref (nq_ad E 0)), (2, .int x2), (3, .int x3), (4, .int x4), (5, .int x5), (6, .int x6)] [] K M := by
  unfold fX9_route_B92_83 at h
  refine nq_aload_n hX rfl 0 rfl dX9_route_92 ?_
  refine nq_iload hX 3 rfl dX9_route_93 ?_
  refine nq_iload hX 5 rfl dX9_route_95 ?_
  refine nq_iload_n hX rfl 1 rfl dX9_route_97 ?_
  obtain ⟨v26, hc25, h⟩ := nq_bE h
  refine nq_callVi hX (tX9_isOnWay hL hc25) gX9_route_X9_isOnWay rfl rfl dsX9_isOnWay (by decide) (nq_Model_0 hL) rfl rfl (Nat.le_of_ble_eq_true rfl) dX9_route_98 ?_
  refine nq_if_eq hX (tgt := 123) (by decide) dX9_route_101 (fun c27 => ?_) (fun c27 => ?_)
  · rw [if_pos c27] at h
    obtain ⟨v28, e28, h⟩ := nq_ltE h
    refine nq_iinc hX (lv' := [(6, .int v28), (0, .ref (nq_ad E 0)), (2, .int x2), (3, .int x3), (4, .int x4), (5, .int x5)]) (j := 5) rfl (e28.trans rfl) (by decide) rfl dX9_route_123 ?_
    refine nq_goto hX (tgt := 92) (by decide) dX9_route_126 ?_
    refine nq_sub (lv' := [(0, .ref (nq_ad E 0)), (2, .int x2), (3, .int x3), (4, .int x4), (5, .int x5), (6, .int v28)]) [1, 2, 3, 4, 5, 0] rfl ?_
    exact hc v28 (nq_sE h).symm
  · rw [if_neg c27] at h
    refine nq_aload_n hX rfl 0 rfl dX9_route_104 ?_
    refine nq_getr (v := .ref (nq_ad E 5)) hX inX9_route_9 (nq_Model_0 hL) rfl 5 (by decide) lkX9_route_22 _ rfl rfl dX9_route_105 ?_
    refine nq_iload hX 5 rfl dX9_route_108 ?_
    obtain ⟨v29, e29, hi29, h⟩ := nq_agE h
    refine nq_iald hX (nq_Model_steps hL) e29 hi29 dX9_route_110 ?_
    refine nq_iconst hX (v := 1) (by decide) dX9_route_111 ?_
    refine nq_iadd hX dX9_route_112 ?_
    refine nq_aload_n hX rfl 0 rfl dX9_route_113 ?_
    refine nq_getr (v := .ref (nq_ad E 5)) hX inX9_route_9 (nq_Model_0 hL) rfl 5 (by decide) lkX9_route_22 _ rfl rfl dX9_route_114 ?_
    refine nq_iload hX 3 rfl dX9_route_117 ?_
    obtain ⟨v30, e30, hi30, h⟩ := nq_agE h
    refine nq_iald hX (nq_Model_steps hL) e30 hi30 dX9_route_119 ?_
    refine nq_icmp_eq hX (tgt := 129) (by decide) dX9_route_120 (fun c31 => ?_) (fun c31 => ?_)
    · rw [if_pos c31] at h
      refine nq_sub (lv' := [(0, .ref (nq_ad E 0)), (2, .int x2), (3, .int x3), (5, .int x5), (6, .int x6)]) [0, 1, 2, 4, 5] rfl ?_
      exact he x6 (nq_sE h).symm
    · rw [if_neg c31] at h
      obtain ⟨v32, e32, h⟩ := nq_ltE h
      refine nq_iinc hX (lv' := [(6, .int v32), (0, .ref (nq_ad E 0)), (2, .int x2), (3, .int x3), (4, .int x4), (5, .int x5)]) (j := 5) rfl (e32.trans rfl) (by decide) rfl dX9_route_123 ?_
      refine nq_goto hX (tgt := 92) (by decide) dX9_route_126 ?_
      refine nq_sub (lv' := [(0, .ref (nq_ad E 0)), (2, .int x2), (3, .int x3), (4, .int x4), (5, .int x5), (6, .int v32)]) [1, 2, 3, 4, 5, 0] rfl ?_
      exact hc v32 (nq_sE h).symm
def fX9_route_L129_83 (x2 : Int32) (x3 : Int32) (x5 : Int32) (x6 : Int32) (M : Mem) : Option ((Int32 × Int32) ⊕ (Int32)) :=
  nq_lt (x5 + (1 : Int32)) fun v33 =>
  some (.inl (x6, v33))
set_option maxHeartbeats 4000000 in
theorem mX9_route_L129_83 {X : Cx} {E : Ev} {l : Launch} {K : List Sh} {x2 : Int32} {x3 : Int32} {x5 : Int32} {x6 : Int32} {M : Mem} (hL : nq_atModel E K) (hX : nq_OK X E l (nq_rm 3) cX9_route 7 RX9 wsX9_route) {x : (Int32 × Int32) ⊕ (Int32)} (hc : ∀ s' : Int32 × Int32, x = .inl s' → nq_G X E 7 83 [(0, .ref (nq_ad E 0)), (2, .int x2), (3, .int x3), (4, .int s'.1), (5, .int s'.2)] [] K M) (he : ∀ s' : Int32, x = .inr s' → nq_G X E 7 139 [(4, .int s')] [] K M) (h : fX9_route_L129_83 x2 x3 x5 x6 M = some x) : nq_G X E 7 129 [(0, .ref (nq_ad E 0)), (2, .int x2), (3, .int x3), (5, .int x5), (6, .int x6)] [] K M := by
  unfold fX9_route_L129_83 at h
  refine nq_iload hX 4 rfl dX9_route_129 ?_
  refine nq_istore hX (lv' := [(4, .int x6), (0, .ref (nq_ad E 0)), (2, .int x2), (3, .int x3), (5, .int x5), (6, .int x6)]) (by decide) rfl rfl dX9_route_131 ?_
  obtain ⟨v33, e33, h⟩ := nq_ltE h
  refine nq_iinc hX (lv' := [(5, .int v33), (4, .int x6), (0, .ref (nq_ad E 0)), (2, .int x2), (3, .int x3), (6, .int x6)]) (j := 4) rfl (e33.trans rfl) (by decide) rfl dX9_route_133 ?_
  refine nq_goto hX (tgt := 83) (by decide) dX9_route_136 ?_
  refine nq_sub (lv' := [(0, .ref (nq_ad E 0)), (2, .int x2), (3, .int x3), (4, .int x6), (5, .int v33)]) [2, 3, 4, 1, 0] rfl ?_
  exact hc (x6, v33) (nq_sE h).symm
def fX9_route_L92_83 (x2 : Int32) (x3 : Int32) (x4 : Int32) (x5 : Int32) (x6 : Int32) (M : Mem) : Option ((Int32 × Int32) ⊕ (Int32)) :=
  (nq_lp (fun s : Int32 => fX9_route_B92_83 x2 x3 x4 x5 s M) nq_fuel x6).bind (fun e => fX9_route_L129_83 x2 x3 x5 e M)
set_option maxHeartbeats 4000000 in
theorem mX9_route_L92_83 {X : Cx} {E : Ev} {l : Launch} {K : List Sh} {x2 : Int32} {x3 : Int32} {x4 : Int32} {x5 : Int32} {x6 : Int32} {M : Mem} (hL : nq_atModel E K) (hX : nq_OK X E l (nq_rm 3) cX9_route 7 RX9 wsX9_route) {x : (Int32 × Int32) ⊕ (Int32)} (hc : ∀ s' : Int32 × Int32, x = .inl s' → nq_G X E 7 83 [(0, .ref (nq_ad E 0)), (2, .int x2), (3, .int x3), (4, .int s'.1), (5, .int s'.2)] [] K M) (he : ∀ s' : Int32, x = .inr s' → nq_G X E 7 139 [(4, .int s')] [] K M) (h : fX9_route_L92_83 x2 x3 x4 x5 x6 M = some x) : nq_G X E 7 92 [(0, .ref (nq_ad E 0)), (2, .int x2), (3, .int x3), (4, .int x4), (5, .int x5), (6, .int x6)] [] K M := by
  unfold fX9_route_L92_83 at h
  obtain ⟨e, h1, h⟩ := nq_bE h
  have key : ∀ (ex : Int32), nq_lp (fun s : Int32 => fX9_route_B92_83 x2 x3 x4 x5 s M) nq_fuel x6 = some ex → (∀ e, ex = e → nq_G X E 7 129 [(0, .ref (nq_ad E 0)), (2, .int x2), (3, .int x3), (5, .int x5), (6, .int e)] [] K M) → nq_G X E 7 92 [(0, .ref (nq_ad E 0)), (2, .int x2), (3, .int x3), (4, .int x4), (5, .int x5), (6, .int x6)] [] K M := by
    intro ex h1 hE
    refine nq_lpE (P := fun s : Int32 => nq_G X E 7 92 [(0, .ref (nq_ad E 0)), (2, .int x2), (3, .int x3), (4, .int x4), (5, .int x5), (6, .int s)] [] K M) (r := ex) ?_ nq_fuel x6 h1
    intro s xx hx1 hc1 he1
    exact mX9_route_B92_83 hL hX hc1 (fun e q => hE e (he1 _ q).symm) hx1
  refine key e h1 (fun e q => ?_)
  subst q
  exact mX9_route_L129_83 hL hX hc he h
def fX9_route_B83 (x2 : Int32) (x3 : Int32) (x4 : Int32) (x5 : Int32) (M : Mem) : Option ((Int32 × Int32) ⊕ (Int32)) :=
  if x3 ≤ x5 then
  (some (.inr x4))
  else
  (fX9_route_L92_83 x2 x3 x4 x5 (0 : Int32) M)
set_option maxHeartbeats 4000000 in
theorem mX9_route_B83 {X : Cx} {E : Ev} {l : Launch} {K : List Sh} {x2 : Int32} {x3 : Int32} {x4 : Int32} {x5 : Int32} {M : Mem} (hL : nq_atModel E K) (hX : nq_OK X E l (nq_rm 3) cX9_route 7 RX9 wsX9_route) {x : (Int32 × Int32) ⊕ (Int32)} (hc : ∀ s' : Int32 × Int32, x = .inl s' → nq_G X E 7 83 [(0, .ref (nq_ad E 0)), (2, .int x2), (3, .int x3), (4, .int s'.1), (5, .int s'.2)] [] K M) (he : ∀ s' : Int32, x = .inr s' → nq_G X E 7 139 [(4, .int s')] [] K M) (h : fX9_route_B83 x2 x3 x4 x5 M = some x) : nq_G X E 7 83 [(0, .ref (nq_ad E 0)), (2, .int x2), (3, .int x3), (4, .int x4), (5, .int x5)] [] K M := by
  unfold fX9_route_B83 at h
  refine nq_iload hX 4 rfl dX9_route_83 ?_
  refine nq_iload_n hX rfl 2 rfl dX9_route_85 ?_
  refine nq_icmp_ge hX (tgt := 139) (by decide) dX9_route_86 (fun c24 => ?_) (fun c24 => ?_)
  · rw [if_pos c24] at h
    refine nq_sub (lv' := [(4, .int x4)]) [3] rfl ?_
    exact he x4 (nq_sE h).symm
  · rw [if_neg c24] at h
    refine nq_iconst hX (v := 0) (by decide) dX9_route_89 ?_
    refine nq_istore hX (lv' := [(6, .int (0 : Int32)), (0, .ref (nq_ad E 0)), (2, .int x2), (3, .int x3), (4, .int x4), (5, .int x5)]) (by decide) rfl rfl dX9_route_90 ?_
    refine nq_sub (lv' := [(0, .ref (nq_ad E 0)), (2, .int x2), (3, .int x3), (4, .int x4), (5, .int x5), (6, .int (0 : Int32))]) [1, 2, 3, 4, 5, 0] rfl ?_
    exact mX9_route_L92_83 hL hX hc he h
def fX9_route_L139 (x4 : Int32) (M : Mem) : Option (Int32 × Mem) :=
  some (x4, M)
set_option maxHeartbeats 4000000 in
theorem mX9_route_L139 {X : Cx} {E : Ev} {l : Launch} {K : List Sh} {x4 : Int32} {M : Mem} {r : Int32} {M' : Mem} (hL : nq_atModel E K) (hX : nq_OK X E l (nq_rm 3) cX9_route 7 RX9 wsX9_route) (hr : nq_RT X E (some .int) (some (.int r)) K M') (h : fX9_route_L139 x4 M = some (r, M')) : nq_G X E 7 139 [(4, .int x4)] [] K M := by
  unfold fX9_route_L139 at h
  refine nq_iload hX 0 rfl dX9_route_139 ?_
  obtain ⟨rfl, rfl⟩ := nq_sE2 h; exact nq_iret hX hr dX9_route_141
def fX9_route_L83 (x2 : Int32) (x3 : Int32) (x4 : Int32) (x5 : Int32) (M : Mem) : Option (Int32 × Mem) :=
  (nq_lp (fun s : Int32 × Int32 => fX9_route_B83 x2 x3 s.1 s.2 M) nq_fuel (x4, x5)).bind (fun e => fX9_route_L139 e M)
set_option maxHeartbeats 4000000 in
theorem mX9_route_L83 {X : Cx} {E : Ev} {l : Launch} {K : List Sh} {x2 : Int32} {x3 : Int32} {x4 : Int32} {x5 : Int32} {M : Mem} {r : Int32} {M' : Mem} (hL : nq_atModel E K) (hX : nq_OK X E l (nq_rm 3) cX9_route 7 RX9 wsX9_route) (hr : nq_RT X E (some .int) (some (.int r)) K M') (h : fX9_route_L83 x2 x3 x4 x5 M = some (r, M')) : nq_G X E 7 83 [(0, .ref (nq_ad E 0)), (2, .int x2), (3, .int x3), (4, .int x4), (5, .int x5)] [] K M := by
  unfold fX9_route_L83 at h
  obtain ⟨e, h1, h⟩ := nq_bE h
  have key : ∀ (ex : Int32), nq_lp (fun s : Int32 × Int32 => fX9_route_B83 x2 x3 s.1 s.2 M) nq_fuel (x4, x5) = some ex → (∀ e, ex = e → nq_G X E 7 139 [(4, .int e)] [] K M) → nq_G X E 7 83 [(0, .ref (nq_ad E 0)), (2, .int x2), (3, .int x3), (4, .int ((x4, x5).1)), (5, .int ((x4, x5).2))] [] K M := by
    intro ex h1 hE
    refine nq_lpE (P := fun s : Int32 × Int32 => nq_G X E 7 83 [(0, .ref (nq_ad E 0)), (2, .int x2), (3, .int x3), (4, .int s.1), (5, .int s.2)] [] K M) (r := ex) ?_ nq_fuel (x4, x5) h1
    intro s xx hx1 hc1 he1
    exact mX9_route_B83 hL hX hc1 (fun e q => hE e (he1 _ q).symm) hx1
  refine key e h1 (fun e q => ?_)
  subst q
  exact mX9_route_L139 hL hX hr h
def fX9_route (x1 : Int32) (x2 : Int32) (x3 : Int32) (M : Mem) : Option (Int32 × Mem) :=
  (fX9_isPlace x1 M).bind fun v2 =>
  if v2 = 0 then
  (nq_b2 (fX9_finds (1 : Int32) M) fun v5 M6 =>
  some (v5, M6))
  else
  ((fX9_isPlace x2 M).bind fun v8 =>
  if v8 = 0 then
  (nq_b2 (fX9_finds (1 : Int32) M) fun v11 M12 =>
  some (v11, M12))
  else
  (if (-1 : Int32) ≤ x3 then
  (nq_b2 (fX9_wayOf x1 x2 M) fun v15 M16 =>
  if 0 ≤ v15 then
  ((fX9_findSteps x2 M16).bind fun M19 =>
  if x3 = (-1 : Int32) then
  ((nq_ag (M19 5) 6 x1).bind fun v21 =>
  some ((v21 + (1 : Int32)), M19))
  else
  ((nq_ag (M19 5) 6 x1).bind fun v22 =>
  if x3 ≤ v22 then
  (fX9_route_L83 x2 x3 x1 (0 : Int32) M19)
  else
  (nq_b2 (fX9_finds (2 : Int32) M19) fun v35 M36 =>
  some (v35, M36))))
  else
  (nq_b2 (fX9_finds (2 : Int32) M16) fun v38 M39 =>
  some (v38, M39)))
  else
  (nq_b2 (fX9_finds (1 : Int32) M) fun v41 M42 =>
  some (v41, M42))))
set_option maxHeartbeats 4000000 in
theorem mX9_route {X : Cx} {E : Ev} {l : Launch} {K : List Sh} {x1 : Int32} {x2 : Int32} {x3 : Int32} {M : Mem} {r : Int32} {M' : Mem} (hL : nq_atModel E K) (hX : nq_OK X E l (nq_rm 3) cX9_route 7 RX9 wsX9_route) (hr : nq_RT X E (some .int) (some (.int r)) K M') (h : fX9_route x1 x2 x3 M = some (r, M')) : nq_G X E 7 0 [(0, .ref (nq_ad E 0)), (1, .int x1), (2, .int x2), (3, .int x3)] [] K M := by
  unfold fX9_route at h
  refine nq_aload_n hX rfl 0 rfl dX9_route_0 ?_
  refine nq_iload_n hX rfl 1 rfl dX9_route_1 ?_
  obtain ⟨v2, hc1, h⟩ := nq_bE h
  refine nq_callVi hX (tX9_isPlace hL hc1) gX9_route_X9_isPlace rfl rfl dsX9_isPlace (by decide) (nq_Model_0 hL) rfl rfl (Nat.le_of_ble_eq_true rfl) dX9_route_2 ?_
  refine nq_if_eq hX (tgt := 21) (by decide) dX9_route_5 (fun c3 => ?_) (fun c3 => ?_)
  · rw [if_pos c3] at h
    refine nq_aload_n hX rfl 0 rfl dX9_route_21 ?_
    refine nq_iconst hX (v := 1) (by decide) dX9_route_22 ?_
    obtain ⟨v5, M6, hc4, h⟩ := nq_b2E h
    refine nq_callVi hX (tX9_finds hL hc4) gX9_route_X9_finds rfl rfl dsX9_finds (by decide) (nq_Model_0 hL) rfl rfl (Nat.le_of_ble_eq_true rfl) dX9_route_23 ?_
    obtain ⟨rfl, rfl⟩ := nq_sE2 h; exact nq_iret hX hr dX9_route_26
  · rw [if_neg c3] at h
    refine nq_aload_n hX rfl 0 rfl dX9_route_8 ?_
    refine nq_iload_n hX rfl 2 rfl dX9_route_9 ?_
    obtain ⟨v8, hc7, h⟩ := nq_bE h
    refine nq_callVi hX (tX9_isPlace hL hc7) gX9_route_X9_isPlace rfl rfl dsX9_isPlace (by decide) (nq_Model_0 hL) rfl rfl (Nat.le_of_ble_eq_true rfl) dX9_route_10 ?_
    refine nq_if_eq hX (tgt := 21) (by decide) dX9_route_13 (fun c9 => ?_) (fun c9 => ?_)
    · rw [if_pos c9] at h
      refine nq_aload_n hX rfl 0 rfl dX9_route_21 ?_
      refine nq_iconst hX (v := 1) (by decide) dX9_route_22 ?_
      obtain ⟨v11, M12, hc10, h⟩ := nq_b2E h
      refine nq_callVi hX (tX9_finds hL hc10) gX9_route_X9_finds rfl rfl dsX9_finds (by decide) (nq_Model_0 hL) rfl rfl (Nat.le_of_ble_eq_true rfl) dX9_route_23 ?_
      obtain ⟨rfl, rfl⟩ := nq_sE2 h; exact nq_iret hX hr dX9_route_26
    · rw [if_neg c9] at h
      refine nq_iload_n hX rfl 3 rfl dX9_route_16 ?_
      refine nq_iconst hX (v := -1) (by decide) dX9_route_17 ?_
      refine nq_icmp_ge hX (tgt := 27) (by decide) dX9_route_18 (fun c13 => ?_) (fun c13 => ?_)
      · rw [if_pos c13] at h
        refine nq_aload_n hX rfl 0 rfl dX9_route_27 ?_
        refine nq_iload_n hX rfl 1 rfl dX9_route_28 ?_
        refine nq_iload_n hX rfl 2 rfl dX9_route_29 ?_
        obtain ⟨v15, M16, hc14, h⟩ := nq_b2E h
        refine nq_callVi hX (tX9_wayOf hL hc14) gX9_route_X9_wayOf rfl rfl dsX9_wayOf (by decide) (nq_Model_0 hL) rfl rfl (Nat.le_of_ble_eq_true rfl) dX9_route_30 ?_
        refine nq_if_ge hX (tgt := 42) (by decide) dX9_route_33 (fun c17 => ?_) (fun c17 => ?_)
        · rw [if_pos c17] at h
          refine nq_aload_n hX rfl 0 rfl dX9_route_42 ?_
          refine nq_iload_n hX rfl 2 rfl dX9_route_43 ?_
          obtain ⟨M19, hc18, h⟩ := nq_bE h
          refine nq_callVv hX (tX9_findSteps hL hc18) gX9_route_X9_findSteps rfl rfl dsX9_findSteps (by decide) (nq_Model_0 hL) rfl rfl (Nat.le_of_ble_eq_true rfl) dX9_route_44 ?_
          refine nq_iload_n hX rfl 3 rfl dX9_route_47 ?_
          refine nq_iconst hX (v := -1) (by decide) dX9_route_48 ?_
          refine nq_icmp_ne hX (tgt := 61) (by decide) dX9_route_49 (fun c20 => ?_) (fun c20 => ?_)
          · rw [if_pos c20] at h
            refine nq_aload_n hX rfl 0 rfl dX9_route_52 ?_
            refine nq_getr (v := .ref (nq_ad E 5)) hX inX9_route_9 (nq_Model_0 hL) rfl 5 (by decide) lkX9_route_22 _ rfl rfl dX9_route_53 ?_
            refine nq_iload_n hX rfl 1 rfl dX9_route_56 ?_
            obtain ⟨v21, e21, hi21, h⟩ := nq_agE h
            refine nq_iald hX (nq_Model_steps hL) e21 hi21 dX9_route_57 ?_
            refine nq_iconst hX (v := 1) (by decide) dX9_route_58 ?_
            refine nq_iadd hX dX9_route_59 ?_
            obtain ⟨rfl, rfl⟩ := nq_sE2 h; exact nq_iret hX hr dX9_route_60
          · rw [if_neg c20] at h
            refine nq_iload_n hX rfl 3 rfl dX9_route_61 ?_
            refine nq_aload_n hX rfl 0 rfl dX9_route_62 ?_
            refine nq_getr (v := .ref (nq_ad E 5)) hX inX9_route_9 (nq_Model_0 hL) rfl 5 (by decide) lkX9_route_22 _ rfl rfl dX9_route_63 ?_
            refine nq_iload_n hX rfl 1 rfl dX9_route_66 ?_
            obtain ⟨v22, e22, hi22, h⟩ := nq_agE h
            refine nq_iald hX (nq_Model_steps hL) e22 hi22 dX9_route_67 ?_
            refine nq_icmp_le hX (tgt := 77) (by decide) dX9_route_68 (fun c23 => ?_) (fun c23 => ?_)
            · rw [if_pos c23] at h
              refine nq_iload_n hX rfl 1 rfl dX9_route_77 ?_
              refine nq_istore hX (lv' := [(4, .int x1), (0, .ref (nq_ad E 0)), (1, .int x1), (2, .int x2), (3, .int x3)]) (by decide) rfl rfl dX9_route_78 ?_
              refine nq_iconst hX (v := 0) (by decide) dX9_route_80 ?_
              refine nq_istore hX (lv' := [(5, .int (0 : Int32)), (4, .int x1), (0, .ref (nq_ad E 0)), (1, .int x1), (2, .int x2), (3, .int x3)]) (by decide) rfl rfl dX9_route_81 ?_
              refine nq_sub (lv' := [(0, .ref (nq_ad E 0)), (2, .int x2), (3, .int x3), (4, .int x1), (5, .int (0 : Int32))]) [2, 4, 5, 1, 0] rfl ?_
              exact mX9_route_L83 hL hX hr h
            · rw [if_neg c23] at h
              refine nq_aload_n hX rfl 0 rfl dX9_route_71 ?_
              refine nq_iconst hX (v := 2) (by decide) dX9_route_72 ?_
              obtain ⟨v35, M36, hc34, h⟩ := nq_b2E h
              refine nq_callVi hX (tX9_finds hL hc34) gX9_route_X9_finds rfl rfl dsX9_finds (by decide) (nq_Model_0 hL) rfl rfl (Nat.le_of_ble_eq_true rfl) dX9_route_73 ?_
              obtain ⟨rfl, rfl⟩ := nq_sE2 h; exact nq_iret hX hr dX9_route_76
        · rw [if_neg c17] at h
          refine nq_aload_n hX rfl 0 rfl dX9_route_36 ?_
          refine nq_iconst hX (v := 2) (by decide) dX9_route_37 ?_
          obtain ⟨v38, M39, hc37, h⟩ := nq_b2E h
          refine nq_callVi hX (tX9_finds hL hc37) gX9_route_X9_finds rfl rfl dsX9_finds (by decide) (nq_Model_0 hL) rfl rfl (Nat.le_of_ble_eq_true rfl) dX9_route_38 ?_
          obtain ⟨rfl, rfl⟩ := nq_sE2 h; exact nq_iret hX hr dX9_route_41
      · rw [if_neg c13] at h
        refine nq_aload_n hX rfl 0 rfl dX9_route_21 ?_
        refine nq_iconst hX (v := 1) (by decide) dX9_route_22 ?_
        obtain ⟨v41, M42, hc40, h⟩ := nq_b2E h
        refine nq_callVi hX (tX9_finds hL hc40) gX9_route_X9_finds rfl rfl dsX9_finds (by decide) (nq_Model_0 hL) rfl rfl (Nat.le_of_ble_eq_true rfl) dX9_route_23 ?_
        obtain ⟨rfl, rfl⟩ := nq_sE2 h; exact nq_iret hX hr dX9_route_26
theorem dsX9_route : yX9_route.cls ≠ "java/lang/invoke/MethodHandle" ∧ yX9_route.cls ≠ "java/lang/invoke/VarHandle" ∧ (parseMethodDescriptor yX9_route.desc).map (fun d => d.parameters.length) = some 3 := by decide +kernel
theorem tX9_route {l : Launch} {E : Ev} {K : List Sh} {x1 : Int32} {x2 : Int32} {x3 : Int32} {M : Mem} {r : Int32} {M' : Mem} (hL : nq_atModel E K) (h : fX9_route x1 x2 x3 M = some (r, M')) : nq_MA l E yX9_route wsX9_route (nq_rm 3) [.ref (nq_ad E 0), .int x1, .int x2, .int x3] K M (some (.int r)) K M' :=
  nq_met (own := RX9) (cc := cX9_route) (maxL := 7) (ret := (some .int)) (by decide) rfl rfl (Nat.le_of_ble_eq_true rfl) (fun X hX hr => mX9_route hL hX hr h)

theorem mmX9_rule_c89 : Cond.constantLong RX9 89 (99) ∈ wsX9_rule := by decide +kernel
theorem inX9_rule_9 : ∀ w ∈ u_ws RX9 TX9 23, w ∈ wsX9_rule := by
  intro w h; unfold wsX9_rule; simp only [List.mem_cons, List.mem_append]; simp only [h, true_or, or_true]
theorem lkX9_rule_7 : Cond.fieldLink RX9 7 (TX9 0).1 (TX9 0).2.1 (TX9 0).2.2.1 ∈ wsX9_rule := by decide +kernel
theorem mmX9_rule_c91 : Cond.constantLong RX9 91 (2) ∈ wsX9_rule := by decide +kernel
theorem mmX9_rule_c93 : Cond.constantLong RX9 93 (9) ∈ wsX9_rule := by decide +kernel
def fX9_rule_L49 (x1 : Int32) (x2 : Int32) (M : Mem) : Option (Int32 × Mem) :=
  (nq_ag (M 1) 1250 ((5 : Int32) + x1)).bind fun v14 =>
  (nq_as M 1 1250 ((5 : Int32) + x1) x2).bind fun M15 =>
  some (v14, M15)
set_option maxHeartbeats 4000000 in
theorem mX9_rule_L49 {X : Cx} {E : Ev} {l : Launch} {K : List Sh} {x1 : Int32} {x2 : Int32} {M : Mem} {r : Int32} {M' : Mem} (hL : nq_atModel E K) (hX : nq_OK X E l (nq_rm 2) cX9_rule 4 RX9 wsX9_rule) (hr : nq_RT X E (some .int) (some (.int r)) K M') (h : fX9_rule_L49 x1 x2 M = some (r, M')) : nq_G X E 4 49 [(0, .ref (nq_ad E 0)), (1, .int x1), (2, .int x2)] [] K M := by
  unfold fX9_rule_L49 at h
  refine nq_aload_n hX rfl 0 rfl dX9_rule_49 ?_
  refine nq_getr (v := .ref (nq_ad E 1)) hX inX9_rule_9 (nq_Model_0 hL) rfl 0 (by decide) lkX9_rule_7 _ rfl rfl dX9_rule_50 ?_
  refine nq_iconst hX (v := 5) (by decide) dX9_rule_53 ?_
  refine nq_iload_n hX rfl 1 rfl dX9_rule_54 ?_
  refine nq_iadd hX dX9_rule_55 ?_
  obtain ⟨v14, e14, hi14, h⟩ := nq_agE h
  refine nq_iald hX (nq_Model_d hL) e14 hi14 dX9_rule_56 ?_
  refine nq_istore_n hX (lv' := [(3, .int v14), (0, .ref (nq_ad E 0)), (1, .int x1), (2, .int x2)]) rfl (by decide) rfl rfl dX9_rule_57 ?_
  refine nq_aload_n hX rfl 1 rfl dX9_rule_58 ?_
  refine nq_getr (v := .ref (nq_ad E 1)) hX inX9_rule_9 (nq_Model_0 hL) rfl 0 (by decide) lkX9_rule_7 _ rfl rfl dX9_rule_59 ?_
  refine nq_iconst hX (v := 5) (by decide) dX9_rule_62 ?_
  refine nq_iload_n hX rfl 2 rfl dX9_rule_63 ?_
  refine nq_iadd hX dX9_rule_64 ?_
  refine nq_iload_n hX rfl 3 rfl dX9_rule_65 ?_
  obtain ⟨M15, e15, hi15, h⟩ := nq_asE h
  refine nq_iast hX (nq_Model_d hL) e15 hi15 dX9_rule_66 ?_
  refine nq_iload_n hX rfl 0 rfl dX9_rule_67 ?_
  obtain ⟨rfl, rfl⟩ := nq_sE2 h; exact nq_iret hX hr dX9_rule_68
def fX9_rule (x1 : Int32) (x2 : Int32) (M : Mem) : Option (Int32 × Mem) :=
  (fX9_in x1.toInt64 (0 : Int64) (1 : Int64) M).bind fun v2 =>
  if v2 = 0 then
  (nq_b2 (fX9_finds (1 : Int32) M) fun v5 M6 =>
  some (v5, M6))
  else
  (if x1 = 0 then
  ((fX9_in x2.toInt64 (0 : Int64) (99 : Int64) M).bind fun v9 =>
  if v9 = 0 then
  (nq_b2 (fX9_finds (1 : Int32) M) fun v12 M13 =>
  some (v12, M13))
  else
  (fX9_rule_L49 x1 x2 M))
  else
  ((fX9_in x2.toInt64 (2 : Int64) (9 : Int64) M).bind fun v17 =>
  if v17 = 0 then
  (nq_b2 (fX9_finds (1 : Int32) M) fun v20 M21 =>
  some (v20, M21))
  else
  (fX9_rule_L49 x1 x2 M)))
set_option maxHeartbeats 4000000 in
theorem mX9_rule {X : Cx} {E : Ev} {l : Launch} {K : List Sh} {x1 : Int32} {x2 : Int32} {M : Mem} {r : Int32} {M' : Mem} (hL : nq_atModel E K) (hX : nq_OK X E l (nq_rm 2) cX9_rule 4 RX9 wsX9_rule) (hr : nq_RT X E (some .int) (some (.int r)) K M') (h : fX9_rule x1 x2 M = some (r, M')) : nq_G X E 4 0 [(0, .ref (nq_ad E 0)), (1, .int x1), (2, .int x2)] [] K M := by
  unfold fX9_rule at h
  refine nq_iload_n hX rfl 1 rfl dX9_rule_0 ?_
  refine nq_i2l hX dX9_rule_1 ?_
  refine nq_lconst hX (v := 0) (by decide) dX9_rule_2 ?_
  refine nq_lconst hX (v := 1) (by decide) dX9_rule_3 ?_
  obtain ⟨v2, hc1, h⟩ := nq_bE h
  refine nq_callSi hX (tX9_in  hc1) gX9_rule_X9_in rfl rfl dsX9_in (by decide) rfl (Nat.le_of_ble_eq_true rfl) dX9_rule_4 ?_
  refine nq_if_eq hX (tgt := 43) (by decide) dX9_rule_7 (fun c3 => ?_) (fun c3 => ?_)
  · rw [if_pos c3] at h
    refine nq_aload_n hX rfl 0 rfl dX9_rule_43 ?_
    refine nq_iconst hX (v := 1) (by decide) dX9_rule_44 ?_
    obtain ⟨v5, M6, hc4, h⟩ := nq_b2E h
    refine nq_callVi hX (tX9_finds hL hc4) gX9_rule_X9_finds rfl rfl dsX9_finds (by decide) (nq_Model_0 hL) rfl rfl (Nat.le_of_ble_eq_true rfl) dX9_rule_45 ?_
    obtain ⟨rfl, rfl⟩ := nq_sE2 h; exact nq_iret hX hr dX9_rule_48
  · rw [if_neg c3] at h
    refine nq_iload_n hX rfl 1 rfl dX9_rule_10 ?_
    refine nq_if_ne hX (tgt := 29) (by decide) dX9_rule_11 (fun c7 => ?_) (fun c7 => ?_)
    · rw [if_pos c7] at h
      refine nq_iload_n hX rfl 2 rfl dX9_rule_14 ?_
      refine nq_i2l hX dX9_rule_15 ?_
      refine nq_lconst hX (v := 0) (by decide) dX9_rule_16 ?_
      refine nq_ldc2 hX (v := 99) mmX9_rule_c89 dX9_rule_17 ?_
      obtain ⟨v9, hc8, h⟩ := nq_bE h
      refine nq_callSi hX (tX9_in  hc8) gX9_rule_X9_in rfl rfl dsX9_in (by decide) rfl (Nat.le_of_ble_eq_true rfl) dX9_rule_20 ?_
      refine nq_if_eq hX (tgt := 43) (by decide) dX9_rule_23 (fun c10 => ?_) (fun c10 => ?_)
      · rw [if_pos c10] at h
        refine nq_aload_n hX rfl 0 rfl dX9_rule_43 ?_
        refine nq_iconst hX (v := 1) (by decide) dX9_rule_44 ?_
        obtain ⟨v12, M13, hc11, h⟩ := nq_b2E h
        refine nq_callVi hX (tX9_finds hL hc11) gX9_rule_X9_finds rfl rfl dsX9_finds (by decide) (nq_Model_0 hL) rfl rfl (Nat.le_of_ble_eq_true rfl) dX9_rule_45 ?_
        obtain ⟨rfl, rfl⟩ := nq_sE2 h; exact nq_iret hX hr dX9_rule_48
      · rw [if_neg c10] at h
        refine nq_goto hX (tgt := 49) (by decide) dX9_rule_26 ?_
        exact mX9_rule_L49 hL hX hr h
    · rw [if_neg c7] at h
      refine nq_iload_n hX rfl 2 rfl dX9_rule_29 ?_
      refine nq_i2l hX dX9_rule_30 ?_
      refine nq_ldc2 hX (v := 2) mmX9_rule_c91 dX9_rule_31 ?_
      refine nq_ldc2 hX (v := 9) mmX9_rule_c93 dX9_rule_34 ?_
      obtain ⟨v17, hc16, h⟩ := nq_bE h
      refine nq_callSi hX (tX9_in  hc16) gX9_rule_X9_in rfl rfl dsX9_in (by decide) rfl (Nat.le_of_ble_eq_true rfl) dX9_rule_37 ?_
      refine nq_if_ne hX (tgt := 49) (by decide) dX9_rule_40 (fun c18 => ?_) (fun c18 => ?_)
      · rw [if_pos c18] at h
        refine nq_aload_n hX rfl 0 rfl dX9_rule_43 ?_
        refine nq_iconst hX (v := 1) (by decide) dX9_rule_44 ?_
        obtain ⟨v20, M21, hc19, h⟩ := nq_b2E h
        refine nq_callVi hX (tX9_finds hL hc19) gX9_rule_X9_finds rfl rfl dsX9_finds (by decide) (nq_Model_0 hL) rfl rfl (Nat.le_of_ble_eq_true rfl) dX9_rule_45 ?_
        obtain ⟨rfl, rfl⟩ := nq_sE2 h; exact nq_iret hX hr dX9_rule_48
      · rw [if_neg c18] at h
        exact mX9_rule_L49 hL hX hr h
theorem dsX9_rule : yX9_rule.cls ≠ "java/lang/invoke/MethodHandle" ∧ yX9_rule.cls ≠ "java/lang/invoke/VarHandle" ∧ (parseMethodDescriptor yX9_rule.desc).map (fun d => d.parameters.length) = some 2 := by decide +kernel
theorem tX9_rule {l : Launch} {E : Ev} {K : List Sh} {x1 : Int32} {x2 : Int32} {M : Mem} {r : Int32} {M' : Mem} (hL : nq_atModel E K) (h : fX9_rule x1 x2 M = some (r, M')) : nq_MA l E yX9_rule wsX9_rule (nq_rm 2) [.ref (nq_ad E 0), .int x1, .int x2] K M (some (.int r)) K M' :=
  nq_met (own := RX9) (cc := cX9_rule) (maxL := 4) (ret := (some .int)) (by decide) rfl rfl (Nat.le_of_ble_eq_true rfl) (fun X hX hr => mX9_rule hL hX hr h)

theorem mmX9_isPart_c93 : Cond.constantLong RX9 93 (9) ∈ wsX9_isPart := by decide +kernel
def fX9_isPart (x0 : Int32) (M : Mem) : Option (Int32) :=
  if x0 < 0 then
  (some (0 : Int32))
  else
  ((nq_rem x0 (10 : Int32)).bind fun v2 =>
  (fX9_in v2.toInt64 (1 : Int64) (9 : Int64) M).bind fun v4 =>
  if v4 = 0 then
  (some (0 : Int32))
  else
  ((nq_dv x0 (10 : Int32)).bind fun v6 =>
  (nq_rem x0 (10 : Int32)).bind fun v7 =>
  if v7 < v6 then
  (some (0 : Int32))
  else
  (some (1 : Int32))))
set_option maxHeartbeats 4000000 in
theorem mX9_isPart {X : Cx} {E : Ev} {l : Launch} {K : List Sh} {x0 : Int32} {M : Mem} {r : Int32}  (hX : nq_OK X E l (nq_rm 2) cX9_isPart 1 RX9 wsX9_isPart) (hr : nq_RT X E (some .boolean) (some (.int r)) K M) (h : fX9_isPart x0 M = some r) : nq_G X E 1 0 [(0, .int x0)] [] K M := by
  unfold fX9_isPart at h
  refine nq_iload_n hX rfl 0 rfl dX9_isPart_0 ?_
  refine nq_if_lt hX (tgt := 34) (by decide) dX9_isPart_1 (fun c1 => ?_) (fun c1 => ?_)
  · rw [if_pos c1] at h
    refine nq_iconst hX (v := 0) (by decide) dX9_isPart_34 ?_
    obtain rfl := nq_sE1 h; exact nq_zret hX hr rfl dX9_isPart_35
  · rw [if_neg c1] at h
    refine nq_iload_n hX rfl 0 rfl dX9_isPart_4 ?_
    refine nq_bipush hX (v := 10) (by decide) dX9_isPart_5 ?_
    obtain ⟨v2, e2, hn2, h⟩ := nq_ifE h
    refine nq_irem hX hn2 e2 dX9_isPart_7 ?_
    refine nq_i2l hX dX9_isPart_8 ?_
    refine nq_lconst hX (v := 1) (by decide) dX9_isPart_9 ?_
    refine nq_ldc2 hX (v := 9) mmX9_isPart_c93 dX9_isPart_10 ?_
    obtain ⟨v4, hc3, h⟩ := nq_bE h
    refine nq_callSi hX (tX9_in  hc3) gX9_isPart_X9_in rfl rfl dsX9_in (by decide) rfl (Nat.le_of_ble_eq_true rfl) dX9_isPart_13 ?_
    refine nq_if_eq hX (tgt := 34) (by decide) dX9_isPart_16 (fun c5 => ?_) (fun c5 => ?_)
    · rw [if_pos c5] at h
      refine nq_iconst hX (v := 0) (by decide) dX9_isPart_34 ?_
      obtain rfl := nq_sE1 h; exact nq_zret hX hr rfl dX9_isPart_35
    · rw [if_neg c5] at h
      refine nq_iload_n hX rfl 0 rfl dX9_isPart_19 ?_
      refine nq_bipush hX (v := 10) (by decide) dX9_isPart_20 ?_
      obtain ⟨v6, e6, hn6, h⟩ := nq_ifE h
      refine nq_idiv hX hn6 e6 dX9_isPart_22 ?_
      refine nq_iload_n hX rfl 0 rfl dX9_isPart_23 ?_
      refine nq_bipush hX (v := 10) (by decide) dX9_isPart_24 ?_
      obtain ⟨v7, e7, hn7, h⟩ := nq_ifE h
      refine nq_irem hX hn7 e7 dX9_isPart_26 ?_
      refine nq_icmp_gt hX (tgt := 34) (by decide) dX9_isPart_27 (fun c8 => ?_) (fun c8 => ?_)
      · rw [if_pos c8] at h
        refine nq_iconst hX (v := 0) (by decide) dX9_isPart_34 ?_
        obtain rfl := nq_sE1 h; exact nq_zret hX hr rfl dX9_isPart_35
      · rw [if_neg c8] at h
        refine nq_iconst hX (v := 1) (by decide) dX9_isPart_30 ?_
        refine nq_goto hX (tgt := 35) (by decide) dX9_isPart_31 ?_
        obtain rfl := nq_sE1 h; exact nq_zret hX hr rfl dX9_isPart_35
theorem dsX9_isPart : yX9_isPart.cls ≠ "java/lang/invoke/MethodHandle" ∧ yX9_isPart.cls ≠ "java/lang/invoke/VarHandle" ∧ (parseMethodDescriptor yX9_isPart.desc).map (fun d => d.parameters.length) = some 1 := by decide +kernel
theorem tX9_isPart {l : Launch} {E : Ev} {K : List Sh} {x0 : Int32} {M : Mem} {r : Int32}  (h : fX9_isPart x0 M = some r) : nq_MA l E yX9_isPart wsX9_isPart (nq_rm 2) [.int x0] K M (some (.int r)) K M :=
  nq_met (own := RX9) (cc := cX9_isPart) (maxL := 1) (ret := (some .boolean)) (by decide) rfl rfl (Nat.le_of_ble_eq_true rfl) (fun X hX hr => mX9_isPart  hX hr h)

theorem inX9_loss_9 : ∀ w ∈ u_ws RX9 TX9 23, w ∈ wsX9_loss := by
  intro w h; unfold wsX9_loss; simp only [List.mem_cons, List.mem_append]; simp only [h, true_or, or_true]
theorem lkX9_loss_7 : Cond.fieldLink RX9 7 (TX9 0).1 (TX9 0).2.1 (TX9 0).2.2.1 ∈ wsX9_loss := by decide +kernel
def fX9_loss (x1 : Int32) (M : Mem) : Option (Int32 × Mem) :=
  (fX9_isPart x1 M).bind fun v2 =>
  if v2 = 0 then
  (nq_b2 (fX9_finds (1 : Int32) M) fun v5 M6 =>
  some (v5, M6))
  else
  ((nq_ag (M 1) 1250 (7 : Int32)).bind fun v7 =>
  (nq_ag (M 1) 1250 (8 : Int32)).bind fun v8 =>
  nq_lt ((((10 : Int32) * v7) + v8)) fun v9 =>
  (nq_dv x1 (10 : Int32)).bind fun v10 =>
  (nq_as M 1 1250 (7 : Int32) v10).bind fun M11 =>
  (nq_rem x1 (10 : Int32)).bind fun v12 =>
  (nq_as M11 1 1250 (8 : Int32) v12).bind fun M13 =>
  some (v9, M13))
set_option maxHeartbeats 4000000 in
theorem mX9_loss {X : Cx} {E : Ev} {l : Launch} {K : List Sh} {x1 : Int32} {M : Mem} {r : Int32} {M' : Mem} (hL : nq_atModel E K) (hX : nq_OK X E l (nq_rm 3) cX9_loss 3 RX9 wsX9_loss) (hr : nq_RT X E (some .int) (some (.int r)) K M') (h : fX9_loss x1 M = some (r, M')) : nq_G X E 3 0 [(0, .ref (nq_ad E 0)), (1, .int x1)] [] K M := by
  unfold fX9_loss at h
  refine nq_iload_n hX rfl 1 rfl dX9_loss_0 ?_
  obtain ⟨v2, hc1, h⟩ := nq_bE h
  refine nq_callSi hX (tX9_isPart  hc1) gX9_loss_X9_isPart rfl rfl dsX9_isPart (by decide) rfl (Nat.le_of_ble_eq_true rfl) dX9_loss_1 ?_
  refine nq_if_ne hX (tgt := 13) (by decide) dX9_loss_4 (fun c3 => ?_) (fun c3 => ?_)
  · rw [if_pos c3] at h
    refine nq_aload_n hX rfl 0 rfl dX9_loss_7 ?_
    refine nq_iconst hX (v := 1) (by decide) dX9_loss_8 ?_
    obtain ⟨v5, M6, hc4, h⟩ := nq_b2E h
    refine nq_callVi hX (tX9_finds hL hc4) gX9_loss_X9_finds rfl rfl dsX9_finds (by decide) (nq_Model_0 hL) rfl rfl (Nat.le_of_ble_eq_true rfl) dX9_loss_9 ?_
    obtain ⟨rfl, rfl⟩ := nq_sE2 h; exact nq_iret hX hr dX9_loss_12
  · rw [if_neg c3] at h
    refine nq_bipush hX (v := 10) (by decide) dX9_loss_13 ?_
    refine nq_aload_n hX rfl 0 rfl dX9_loss_15 ?_
    refine nq_getr (v := .ref (nq_ad E 1)) hX inX9_loss_9 (nq_Model_0 hL) rfl 0 (by decide) lkX9_loss_7 _ rfl rfl dX9_loss_16 ?_
    refine nq_bipush hX (v := 7) (by decide) dX9_loss_19 ?_
    obtain ⟨v7, e7, hi7, h⟩ := nq_agE h
    refine nq_iald hX (nq_Model_d hL) e7 hi7 dX9_loss_21 ?_
    refine nq_imul hX dX9_loss_22 ?_
    refine nq_aload_n hX rfl 0 rfl dX9_loss_23 ?_
    refine nq_getr (v := .ref (nq_ad E 1)) hX inX9_loss_9 (nq_Model_0 hL) rfl 0 (by decide) lkX9_loss_7 _ rfl rfl dX9_loss_24 ?_
    refine nq_bipush hX (v := 8) (by decide) dX9_loss_27 ?_
    obtain ⟨v8, e8, hi8, h⟩ := nq_agE h
    refine nq_iald hX (nq_Model_d hL) e8 hi8 dX9_loss_29 ?_
    refine nq_iadd hX dX9_loss_30 ?_
    obtain ⟨v9, e9, h⟩ := nq_ltE h
    refine nq_istore_n hX (lv' := [(2, .int v9), (0, .ref (nq_ad E 0)), (1, .int x1)]) rfl (by decide) e9 rfl dX9_loss_31 ?_
    refine nq_aload_n hX rfl 1 rfl dX9_loss_32 ?_
    refine nq_getr (v := .ref (nq_ad E 1)) hX inX9_loss_9 (nq_Model_0 hL) rfl 0 (by decide) lkX9_loss_7 _ rfl rfl dX9_loss_33 ?_
    refine nq_bipush hX (v := 7) (by decide) dX9_loss_36 ?_
    refine nq_iload_n hX rfl 2 rfl dX9_loss_38 ?_
    refine nq_bipush hX (v := 10) (by decide) dX9_loss_39 ?_
    obtain ⟨v10, e10, hn10, h⟩ := nq_ifE h
    refine nq_idiv hX hn10 e10 dX9_loss_41 ?_
    obtain ⟨M11, e11, hi11, h⟩ := nq_asE h
    refine nq_iast hX (nq_Model_d hL) e11 hi11 dX9_loss_42 ?_
    refine nq_aload_n hX rfl 1 rfl dX9_loss_43 ?_
    refine nq_getr (v := .ref (nq_ad E 1)) hX inX9_loss_9 (nq_Model_0 hL) rfl 0 (by decide) lkX9_loss_7 _ rfl rfl dX9_loss_44 ?_
    refine nq_bipush hX (v := 8) (by decide) dX9_loss_47 ?_
    refine nq_iload_n hX rfl 2 rfl dX9_loss_49 ?_
    refine nq_bipush hX (v := 10) (by decide) dX9_loss_50 ?_
    obtain ⟨v12, e12, hn12, h⟩ := nq_ifE h
    refine nq_irem hX hn12 e12 dX9_loss_52 ?_
    obtain ⟨M13, e13, hi13, h⟩ := nq_asE h
    refine nq_iast hX (nq_Model_d hL) e13 hi13 dX9_loss_53 ?_
    refine nq_iload_n hX rfl 0 rfl dX9_loss_54 ?_
    obtain ⟨rfl, rfl⟩ := nq_sE2 h; exact nq_iret hX hr dX9_loss_55
theorem dsX9_loss : yX9_loss.cls ≠ "java/lang/invoke/MethodHandle" ∧ yX9_loss.cls ≠ "java/lang/invoke/VarHandle" ∧ (parseMethodDescriptor yX9_loss.desc).map (fun d => d.parameters.length) = some 1 := by decide +kernel
theorem tX9_loss {l : Launch} {E : Ev} {K : List Sh} {x1 : Int32} {M : Mem} {r : Int32} {M' : Mem} (hL : nq_atModel E K) (h : fX9_loss x1 M = some (r, M')) : nq_MA l E yX9_loss wsX9_loss (nq_rm 3) [.ref (nq_ad E 0), .int x1] K M (some (.int r)) K M' :=
  nq_met (own := RX9) (cc := cX9_loss) (maxL := 3) (ret := (some .int)) (by decide) rfl rfl (Nat.le_of_ble_eq_true rfl) (fun X hX hr => mX9_loss hL hX hr h)

theorem inX9_drawn_9 : ∀ w ∈ u_ws RX9 TX9 23, w ∈ wsX9_drawn := by
  intro w h; unfold wsX9_drawn; simp only [List.mem_cons, List.mem_append]; simp only [h, true_or, or_true]
theorem lkX9_drawn_7 : Cond.fieldLink RX9 7 (TX9 0).1 (TX9 0).2.1 (TX9 0).2.2.1 ∈ wsX9_drawn := by decide +kernel
theorem mmX9_drawn_c98 : Cond.constant RX9 98 (1103515245) ∈ wsX9_drawn := by decide +kernel
def fX9_drawn (M : Mem) : Option (Int32 × Mem) :=
  (nq_ag (M 1) 1250 (4 : Int32)).bind fun v1 =>
  (nq_as M 1 1250 (4 : Int32) ((v1 * (1103515245 : Int32)) + (12345 : Int32))).bind fun M2 =>
  (nq_ag (M2 1) 1250 (4 : Int32)).bind fun v3 =>
  some ((v3.toUInt32 >>> ((8 : Int32).toUInt32 &&& Int32.toUInt32 31)).toInt32, M2)
set_option maxHeartbeats 4000000 in
theorem mX9_drawn {X : Cx} {E : Ev} {l : Launch} {K : List Sh} {M : Mem} {r : Int32} {M' : Mem} (hL : nq_atModel E K) (hX : nq_OK X E l (nq_rm 1) cX9_drawn 1 RX9 wsX9_drawn) (hr : nq_RT X E (some .int) (some (.int r)) K M') (h : fX9_drawn M = some (r, M')) : nq_G X E 1 0 [(0, .ref (nq_ad E 0))] [] K M := by
  unfold fX9_drawn at h
  refine nq_aload_n hX rfl 0 rfl dX9_drawn_0 ?_
  refine nq_getr (v := .ref (nq_ad E 1)) hX inX9_drawn_9 (nq_Model_0 hL) rfl 0 (by decide) lkX9_drawn_7 _ rfl rfl dX9_drawn_1 ?_
  refine nq_iconst hX (v := 4) (by decide) dX9_drawn_4 ?_
  refine nq_aload_n hX rfl 0 rfl dX9_drawn_5 ?_
  refine nq_getr (v := .ref (nq_ad E 1)) hX inX9_drawn_9 (nq_Model_0 hL) rfl 0 (by decide) lkX9_drawn_7 _ rfl rfl dX9_drawn_6 ?_
  refine nq_iconst hX (v := 4) (by decide) dX9_drawn_9 ?_
  obtain ⟨v1, e1, hi1, h⟩ := nq_agE h
  refine nq_iald hX (nq_Model_d hL) e1 hi1 dX9_drawn_10 ?_
  refine nq_ldc hX (v := 1103515245) mmX9_drawn_c98 dX9_drawn_11 ?_
  refine nq_imul hX dX9_drawn_13 ?_
  refine nq_sipush hX (v := 12345) (by decide) dX9_drawn_14 ?_
  refine nq_iadd hX dX9_drawn_17 ?_
  obtain ⟨M2, e2, hi2, h⟩ := nq_asE h
  refine nq_iast hX (nq_Model_d hL) e2 hi2 dX9_drawn_18 ?_
  refine nq_aload_n hX rfl 0 rfl dX9_drawn_19 ?_
  refine nq_getr (v := .ref (nq_ad E 1)) hX inX9_drawn_9 (nq_Model_0 hL) rfl 0 (by decide) lkX9_drawn_7 _ rfl rfl dX9_drawn_20 ?_
  refine nq_iconst hX (v := 4) (by decide) dX9_drawn_23 ?_
  obtain ⟨v3, e3, hi3, h⟩ := nq_agE h
  refine nq_iald hX (nq_Model_d hL) e3 hi3 dX9_drawn_24 ?_
  refine nq_bipush hX (v := 8) (by decide) dX9_drawn_25 ?_
  refine nq_iushr hX dX9_drawn_27 ?_
  obtain ⟨rfl, rfl⟩ := nq_sE2 h; exact nq_iret hX hr dX9_drawn_28
theorem dsX9_drawn : yX9_drawn.cls ≠ "java/lang/invoke/MethodHandle" ∧ yX9_drawn.cls ≠ "java/lang/invoke/VarHandle" ∧ (parseMethodDescriptor yX9_drawn.desc).map (fun d => d.parameters.length) = some 0 := by decide +kernel
theorem tX9_drawn {l : Launch} {E : Ev} {K : List Sh} {M : Mem} {r : Int32} {M' : Mem} (hL : nq_atModel E K) (h : fX9_drawn M = some (r, M')) : nq_MA l E yX9_drawn wsX9_drawn (nq_rm 1) [.ref (nq_ad E 0)] K M (some (.int r)) K M' :=
  nq_met (own := RX9) (cc := cX9_drawn) (maxL := 1) (ret := (some .int)) (by decide) rfl rfl (Nat.le_of_ble_eq_true rfl) (fun X hX hr => mX9_drawn hL hX hr h)

def fX9_hasCome (x1 : Int32) (x2 : Int32) (x3 : Int32) (x4 : Int32) (M : Mem) : Option (Int32) :=
  (fX9_wo x1 (2 : Int32) M).bind fun v2 =>
  if v2 = x2 then
  ((fX9_wo x1 (3 : Int32) M).bind fun v5 =>
  if v5 = x3 then
  ((fX9_wo x1 (5 : Int32) M).bind fun v8 =>
  if v8 < 0 then
  (some (0 : Int32))
  else
  ((fX9_wo x1 (5 : Int32) M).bind fun v11 =>
  if x4 < v11 then
  (some (0 : Int32))
  else
  (some (1 : Int32))))
  else
  (some (0 : Int32)))
  else
  (some (0 : Int32))
set_option maxHeartbeats 4000000 in
theorem mX9_hasCome {X : Cx} {E : Ev} {l : Launch} {K : List Sh} {x1 : Int32} {x2 : Int32} {x3 : Int32} {x4 : Int32} {M : Mem} {r : Int32} (hL : nq_atModel E K) (hX : nq_OK X E l (nq_rm 2) cX9_hasCome 5 RX9 wsX9_hasCome) (hr : nq_RT X E (some .boolean) (some (.int r)) K M) (h : fX9_hasCome x1 x2 x3 x4 M = some r) : nq_G X E 5 0 [(0, .ref (nq_ad E 0)), (1, .int x1), (2, .int x2), (3, .int x3), (4, .int x4)] [] K M := by
  unfold fX9_hasCome at h
  refine nq_aload_n hX rfl 0 rfl dX9_hasCome_0 ?_
  refine nq_iload_n hX rfl 1 rfl dX9_hasCome_1 ?_
  refine nq_iconst hX (v := 2) (by decide) dX9_hasCome_2 ?_
  obtain ⟨v2, hc1, h⟩ := nq_bE h
  refine nq_callVi hX (tX9_wo hL hc1) gX9_hasCome_X9_wo rfl rfl dsX9_wo (by decide) (nq_Model_0 hL) rfl rfl (Nat.le_of_ble_eq_true rfl) dX9_hasCome_3 ?_
  refine nq_iload_n hX rfl 2 rfl dX9_hasCome_6 ?_
  refine nq_icmp_ne hX (tgt := 44) (by decide) dX9_hasCome_7 (fun c3 => ?_) (fun c3 => ?_)
  · rw [if_pos c3] at h
    refine nq_aload_n hX rfl 0 rfl dX9_hasCome_10 ?_
    refine nq_iload_n hX rfl 1 rfl dX9_hasCome_11 ?_
    refine nq_iconst hX (v := 3) (by decide) dX9_hasCome_12 ?_
    obtain ⟨v5, hc4, h⟩ := nq_bE h
    refine nq_callVi hX (tX9_wo hL hc4) gX9_hasCome_X9_wo rfl rfl dsX9_wo (by decide) (nq_Model_0 hL) rfl rfl (Nat.le_of_ble_eq_true rfl) dX9_hasCome_13 ?_
    refine nq_iload_n hX rfl 3 rfl dX9_hasCome_16 ?_
    refine nq_icmp_ne hX (tgt := 44) (by decide) dX9_hasCome_17 (fun c6 => ?_) (fun c6 => ?_)
    · rw [if_pos c6] at h
      refine nq_aload_n hX rfl 0 rfl dX9_hasCome_20 ?_
      refine nq_iload_n hX rfl 1 rfl dX9_hasCome_21 ?_
      refine nq_iconst hX (v := 5) (by decide) dX9_hasCome_22 ?_
      obtain ⟨v8, hc7, h⟩ := nq_bE h
      refine nq_callVi hX (tX9_wo hL hc7) gX9_hasCome_X9_wo rfl rfl dsX9_wo (by decide) (nq_Model_0 hL) rfl rfl (Nat.le_of_ble_eq_true rfl) dX9_hasCome_23 ?_
      refine nq_if_lt hX (tgt := 44) (by decide) dX9_hasCome_26 (fun c9 => ?_) (fun c9 => ?_)
      · rw [if_pos c9] at h
        refine nq_iconst hX (v := 0) (by decide) dX9_hasCome_44 ?_
        obtain rfl := nq_sE1 h; exact nq_zret hX hr rfl dX9_hasCome_45
      · rw [if_neg c9] at h
        refine nq_aload_n hX rfl 0 rfl dX9_hasCome_29 ?_
        refine nq_iload_n hX rfl 1 rfl dX9_hasCome_30 ?_
        refine nq_iconst hX (v := 5) (by decide) dX9_hasCome_31 ?_
        obtain ⟨v11, hc10, h⟩ := nq_bE h
        refine nq_callVi hX (tX9_wo hL hc10) gX9_hasCome_X9_wo rfl rfl dsX9_wo (by decide) (nq_Model_0 hL) rfl rfl (Nat.le_of_ble_eq_true rfl) dX9_hasCome_32 ?_
        refine nq_iload hX 4 rfl dX9_hasCome_35 ?_
        refine nq_icmp_gt hX (tgt := 44) (by decide) dX9_hasCome_37 (fun c12 => ?_) (fun c12 => ?_)
        · rw [if_pos c12] at h
          refine nq_iconst hX (v := 0) (by decide) dX9_hasCome_44 ?_
          obtain rfl := nq_sE1 h; exact nq_zret hX hr rfl dX9_hasCome_45
        · rw [if_neg c12] at h
          refine nq_iconst hX (v := 1) (by decide) dX9_hasCome_40 ?_
          refine nq_goto hX (tgt := 45) (by decide) dX9_hasCome_41 ?_
          obtain rfl := nq_sE1 h; exact nq_zret hX hr rfl dX9_hasCome_45
    · rw [if_neg c6] at h
      refine nq_iconst hX (v := 0) (by decide) dX9_hasCome_44 ?_
      obtain rfl := nq_sE1 h; exact nq_zret hX hr rfl dX9_hasCome_45
  · rw [if_neg c3] at h
    refine nq_iconst hX (v := 0) (by decide) dX9_hasCome_44 ?_
    obtain rfl := nq_sE1 h; exact nq_zret hX hr rfl dX9_hasCome_45
theorem dsX9_hasCome : yX9_hasCome.cls ≠ "java/lang/invoke/MethodHandle" ∧ yX9_hasCome.cls ≠ "java/lang/invoke/VarHandle" ∧ (parseMethodDescriptor yX9_hasCome.desc).map (fun d => d.parameters.length) = some 4 := by decide +kernel
theorem tX9_hasCome {l : Launch} {E : Ev} {K : List Sh} {x1 : Int32} {x2 : Int32} {x3 : Int32} {x4 : Int32} {M : Mem} {r : Int32} (hL : nq_atModel E K) (h : fX9_hasCome x1 x2 x3 x4 M = some r) : nq_MA l E yX9_hasCome wsX9_hasCome (nq_rm 2) [.ref (nq_ad E 0), .int x1, .int x2, .int x3, .int x4] K M (some (.int r)) K M :=
  nq_met (own := RX9) (cc := cX9_hasCome) (maxL := 5) (ret := (some .boolean)) (by decide) rfl rfl (Nat.le_of_ble_eq_true rfl) (fun X hX hr => mX9_hasCome hL hX hr h)

theorem inX9_knownBy_9 : ∀ w ∈ u_ws RX9 TX9 23, w ∈ wsX9_knownBy := by
  intro w h; unfold wsX9_knownBy; simp only [List.mem_cons, List.mem_append]; simp only [h, true_or, or_true]
theorem lkX9_knownBy_7 : Cond.fieldLink RX9 7 (TX9 0).1 (TX9 0).2.1 (TX9 0).2.2.1 ∈ wsX9_knownBy := by decide +kernel
def fX9_knownBy_B6 (x1 : Int32) (x2 : Int32) (x3 : Int32) (x4 : Int32) (x5 : Int32) (M : Mem) : Option ((Int32 × Int32) ⊕ (Int32)) :=
  (nq_ag (M 1) 1250 (2 : Int32)).bind fun v1 =>
  if v1 ≤ x5 then
  (some (.inr x4))
  else
  ((fX9_hasCome x5 x1 x2 x3 M).bind fun v4 =>
  if v4 = 0 then
  (nq_lt (x5 + (1 : Int32)) fun v6 =>
  some (.inl (x4, v6)))
  else
  ((fX9_wo x5 (7 : Int32) M).bind fun v8 =>
  if v8 ≤ x4 then
  (nq_lt (x5 + (1 : Int32)) fun v10 =>
  some (.inl (x4, v10)))
  else
  ((fX9_wo x5 (7 : Int32) M).bind fun v12 =>
  nq_lt (x5 + (1 : Int32)) fun v13 =>
  some (.inl (v12, v13)))))
set_option maxHeartbeats 4000000 in
theorem mX9_knownBy_B6 {X : Cx} {E : Ev} {l : Launch} {K : List Sh} {x1 : Int32} {x2 : Int32} {x3 : Int32} {x4 : Int32} {x5 : Int32} {M : Mem} (hL : nq_atModel E K) (hX : nq_OK X E l (nq_rm 3) cX9_knownBy 6 RX9 wsX9_knownBy) {x : (Int32 × Int32) ⊕ (Int32)} (hc : ∀ s' : Int32 × Int32, x = .inl s' → nq_G X E 6 6 [(0, .ref (nq_ad E 0)), (1, .int x1), (2, .int x2), (3, .int x3), (4, .int s'.1), (5, .int s'.2)] [] K M) (he : ∀ s' : Int32, x = .inr s' → nq_G X E 6 63 [(4, .int s')] [] K M) (h : fX9_knownBy_B6 x1 x2 x3 x4 x5 M = some x) : nq_G X E 6 6 [(0, .ref (nq_ad E 0)), (1, .int x1), (2, .int x2), (3, .int x3), (4, .int x4), (5, .int x5)] [] K M := by
  unfold fX9_knownBy_B6 at h
  refine nq_iload hX 5 rfl dX9_knownBy_6 ?_
  refine nq_aload_n hX rfl 0 rfl dX9_knownBy_8 ?_
  refine nq_getr (v := .ref (nq_ad E 1)) hX inX9_knownBy_9 (nq_Model_0 hL) rfl 0 (by decide) lkX9_knownBy_7 _ rfl rfl dX9_knownBy_9 ?_
  refine nq_iconst hX (v := 2) (by decide) dX9_knownBy_12 ?_
  obtain ⟨v1, e1, hi1, h⟩ := nq_agE h
  refine nq_iald hX (nq_Model_d hL) e1 hi1 dX9_knownBy_13 ?_
  refine nq_icmp_ge hX (tgt := 63) (by decide) dX9_knownBy_14 (fun c2 => ?_) (fun c2 => ?_)
  · rw [if_pos c2] at h
    refine nq_sub (lv' := [(4, .int x4)]) [4] rfl ?_
    exact he x4 (nq_sE h).symm
  · rw [if_neg c2] at h
    refine nq_aload_n hX rfl 0 rfl dX9_knownBy_17 ?_
    refine nq_iload hX 5 rfl dX9_knownBy_18 ?_
    refine nq_iload_n hX rfl 1 rfl dX9_knownBy_20 ?_
    refine nq_iload_n hX rfl 2 rfl dX9_knownBy_21 ?_
    refine nq_iload_n hX rfl 3 rfl dX9_knownBy_22 ?_
    obtain ⟨v4, hc3, h⟩ := nq_bE h
    refine nq_callVi hX (tX9_hasCome hL hc3) gX9_knownBy_X9_hasCome rfl rfl dsX9_hasCome (by decide) (nq_Model_0 hL) rfl rfl (Nat.le_of_ble_eq_true rfl) dX9_knownBy_23 ?_
    refine nq_if_eq hX (tgt := 53) (by decide) dX9_knownBy_26 (fun c5 => ?_) (fun c5 => ?_)
    · rw [if_pos c5] at h
      refine nq_iload hX 4 rfl dX9_knownBy_53 ?_
      refine nq_istore hX (lv' := [(4, .int x4), (0, .ref (nq_ad E 0)), (1, .int x1), (2, .int x2), (3, .int x3), (5, .int x5)]) (by decide) rfl rfl dX9_knownBy_55 ?_
      obtain ⟨v6, e6, h⟩ := nq_ltE h
      refine nq_iinc hX (lv' := [(5, .int v6), (4, .int x4), (0, .ref (nq_ad E 0)), (1, .int x1), (2, .int x2), (3, .int x3)]) (j := 5) rfl (e6.trans rfl) (by decide) rfl dX9_knownBy_57 ?_
      refine nq_goto hX (tgt := 6) (by decide) dX9_knownBy_60 ?_
      refine nq_sub (lv' := [(0, .ref (nq_ad E 0)), (1, .int x1), (2, .int x2), (3, .int x3), (4, .int x4), (5, .int v6)]) [2, 3, 4, 5, 1, 0] rfl ?_
      exact hc (x4, v6) (nq_sE h).symm
    · rw [if_neg c5] at h
      refine nq_aload_n hX rfl 0 rfl dX9_knownBy_29 ?_
      refine nq_iload hX 5 rfl dX9_knownBy_30 ?_
      refine nq_bipush hX (v := 7) (by decide) dX9_knownBy_32 ?_
      obtain ⟨v8, hc7, h⟩ := nq_bE h
      refine nq_callVi hX (tX9_wo hL hc7) gX9_knownBy_X9_wo rfl rfl dsX9_wo (by decide) (nq_Model_0 hL) rfl rfl (Nat.le_of_ble_eq_true rfl) dX9_knownBy_34 ?_
      refine nq_iload hX 4 rfl dX9_knownBy_37 ?_
      refine nq_icmp_le hX (tgt := 53) (by decide) dX9_knownBy_39 (fun c9 => ?_) (fun c9 => ?_)
      · rw [if_pos c9] at h
        refine nq_iload hX 4 rfl dX9_knownBy_53 ?_
        refine nq_istore hX (lv' := [(4, .int x4), (0, .ref (nq_ad E 0)), (1, .int x1), (2, .int x2), (3, .int x3), (5, .int x5)]) (by decide) rfl rfl dX9_knownBy_55 ?_
        obtain ⟨v10, e10, h⟩ := nq_ltE h
        refine nq_iinc hX (lv' := [(5, .int v10), (4, .int x4), (0, .ref (nq_ad E 0)), (1, .int x1), (2, .int x2), (3, .int x3)]) (j := 5) rfl (e10.trans rfl) (by decide) rfl dX9_knownBy_57 ?_
        refine nq_goto hX (tgt := 6) (by decide) dX9_knownBy_60 ?_
        refine nq_sub (lv' := [(0, .ref (nq_ad E 0)), (1, .int x1), (2, .int x2), (3, .int x3), (4, .int x4), (5, .int v10)]) [2, 3, 4, 5, 1, 0] rfl ?_
        exact hc (x4, v10) (nq_sE h).symm
      · rw [if_neg c9] at h
        refine nq_aload_n hX rfl 0 rfl dX9_knownBy_42 ?_
        refine nq_iload hX 5 rfl dX9_knownBy_43 ?_
        refine nq_bipush hX (v := 7) (by decide) dX9_knownBy_45 ?_
        obtain ⟨v12, hc11, h⟩ := nq_bE h
        refine nq_callVi hX (tX9_wo hL hc11) gX9_knownBy_X9_wo rfl rfl dsX9_wo (by decide) (nq_Model_0 hL) rfl rfl (Nat.le_of_ble_eq_true rfl) dX9_knownBy_47 ?_
        refine nq_goto hX (tgt := 55) (by decide) dX9_knownBy_50 ?_
        refine nq_istore hX (lv' := [(4, .int v12), (0, .ref (nq_ad E 0)), (1, .int x1), (2, .int x2), (3, .int x3), (5, .int x5)]) (by decide) rfl rfl dX9_knownBy_55 ?_
        obtain ⟨v13, e13, h⟩ := nq_ltE h
        refine nq_iinc hX (lv' := [(5, .int v13), (4, .int v12), (0, .ref (nq_ad E 0)), (1, .int x1), (2, .int x2), (3, .int x3)]) (j := 5) rfl (e13.trans rfl) (by decide) rfl dX9_knownBy_57 ?_
        refine nq_goto hX (tgt := 6) (by decide) dX9_knownBy_60 ?_
        refine nq_sub (lv' := [(0, .ref (nq_ad E 0)), (1, .int x1), (2, .int x2), (3, .int x3), (4, .int v12), (5, .int v13)]) [2, 3, 4, 5, 1, 0] rfl ?_
        exact hc (v12, v13) (nq_sE h).symm
def fX9_knownBy_L63 (x4 : Int32) (M : Mem) : Option (Int32) :=
  some x4
set_option maxHeartbeats 4000000 in
theorem mX9_knownBy_L63 {X : Cx} {E : Ev} {l : Launch} {K : List Sh} {x4 : Int32} {M : Mem} {r : Int32} (hL : nq_atModel E K) (hX : nq_OK X E l (nq_rm 3) cX9_knownBy 6 RX9 wsX9_knownBy) (hr : nq_RT X E (some .int) (some (.int r)) K M) (h : fX9_knownBy_L63 x4 M = some r) : nq_G X E 6 63 [(4, .int x4)] [] K M := by
  unfold fX9_knownBy_L63 at h
  refine nq_iload hX 0 rfl dX9_knownBy_63 ?_
  obtain rfl := nq_sE1 h; exact nq_iret hX hr dX9_knownBy_65
def fX9_knownBy_L6 (x1 : Int32) (x2 : Int32) (x3 : Int32) (x4 : Int32) (x5 : Int32) (M : Mem) : Option (Int32) :=
  (nq_lp (fun s : Int32 × Int32 => fX9_knownBy_B6 x1 x2 x3 s.1 s.2 M) nq_fuel (x4, x5)).bind (fun e => fX9_knownBy_L63 e M)
set_option maxHeartbeats 4000000 in
theorem mX9_knownBy_L6 {X : Cx} {E : Ev} {l : Launch} {K : List Sh} {x1 : Int32} {x2 : Int32} {x3 : Int32} {x4 : Int32} {x5 : Int32} {M : Mem} {r : Int32} (hL : nq_atModel E K) (hX : nq_OK X E l (nq_rm 3) cX9_knownBy 6 RX9 wsX9_knownBy) (hr : nq_RT X E (some .int) (some (.int r)) K M) (h : fX9_knownBy_L6 x1 x2 x3 x4 x5 M = some r) : nq_G X E 6 6 [(0, .ref (nq_ad E 0)), (1, .int x1), (2, .int x2), (3, .int x3), (4, .int x4), (5, .int x5)] [] K M := by
  unfold fX9_knownBy_L6 at h
  obtain ⟨e, h1, h⟩ := nq_bE h
  have key : ∀ (ex : Int32), nq_lp (fun s : Int32 × Int32 => fX9_knownBy_B6 x1 x2 x3 s.1 s.2 M) nq_fuel (x4, x5) = some ex → (∀ e, ex = e → nq_G X E 6 63 [(4, .int e)] [] K M) → nq_G X E 6 6 [(0, .ref (nq_ad E 0)), (1, .int x1), (2, .int x2), (3, .int x3), (4, .int ((x4, x5).1)), (5, .int ((x4, x5).2))] [] K M := by
    intro ex h1 hE
    refine nq_lpE (P := fun s : Int32 × Int32 => nq_G X E 6 6 [(0, .ref (nq_ad E 0)), (1, .int x1), (2, .int x2), (3, .int x3), (4, .int s.1), (5, .int s.2)] [] K M) (r := ex) ?_ nq_fuel (x4, x5) h1
    intro s xx hx1 hc1 he1
    exact mX9_knownBy_B6 hL hX hc1 (fun e q => hE e (he1 _ q).symm) hx1
  refine key e h1 (fun e q => ?_)
  subst q
  exact mX9_knownBy_L63 hL hX hr h
def fX9_knownBy (x1 : Int32) (x2 : Int32) (x3 : Int32) (M : Mem) : Option (Int32) :=
  fX9_knownBy_L6 x1 x2 x3 (0 : Int32) (0 : Int32) M
set_option maxHeartbeats 4000000 in
theorem mX9_knownBy {X : Cx} {E : Ev} {l : Launch} {K : List Sh} {x1 : Int32} {x2 : Int32} {x3 : Int32} {M : Mem} {r : Int32} (hL : nq_atModel E K) (hX : nq_OK X E l (nq_rm 3) cX9_knownBy 6 RX9 wsX9_knownBy) (hr : nq_RT X E (some .int) (some (.int r)) K M) (h : fX9_knownBy x1 x2 x3 M = some r) : nq_G X E 6 0 [(0, .ref (nq_ad E 0)), (1, .int x1), (2, .int x2), (3, .int x3)] [] K M := by
  unfold fX9_knownBy at h
  refine nq_iconst hX (v := 0) (by decide) dX9_knownBy_0 ?_
  refine nq_istore hX (lv' := [(4, .int (0 : Int32)), (0, .ref (nq_ad E 0)), (1, .int x1), (2, .int x2), (3, .int x3)]) (by decide) rfl rfl dX9_knownBy_1 ?_
  refine nq_iconst hX (v := 0) (by decide) dX9_knownBy_3 ?_
  refine nq_istore hX (lv' := [(5, .int (0 : Int32)), (4, .int (0 : Int32)), (0, .ref (nq_ad E 0)), (1, .int x1), (2, .int x2), (3, .int x3)]) (by decide) rfl rfl dX9_knownBy_4 ?_
  refine nq_sub (lv' := [(0, .ref (nq_ad E 0)), (1, .int x1), (2, .int x2), (3, .int x3), (4, .int (0 : Int32)), (5, .int (0 : Int32))]) [2, 3, 4, 5, 1, 0] rfl ?_
  exact mX9_knownBy_L6 hL hX hr h
theorem dsX9_knownBy : yX9_knownBy.cls ≠ "java/lang/invoke/MethodHandle" ∧ yX9_knownBy.cls ≠ "java/lang/invoke/VarHandle" ∧ (parseMethodDescriptor yX9_knownBy.desc).map (fun d => d.parameters.length) = some 3 := by decide +kernel
theorem tX9_knownBy {l : Launch} {E : Ev} {K : List Sh} {x1 : Int32} {x2 : Int32} {x3 : Int32} {M : Mem} {r : Int32} (hL : nq_atModel E K) (h : fX9_knownBy x1 x2 x3 M = some r) : nq_MA l E yX9_knownBy wsX9_knownBy (nq_rm 3) [.ref (nq_ad E 0), .int x1, .int x2, .int x3] K M (some (.int r)) K M :=
  nq_met (own := RX9) (cc := cX9_knownBy) (maxL := 6) (ret := (some .int)) (by decide) rfl rfl (Nat.le_of_ble_eq_true rfl) (fun X hX hr => mX9_knownBy hL hX hr h)

theorem mmX9_whyNot_c106 : Cond.constantLong RX9 106 (6) ∈ wsX9_whyNot := by decide +kernel
theorem inX9_whyNot_9 : ∀ w ∈ u_ws RX9 TX9 23, w ∈ wsX9_whyNot := by
  intro w h; unfold wsX9_whyNot; simp only [List.mem_cons, List.mem_append]; simp only [h, true_or, or_true]
theorem lkX9_whyNot_7 : Cond.fieldLink RX9 7 (TX9 0).1 (TX9 0).2.1 (TX9 0).2.2.1 ∈ wsX9_whyNot := by decide +kernel
def fX9_whyNot (x1 : Int32) (x2 : Int32) (x3 : Int32) (M : Mem) : Option (Int32 × Mem) :=
  (fX9_in x1.toInt64 (0 : Int64) (6 : Int64) M).bind fun v2 =>
  if v2 = 0 then
  (some ((1 : Int32), M))
  else
  ((fX9_areFt x2 M).bind fun v5 =>
  if v5 = 0 then
  (some ((1 : Int32), M))
  else
  ((fX9_isPact x3 M).bind fun v8 =>
  if v8 = 0 then
  (some ((1 : Int32), M))
  else
  ((nq_dv x2 (10 : Int32)).bind fun v10 =>
  (nq_rem x2 (10 : Int32)).bind fun v11 =>
  nq_b2 (fX9_wayOf v10 v11 M) fun v13 M14 =>
  if 0 ≤ v13 then
  ((nq_ag (M14 1) 1250 (2 : Int32)).bind fun v16 =>
  if v16 = (80 : Int32) then
  (some ((4 : Int32), M14))
  else
  (some ((0 : Int32), M14)))
  else
  (some ((2 : Int32), M14)))))
set_option maxHeartbeats 4000000 in
theorem mX9_whyNot {X : Cx} {E : Ev} {l : Launch} {K : List Sh} {x1 : Int32} {x2 : Int32} {x3 : Int32} {M : Mem} {r : Int32} {M' : Mem} (hL : nq_atModel E K) (hX : nq_OK X E l (nq_rm 5) cX9_whyNot 4 RX9 wsX9_whyNot) (hr : nq_RT X E (some .int) (some (.int r)) K M') (h : fX9_whyNot x1 x2 x3 M = some (r, M')) : nq_G X E 4 0 [(0, .ref (nq_ad E 0)), (1, .int x1), (2, .int x2), (3, .int x3)] [] K M := by
  unfold fX9_whyNot at h
  refine nq_iload_n hX rfl 1 rfl dX9_whyNot_0 ?_
  refine nq_i2l hX dX9_whyNot_1 ?_
  refine nq_lconst hX (v := 0) (by decide) dX9_whyNot_2 ?_
  refine nq_ldc2 hX (v := 6) mmX9_whyNot_c106 dX9_whyNot_3 ?_
  obtain ⟨v2, hc1, h⟩ := nq_bE h
  refine nq_callSi hX (tX9_in  hc1) gX9_whyNot_X9_in rfl rfl dsX9_in (by decide) rfl (Nat.le_of_ble_eq_true rfl) dX9_whyNot_6 ?_
  refine nq_if_eq hX (tgt := 27) (by decide) dX9_whyNot_9 (fun c3 => ?_) (fun c3 => ?_)
  · rw [if_pos c3] at h
    refine nq_iconst hX (v := 1) (by decide) dX9_whyNot_27 ?_
    obtain ⟨rfl, rfl⟩ := nq_sE2 h; exact nq_iret hX hr dX9_whyNot_28
  · rw [if_neg c3] at h
    refine nq_aload_n hX rfl 0 rfl dX9_whyNot_12 ?_
    refine nq_iload_n hX rfl 2 rfl dX9_whyNot_13 ?_
    obtain ⟨v5, hc4, h⟩ := nq_bE h
    refine nq_callVi hX (tX9_areFt hL hc4) gX9_whyNot_X9_areFt rfl rfl dsX9_areFt (by decide) (nq_Model_0 hL) rfl rfl (Nat.le_of_ble_eq_true rfl) dX9_whyNot_14 ?_
    refine nq_if_eq hX (tgt := 27) (by decide) dX9_whyNot_17 (fun c6 => ?_) (fun c6 => ?_)
    · rw [if_pos c6] at h
      refine nq_iconst hX (v := 1) (by decide) dX9_whyNot_27 ?_
      obtain ⟨rfl, rfl⟩ := nq_sE2 h; exact nq_iret hX hr dX9_whyNot_28
    · rw [if_neg c6] at h
      refine nq_iload_n hX rfl 3 rfl dX9_whyNot_20 ?_
      obtain ⟨v8, hc7, h⟩ := nq_bE h
      refine nq_callSi hX (tX9_isPact  hc7) gX9_whyNot_X9_isPact rfl rfl dsX9_isPact (by decide) rfl (Nat.le_of_ble_eq_true rfl) dX9_whyNot_21 ?_
      refine nq_if_ne hX (tgt := 29) (by decide) dX9_whyNot_24 (fun c9 => ?_) (fun c9 => ?_)
      · rw [if_pos c9] at h
        refine nq_iconst hX (v := 1) (by decide) dX9_whyNot_27 ?_
        obtain ⟨rfl, rfl⟩ := nq_sE2 h; exact nq_iret hX hr dX9_whyNot_28
      · rw [if_neg c9] at h
        refine nq_aload_n hX rfl 0 rfl dX9_whyNot_29 ?_
        refine nq_iload_n hX rfl 2 rfl dX9_whyNot_30 ?_
        refine nq_bipush hX (v := 10) (by decide) dX9_whyNot_31 ?_
        obtain ⟨v10, e10, hn10, h⟩ := nq_ifE h
        refine nq_idiv hX hn10 e10 dX9_whyNot_33 ?_
        refine nq_iload_n hX rfl 2 rfl dX9_whyNot_34 ?_
        refine nq_bipush hX (v := 10) (by decide) dX9_whyNot_35 ?_
        obtain ⟨v11, e11, hn11, h⟩ := nq_ifE h
        refine nq_irem hX hn11 e11 dX9_whyNot_37 ?_
        obtain ⟨v13, M14, hc12, h⟩ := nq_b2E h
        refine nq_callVi hX (tX9_wayOf hL hc12) gX9_whyNot_X9_wayOf rfl rfl dsX9_wayOf (by decide) (nq_Model_0 hL) rfl rfl (Nat.le_of_ble_eq_true rfl) dX9_whyNot_38 ?_
        refine nq_if_ge hX (tgt := 48) (by decide) dX9_whyNot_41 (fun c15 => ?_) (fun c15 => ?_)
        · rw [if_pos c15] at h
          refine nq_aload_n hX rfl 0 rfl dX9_whyNot_48 ?_
          refine nq_getr (v := .ref (nq_ad E 1)) hX inX9_whyNot_9 (nq_Model_0 hL) rfl 0 (by decide) lkX9_whyNot_7 _ rfl rfl dX9_whyNot_49 ?_
          refine nq_iconst hX (v := 2) (by decide) dX9_whyNot_52 ?_
          obtain ⟨v16, e16, hi16, h⟩ := nq_agE h
          refine nq_iald hX (nq_Model_d hL) e16 hi16 dX9_whyNot_53 ?_
          refine nq_bipush hX (v := 80) (by decide) dX9_whyNot_54 ?_
          refine nq_icmp_ne hX (tgt := 63) (by decide) dX9_whyNot_56 (fun c17 => ?_) (fun c17 => ?_)
          · rw [if_pos c17] at h
            refine nq_iconst hX (v := 4) (by decide) dX9_whyNot_59 ?_
            refine nq_goto hX (tgt := 64) (by decide) dX9_whyNot_60 ?_
            obtain ⟨rfl, rfl⟩ := nq_sE2 h; exact nq_iret hX hr dX9_whyNot_64
          · rw [if_neg c17] at h
            refine nq_iconst hX (v := 0) (by decide) dX9_whyNot_63 ?_
            obtain ⟨rfl, rfl⟩ := nq_sE2 h; exact nq_iret hX hr dX9_whyNot_64
        · rw [if_neg c15] at h
          refine nq_iconst hX (v := 2) (by decide) dX9_whyNot_44 ?_
          refine nq_goto hX (tgt := 64) (by decide) dX9_whyNot_45 ?_
          obtain ⟨rfl, rfl⟩ := nq_sE2 h; exact nq_iret hX hr dX9_whyNot_64
theorem dsX9_whyNot : yX9_whyNot.cls ≠ "java/lang/invoke/MethodHandle" ∧ yX9_whyNot.cls ≠ "java/lang/invoke/VarHandle" ∧ (parseMethodDescriptor yX9_whyNot.desc).map (fun d => d.parameters.length) = some 3 := by decide +kernel
theorem tX9_whyNot {l : Launch} {E : Ev} {K : List Sh} {x1 : Int32} {x2 : Int32} {x3 : Int32} {M : Mem} {r : Int32} {M' : Mem} (hL : nq_atModel E K) (h : fX9_whyNot x1 x2 x3 M = some (r, M')) : nq_MA l E yX9_whyNot wsX9_whyNot (nq_rm 5) [.ref (nq_ad E 0), .int x1, .int x2, .int x3] K M (some (.int r)) K M' :=
  nq_met (own := RX9) (cc := cX9_whyNot) (maxL := 4) (ret := (some .int)) (by decide) rfl rfl (Nat.le_of_ble_eq_true rfl) (fun X hX hr => mX9_whyNot hL hX hr h)

theorem inX9_sends_9 : ∀ w ∈ u_ws RX9 TX9 23, w ∈ wsX9_sends := by
  intro w h; unfold wsX9_sends; simp only [List.mem_cons, List.mem_append]; simp only [h, true_or, or_true]
theorem lkX9_sends_7 : Cond.fieldLink RX9 7 (TX9 0).1 (TX9 0).2.1 (TX9 0).2.2.1 ∈ wsX9_sends := by decide +kernel
def fX9_sends_L195 (M : Mem) : Option (Mem) :=
  (nq_ag (M 1) 1250 (2 : Int32)).bind fun v34 =>
  (nq_as M 1 1250 (2 : Int32) (v34 + (1 : Int32))).bind fun M35 =>
  some M35
set_option maxHeartbeats 4000000 in
theorem mX9_sends_L195 {X : Cx} {E : Ev} {l : Launch} {K : List Sh} {M : Mem} {M' : Mem} (hL : nq_atModel E K) (hX : nq_OK X E l (nq_rm 4) cX9_sends 6 RX9 wsX9_sends) (hr : nq_RT X E none none K M') (h : fX9_sends_L195 M = some M') : nq_G X E 6 195 [(0, .ref (nq_ad E 0))] [] K M := by
  unfold fX9_sends_L195 at h
  refine nq_aload_n hX rfl 0 rfl dX9_sends_195 ?_
  refine nq_getr (v := .ref (nq_ad E 1)) hX inX9_sends_9 (nq_Model_0 hL) rfl 0 (by decide) lkX9_sends_7 _ rfl rfl dX9_sends_196 ?_
  refine nq_iconst hX (v := 2) (by decide) dX9_sends_199 ?_
  refine nq_dup2 hX rfl rfl dX9_sends_200 ?_
  obtain ⟨v34, e34, hi34, h⟩ := nq_agE h
  refine nq_iald hX (nq_Model_d hL) e34 hi34 dX9_sends_201 ?_
  refine nq_iconst hX (v := 1) (by decide) dX9_sends_202 ?_
  refine nq_iadd hX dX9_sends_203 ?_
  obtain ⟨M35, e35, hi35, h⟩ := nq_asE h
  refine nq_iast hX (nq_Model_d hL) e35 hi35 dX9_sends_204 ?_
  obtain rfl := nq_sE1 h; exact nq_vret hX hr dX9_sends_205
def fX9_sends_L133 (x4 : Int32) (x5 : Int32) (s0 : Int32) (s1 : Int32) (s2 : Int32) (M : Mem) : Option (Mem) :=
  (nq_as M 1 1250 s2 (s1 + s0)).bind fun M23 =>
  (nq_ag (M23 1) 1250 (5 : Int32)).bind fun v24 =>
  (nq_as M23 1 1250 (x4 + (6 : Int32)) v24).bind fun M25 =>
  (nq_as M25 1 1250 (x4 + (7 : Int32)) x5).bind fun M26 =>
  nq_b2 (fX9_drawn  M26) fun v28 M29 =>
  (nq_ag (M29 1) 1250 (8 : Int32)).bind fun v30 =>
  (nq_rem v28 v30).bind fun v31 =>
  (nq_ag (M29 1) 1250 (7 : Int32)).bind fun v32 =>
  if v32 ≤ v31 then
  (fX9_sends_L195 M29)
  else
  ((nq_as M29 1 1250 (x4 + (5 : Int32)) (-1 : Int32)).bind fun M36 =>
  fX9_sends_L195 M36)
set_option maxHeartbeats 4000000 in
theorem mX9_sends_L133 {X : Cx} {E : Ev} {l : Launch} {K : List Sh} {x4 : Int32} {x5 : Int32} {s0 : Int32} {s1 : Int32} {s2 : Int32} {M : Mem} {M' : Mem} (hL : nq_atModel E K) (hX : nq_OK X E l (nq_rm 4) cX9_sends 6 RX9 wsX9_sends) (hr : nq_RT X E none none K M') (h : fX9_sends_L133 x4 x5 s0 s1 s2 M = some M') : nq_G X E 6 133 [(0, .ref (nq_ad E 0)), (4, .int x4), (5, .int x5)] [.int s0, .int s1, .int s2, .ref (nq_ad E 1)] K M := by
  unfold fX9_sends_L133 at h
  refine nq_iadd hX dX9_sends_133 ?_
  obtain ⟨M23, e23, hi23, h⟩ := nq_asE h
  refine nq_iast hX (nq_Model_d hL) e23 hi23 dX9_sends_134 ?_
  refine nq_aload_n hX rfl 0 rfl dX9_sends_135 ?_
  refine nq_getr (v := .ref (nq_ad E 1)) hX inX9_sends_9 (nq_Model_0 hL) rfl 0 (by decide) lkX9_sends_7 _ rfl rfl dX9_sends_136 ?_
  refine nq_iload hX 1 rfl dX9_sends_139 ?_
  refine nq_bipush hX (v := 6) (by decide) dX9_sends_141 ?_
  refine nq_iadd hX dX9_sends_143 ?_
  refine nq_aload_n hX rfl 0 rfl dX9_sends_144 ?_
  refine nq_getr (v := .ref (nq_ad E 1)) hX inX9_sends_9 (nq_Model_0 hL) rfl 0 (by decide) lkX9_sends_7 _ rfl rfl dX9_sends_145 ?_
  refine nq_iconst hX (v := 5) (by decide) dX9_sends_148 ?_
  obtain ⟨v24, e24, hi24, h⟩ := nq_agE h
  refine nq_iald hX (nq_Model_d hL) e24 hi24 dX9_sends_149 ?_
  obtain ⟨M25, e25, hi25, h⟩ := nq_asE h
  refine nq_iast hX (nq_Model_d hL) e25 hi25 dX9_sends_150 ?_
  refine nq_aload_n hX rfl 0 rfl dX9_sends_151 ?_
  refine nq_getr (v := .ref (nq_ad E 1)) hX inX9_sends_9 (nq_Model_0 hL) rfl 0 (by decide) lkX9_sends_7 _ rfl rfl dX9_sends_152 ?_
  refine nq_iload hX 1 rfl dX9_sends_155 ?_
  refine nq_bipush hX (v := 7) (by decide) dX9_sends_157 ?_
  refine nq_iadd hX dX9_sends_159 ?_
  refine nq_iload hX 2 rfl dX9_sends_160 ?_
  obtain ⟨M26, e26, hi26, h⟩ := nq_asE h
  refine nq_iast hX (nq_Model_d hL) e26 hi26 dX9_sends_162 ?_
  refine nq_aload_n hX rfl 0 rfl dX9_sends_163 ?_
  obtain ⟨v28, M29, hc27, h⟩ := nq_b2E h
  refine nq_callVi hX (tX9_drawn hL hc27) gX9_sends_X9_drawn rfl rfl dsX9_drawn (by decide) (nq_Model_0 hL) rfl rfl (Nat.le_of_ble_eq_true rfl) dX9_sends_164 ?_
  refine nq_aload_n hX rfl 0 rfl dX9_sends_167 ?_
  refine nq_getr (v := .ref (nq_ad E 1)) hX inX9_sends_9 (nq_Model_0 hL) rfl 0 (by decide) lkX9_sends_7 _ rfl rfl dX9_sends_168 ?_
  refine nq_bipush hX (v := 8) (by decide) dX9_sends_171 ?_
  obtain ⟨v30, e30, hi30, h⟩ := nq_agE h
  refine nq_iald hX (nq_Model_d hL) e30 hi30 dX9_sends_173 ?_
  obtain ⟨v31, e31, hn31, h⟩ := nq_ifE h
  refine nq_irem hX hn31 e31 dX9_sends_174 ?_
  refine nq_aload_n hX rfl 0 rfl dX9_sends_175 ?_
  refine nq_getr (v := .ref (nq_ad E 1)) hX inX9_sends_9 (nq_Model_0 hL) rfl 0 (by decide) lkX9_sends_7 _ rfl rfl dX9_sends_176 ?_
  refine nq_bipush hX (v := 7) (by decide) dX9_sends_179 ?_
  obtain ⟨v32, e32, hi32, h⟩ := nq_agE h
  refine nq_iald hX (nq_Model_d hL) e32 hi32 dX9_sends_181 ?_
  refine nq_icmp_ge hX (tgt := 195) (by decide) dX9_sends_182 (fun c33 => ?_) (fun c33 => ?_)
  · rw [if_pos c33] at h
    refine nq_sub (lv' := [(0, .ref (nq_ad E 0))]) [0] rfl ?_
    exact mX9_sends_L195 hL hX hr h
  · rw [if_neg c33] at h
    refine nq_aload_n hX rfl 0 rfl dX9_sends_185 ?_
    refine nq_getr (v := .ref (nq_ad E 1)) hX inX9_sends_9 (nq_Model_0 hL) rfl 0 (by decide) lkX9_sends_7 _ rfl rfl dX9_sends_186 ?_
    refine nq_iload hX 1 rfl dX9_sends_189 ?_
    refine nq_iconst hX (v := 5) (by decide) dX9_sends_191 ?_
    refine nq_iadd hX dX9_sends_192 ?_
    refine nq_iconst hX (v := -1) (by decide) dX9_sends_193 ?_
    obtain ⟨M36, e36, hi36, h⟩ := nq_asE h
    refine nq_iast hX (nq_Model_d hL) e36 hi36 dX9_sends_194 ?_
    refine nq_sub (lv' := [(0, .ref (nq_ad E 0))]) [0] rfl ?_
    exact mX9_sends_L195 hL hX hr h
def fX9_sends (x1 : Int32) (x2 : Int32) (x3 : Int32) (M : Mem) : Option (Mem) :=
  (nq_ag (M 1) 1250 (2 : Int32)).bind fun v1 =>
  nq_lt (((610 : Int32) + ((8 : Int32) * v1))) fun v2 =>
  (nq_dv x2 (10 : Int32)).bind fun v3 =>
  (nq_ag (M 1) 1250 (0 : Int32)).bind fun v4 =>
  (fX9_knownBy v3 x3 v4 M).bind fun v6 =>
  nq_lt (((1 : Int32) + v6)) fun v7 =>
  (nq_as M 1 1250 (v2 + (0 : Int32)) x1).bind fun M8 =>
  (nq_dv x2 (10 : Int32)).bind fun v9 =>
  (nq_as M8 1 1250 (v2 + (1 : Int32)) v9).bind fun M10 =>
  (nq_rem x2 (10 : Int32)).bind fun v11 =>
  (nq_as M10 1 1250 (v2 + (2 : Int32)) v11).bind fun M12 =>
  (nq_as M12 1 1250 (v2 + (3 : Int32)) x3).bind fun M13 =>
  (nq_ag (M13 1) 1250 (0 : Int32)).bind fun v14 =>
  (nq_as M13 1 1250 (v2 + (4 : Int32)) v14).bind fun M15 =>
  (nq_ag (M15 1) 1250 (0 : Int32)).bind fun v16 =>
  (nq_dv x2 (10 : Int32)).bind fun v17 =>
  (nq_rem x2 (10 : Int32)).bind fun v18 =>
  nq_b2 (fX9_wayOf v17 v18 M15) fun v20 M21 =>
  if x1 = (6 : Int32) then
  (fX9_sends_L133 v2 v7 (2 : Int32) (v16 + v20) (v2 + (5 : Int32)) M21)
  else
  (fX9_sends_L133 v2 v7 (0 : Int32) (v16 + v20) (v2 + (5 : Int32)) M21)
set_option maxHeartbeats 4000000 in
theorem mX9_sends {X : Cx} {E : Ev} {l : Launch} {K : List Sh} {x1 : Int32} {x2 : Int32} {x3 : Int32} {M : Mem} {M' : Mem} (hL : nq_atModel E K) (hX : nq_OK X E l (nq_rm 4) cX9_sends 6 RX9 wsX9_sends) (hr : nq_RT X E none none K M') (h : fX9_sends x1 x2 x3 M = some M') : nq_G X E 6 0 [(0, .ref (nq_ad E 0)), (1, .int x1), (2, .int x2), (3, .int x3)] [] K M := by
  unfold fX9_sends at h
  refine nq_sipush hX (v := 610) (by decide) dX9_sends_0 ?_
  refine nq_bipush hX (v := 8) (by decide) dX9_sends_3 ?_
  refine nq_aload_n hX rfl 0 rfl dX9_sends_5 ?_
  refine nq_getr (v := .ref (nq_ad E 1)) hX inX9_sends_9 (nq_Model_0 hL) rfl 0 (by decide) lkX9_sends_7 _ rfl rfl dX9_sends_6 ?_
  refine nq_iconst hX (v := 2) (by decide) dX9_sends_9 ?_
  obtain ⟨v1, e1, hi1, h⟩ := nq_agE h
  refine nq_iald hX (nq_Model_d hL) e1 hi1 dX9_sends_10 ?_
  refine nq_imul hX dX9_sends_11 ?_
  refine nq_iadd hX dX9_sends_12 ?_
  obtain ⟨v2, e2, h⟩ := nq_ltE h
  refine nq_istore hX (lv' := [(4, .int v2), (0, .ref (nq_ad E 0)), (1, .int x1), (2, .int x2), (3, .int x3)]) (by decide) e2 rfl dX9_sends_13 ?_
  refine nq_iconst hX (v := 1) (by decide) dX9_sends_15 ?_
  refine nq_aload_n hX rfl 1 rfl dX9_sends_16 ?_
  refine nq_iload_n hX rfl 3 rfl dX9_sends_17 ?_
  refine nq_bipush hX (v := 10) (by decide) dX9_sends_18 ?_
  obtain ⟨v3, e3, hn3, h⟩ := nq_ifE h
  refine nq_idiv hX hn3 e3 dX9_sends_20 ?_
  refine nq_iload_n hX rfl 4 rfl dX9_sends_21 ?_
  refine nq_aload_n hX rfl 1 rfl dX9_sends_22 ?_
  refine nq_getr (v := .ref (nq_ad E 1)) hX inX9_sends_9 (nq_Model_0 hL) rfl 0 (by decide) lkX9_sends_7 _ rfl rfl dX9_sends_23 ?_
  refine nq_iconst hX (v := 0) (by decide) dX9_sends_26 ?_
  obtain ⟨v4, e4, hi4, h⟩ := nq_agE h
  refine nq_iald hX (nq_Model_d hL) e4 hi4 dX9_sends_27 ?_
  obtain ⟨v6, hc5, h⟩ := nq_bE h
  refine nq_callVi hX (tX9_knownBy hL hc5) gX9_sends_X9_knownBy rfl rfl dsX9_knownBy (by decide) (nq_Model_0 hL) rfl rfl (Nat.le_of_ble_eq_true rfl) dX9_sends_28 ?_
  refine nq_iadd hX dX9_sends_31 ?_
  obtain ⟨v7, e7, h⟩ := nq_ltE h
  refine nq_istore hX (lv' := [(5, .int v7), (4, .int v2), (0, .ref (nq_ad E 0)), (1, .int x1), (2, .int x2), (3, .int x3)]) (by decide) e7 rfl dX9_sends_32 ?_
  refine nq_aload_n hX rfl 2 rfl dX9_sends_34 ?_
  refine nq_getr (v := .ref (nq_ad E 1)) hX inX9_sends_9 (nq_Model_0 hL) rfl 0 (by decide) lkX9_sends_7 _ rfl rfl dX9_sends_35 ?_
  refine nq_iload hX 1 rfl dX9_sends_38 ?_
  refine nq_iconst hX (v := 0) (by decide) dX9_sends_40 ?_
  refine nq_iadd hX dX9_sends_41 ?_
  refine nq_iload_n hX rfl 3 rfl dX9_sends_42 ?_
  obtain ⟨M8, e8, hi8, h⟩ := nq_asE h
  refine nq_iast hX (nq_Model_d hL) e8 hi8 dX9_sends_43 ?_
  refine nq_aload_n hX rfl 2 rfl dX9_sends_44 ?_
  refine nq_getr (v := .ref (nq_ad E 1)) hX inX9_sends_9 (nq_Model_0 hL) rfl 0 (by decide) lkX9_sends_7 _ rfl rfl dX9_sends_45 ?_
  refine nq_iload hX 1 rfl dX9_sends_48 ?_
  refine nq_iconst hX (v := 1) (by decide) dX9_sends_50 ?_
  refine nq_iadd hX dX9_sends_51 ?_
  refine nq_iload_n hX rfl 4 rfl dX9_sends_52 ?_
  refine nq_bipush hX (v := 10) (by decide) dX9_sends_53 ?_
  obtain ⟨v9, e9, hn9, h⟩ := nq_ifE h
  refine nq_idiv hX hn9 e9 dX9_sends_55 ?_
  obtain ⟨M10, e10, hi10, h⟩ := nq_asE h
  refine nq_iast hX (nq_Model_d hL) e10 hi10 dX9_sends_56 ?_
  refine nq_aload_n hX rfl 2 rfl dX9_sends_57 ?_
  refine nq_getr (v := .ref (nq_ad E 1)) hX inX9_sends_9 (nq_Model_0 hL) rfl 0 (by decide) lkX9_sends_7 _ rfl rfl dX9_sends_58 ?_
  refine nq_iload hX 1 rfl dX9_sends_61 ?_
  refine nq_iconst hX (v := 2) (by decide) dX9_sends_63 ?_
  refine nq_iadd hX dX9_sends_64 ?_
  refine nq_iload_n hX rfl 4 rfl dX9_sends_65 ?_
  refine nq_bipush hX (v := 10) (by decide) dX9_sends_66 ?_
  obtain ⟨v11, e11, hn11, h⟩ := nq_ifE h
  refine nq_irem hX hn11 e11 dX9_sends_68 ?_
  obtain ⟨M12, e12, hi12, h⟩ := nq_asE h
  refine nq_iast hX (nq_Model_d hL) e12 hi12 dX9_sends_69 ?_
  refine nq_aload_n hX rfl 2 rfl dX9_sends_70 ?_
  refine nq_getr (v := .ref (nq_ad E 1)) hX inX9_sends_9 (nq_Model_0 hL) rfl 0 (by decide) lkX9_sends_7 _ rfl rfl dX9_sends_71 ?_
  refine nq_iload hX 1 rfl dX9_sends_74 ?_
  refine nq_iconst hX (v := 3) (by decide) dX9_sends_76 ?_
  refine nq_iadd hX dX9_sends_77 ?_
  refine nq_iload_n hX rfl 5 rfl dX9_sends_78 ?_
  obtain ⟨M13, e13, hi13, h⟩ := nq_asE h
  refine nq_iast hX (nq_Model_d hL) e13 hi13 dX9_sends_79 ?_
  refine nq_aload_n hX rfl 2 rfl dX9_sends_80 ?_
  refine nq_getr (v := .ref (nq_ad E 1)) hX inX9_sends_9 (nq_Model_0 hL) rfl 0 (by decide) lkX9_sends_7 _ rfl rfl dX9_sends_81 ?_
  refine nq_iload hX 1 rfl dX9_sends_84 ?_
  refine nq_iconst hX (v := 4) (by decide) dX9_sends_86 ?_
  refine nq_iadd hX dX9_sends_87 ?_
  refine nq_aload_n hX rfl 2 rfl dX9_sends_88 ?_
  refine nq_getr (v := .ref (nq_ad E 1)) hX inX9_sends_9 (nq_Model_0 hL) rfl 0 (by decide) lkX9_sends_7 _ rfl rfl dX9_sends_89 ?_
  refine nq_iconst hX (v := 0) (by decide) dX9_sends_92 ?_
  obtain ⟨v14, e14, hi14, h⟩ := nq_agE h
  refine nq_iald hX (nq_Model_d hL) e14 hi14 dX9_sends_93 ?_
  obtain ⟨M15, e15, hi15, h⟩ := nq_asE h
  refine nq_iast hX (nq_Model_d hL) e15 hi15 dX9_sends_94 ?_
  refine nq_aload_n hX rfl 2 rfl dX9_sends_95 ?_
  refine nq_getr (v := .ref (nq_ad E 1)) hX inX9_sends_9 (nq_Model_0 hL) rfl 0 (by decide) lkX9_sends_7 _ rfl rfl dX9_sends_96 ?_
  refine nq_iload hX 1 rfl dX9_sends_99 ?_
  refine nq_iconst hX (v := 5) (by decide) dX9_sends_101 ?_
  refine nq_iadd hX dX9_sends_102 ?_
  refine nq_aload_n hX rfl 2 rfl dX9_sends_103 ?_
  refine nq_getr (v := .ref (nq_ad E 1)) hX inX9_sends_9 (nq_Model_0 hL) rfl 0 (by decide) lkX9_sends_7 _ rfl rfl dX9_sends_104 ?_
  refine nq_iconst hX (v := 0) (by decide) dX9_sends_107 ?_
  obtain ⟨v16, e16, hi16, h⟩ := nq_agE h
  refine nq_iald hX (nq_Model_d hL) e16 hi16 dX9_sends_108 ?_
  refine nq_aload_n hX rfl 2 rfl dX9_sends_109 ?_
  refine nq_iload_n hX rfl 4 rfl dX9_sends_110 ?_
  refine nq_bipush hX (v := 10) (by decide) dX9_sends_111 ?_
  obtain ⟨v17, e17, hn17, h⟩ := nq_ifE h
  refine nq_idiv hX hn17 e17 dX9_sends_113 ?_
  refine nq_iload_n hX rfl 4 rfl dX9_sends_114 ?_
  refine nq_bipush hX (v := 10) (by decide) dX9_sends_115 ?_
  obtain ⟨v18, e18, hn18, h⟩ := nq_ifE h
  refine nq_irem hX hn18 e18 dX9_sends_117 ?_
  obtain ⟨v20, M21, hc19, h⟩ := nq_b2E h
  refine nq_callVi hX (tX9_wayOf hL hc19) gX9_sends_X9_wayOf rfl rfl dsX9_wayOf (by decide) (nq_Model_0 hL) rfl rfl (Nat.le_of_ble_eq_true rfl) dX9_sends_118 ?_
  refine nq_iadd hX dX9_sends_121 ?_
  refine nq_iload_n hX rfl 3 rfl dX9_sends_122 ?_
  refine nq_bipush hX (v := 6) (by decide) dX9_sends_123 ?_
  refine nq_icmp_ne hX (tgt := 132) (by decide) dX9_sends_125 (fun c22 => ?_) (fun c22 => ?_)
  · rw [if_pos c22] at h
    refine nq_iconst hX (v := 2) (by decide) dX9_sends_128 ?_
    refine nq_goto hX (tgt := 133) (by decide) dX9_sends_129 ?_
    refine nq_sub (lv' := [(0, .ref (nq_ad E 0)), (4, .int v2), (5, .int v7)]) [2, 1, 0] rfl ?_
    exact mX9_sends_L133 hL hX hr h
  · rw [if_neg c22] at h
    refine nq_iconst hX (v := 0) (by decide) dX9_sends_132 ?_
    refine nq_sub (lv' := [(0, .ref (nq_ad E 0)), (4, .int v2), (5, .int v7)]) [2, 1, 0] rfl ?_
    exact mX9_sends_L133 hL hX hr h
theorem dsX9_sends : yX9_sends.cls ≠ "java/lang/invoke/MethodHandle" ∧ yX9_sends.cls ≠ "java/lang/invoke/VarHandle" ∧ (parseMethodDescriptor yX9_sends.desc).map (fun d => d.parameters.length) = some 3 := by decide +kernel
theorem tX9_sends {l : Launch} {E : Ev} {K : List Sh} {x1 : Int32} {x2 : Int32} {x3 : Int32} {M : Mem} {M' : Mem} (hL : nq_atModel E K) (h : fX9_sends x1 x2 x3 M = some M') : nq_MA l E yX9_sends wsX9_sends (nq_rm 4) [.ref (nq_ad E 0), .int x1, .int x2, .int x3] K M none K M' :=
  nq_met (own := RX9) (cc := cX9_sends) (maxL := 6) (ret := none) (by decide) rfl rfl (Nat.le_of_ble_eq_true rfl) (fun X hX hr => mX9_sends hL hX hr h)

theorem inX9_word_9 : ∀ w ∈ u_ws RX9 TX9 23, w ∈ wsX9_word := by
  intro w h; unfold wsX9_word; simp only [List.mem_cons, List.mem_append]; simp only [h, true_or, or_true]
theorem lkX9_word_7 : Cond.fieldLink RX9 7 (TX9 0).1 (TX9 0).2.1 (TX9 0).2.2.1 ∈ wsX9_word := by decide +kernel
def fX9_word (x1 : Int32) (x2 : Int32) (x3 : Int32) (M : Mem) : Option (Int32 × Mem) :=
  nq_b2 (fX9_whyNot x1 x2 x3 M) fun v2 M3 =>
  if v2 = 0 then
  ((fX9_sends x1 x2 x3 M3).bind fun M6 =>
  (nq_ag (M6 1) 1250 (2 : Int32)).bind fun v7 =>
  some ((v7 - (1 : Int32)), M6))
  else
  (nq_b2 (fX9_finds v2 M3) fun v9 M10 =>
  some (v9, M10))
set_option maxHeartbeats 4000000 in
theorem mX9_word {X : Cx} {E : Ev} {l : Launch} {K : List Sh} {x1 : Int32} {x2 : Int32} {x3 : Int32} {M : Mem} {r : Int32} {M' : Mem} (hL : nq_atModel E K) (hX : nq_OK X E l (nq_rm 6) cX9_word 5 RX9 wsX9_word) (hr : nq_RT X E (some .int) (some (.int r)) K M') (h : fX9_word x1 x2 x3 M = some (r, M')) : nq_G X E 5 0 [(0, .ref (nq_ad E 0)), (1, .int x1), (2, .int x2), (3, .int x3)] [] K M := by
  unfold fX9_word at h
  refine nq_aload_n hX rfl 0 rfl dX9_word_0 ?_
  refine nq_iload_n hX rfl 1 rfl dX9_word_1 ?_
  refine nq_iload_n hX rfl 2 rfl dX9_word_2 ?_
  refine nq_iload_n hX rfl 3 rfl dX9_word_3 ?_
  obtain ⟨v2, M3, hc1, h⟩ := nq_b2E h
  refine nq_callVi hX (tX9_whyNot hL hc1) gX9_word_X9_whyNot rfl rfl dsX9_whyNot (by decide) (nq_Model_0 hL) rfl rfl (Nat.le_of_ble_eq_true rfl) dX9_word_4 ?_
  refine nq_istore hX (lv' := [(4, .int v2), (0, .ref (nq_ad E 0)), (1, .int x1), (2, .int x2), (3, .int x3)]) (by decide) rfl rfl dX9_word_7 ?_
  refine nq_iload hX 0 rfl dX9_word_9 ?_
  refine nq_if_eq hX (tgt := 21) (by decide) dX9_word_11 (fun c4 => ?_) (fun c4 => ?_)
  · rw [if_pos c4] at h
    refine nq_aload_n hX rfl 1 rfl dX9_word_21 ?_
    refine nq_iload_n hX rfl 2 rfl dX9_word_22 ?_
    refine nq_iload_n hX rfl 3 rfl dX9_word_23 ?_
    refine nq_iload_n hX rfl 4 rfl dX9_word_24 ?_
    obtain ⟨M6, hc5, h⟩ := nq_bE h
    refine nq_callVv hX (tX9_sends hL hc5) gX9_word_X9_sends rfl rfl dsX9_sends (by decide) (nq_Model_0 hL) rfl rfl (Nat.le_of_ble_eq_true rfl) dX9_word_25 ?_
    refine nq_aload_n hX rfl 1 rfl dX9_word_28 ?_
    refine nq_getr (v := .ref (nq_ad E 1)) hX inX9_word_9 (nq_Model_0 hL) rfl 0 (by decide) lkX9_word_7 _ rfl rfl dX9_word_29 ?_
    refine nq_iconst hX (v := 2) (by decide) dX9_word_32 ?_
    obtain ⟨v7, e7, hi7, h⟩ := nq_agE h
    refine nq_iald hX (nq_Model_d hL) e7 hi7 dX9_word_33 ?_
    refine nq_iconst hX (v := 1) (by decide) dX9_word_34 ?_
    refine nq_isub hX dX9_word_35 ?_
    obtain ⟨rfl, rfl⟩ := nq_sE2 h; exact nq_iret hX hr dX9_word_36
  · rw [if_neg c4] at h
    refine nq_aload_n hX rfl 1 rfl dX9_word_14 ?_
    refine nq_iload hX 0 rfl dX9_word_15 ?_
    obtain ⟨v9, M10, hc8, h⟩ := nq_b2E h
    refine nq_callVi hX (tX9_finds hL hc8) gX9_word_X9_finds rfl rfl dsX9_finds (by decide) (nq_Model_0 hL) rfl rfl (Nat.le_of_ble_eq_true rfl) dX9_word_17 ?_
    obtain ⟨rfl, rfl⟩ := nq_sE2 h; exact nq_iret hX hr dX9_word_20
theorem dsX9_word : yX9_word.cls ≠ "java/lang/invoke/MethodHandle" ∧ yX9_word.cls ≠ "java/lang/invoke/VarHandle" ∧ (parseMethodDescriptor yX9_word.desc).map (fun d => d.parameters.length) = some 3 := by decide +kernel
theorem tX9_word {l : Launch} {E : Ev} {K : List Sh} {x1 : Int32} {x2 : Int32} {x3 : Int32} {M : Mem} {r : Int32} {M' : Mem} (hL : nq_atModel E K) (h : fX9_word x1 x2 x3 M = some (r, M')) : nq_MA l E yX9_word wsX9_word (nq_rm 6) [.ref (nq_ad E 0), .int x1, .int x2, .int x3] K M (some (.int r)) K M' :=
  nq_met (own := RX9) (cc := cX9_word) (maxL := 5) (ret := (some .int)) (by decide) rfl rfl (Nat.le_of_ble_eq_true rfl) (fun X hX hr => mX9_word hL hX hr h)

theorem mmX9_ofWord_c132 : Cond.constantLong RX9 132 (7) ∈ wsX9_ofWord := by decide +kernel
def fX9_ofWord (x1 : Int32) (x2 : Int32) (M : Mem) : Option (Int32 × Mem) :=
  (fX9_isWord x1 M).bind fun v2 =>
  if v2 = 0 then
  (nq_b2 (fX9_finds (1 : Int32) M) fun v5 M6 =>
  some (v5, M6))
  else
  ((fX9_in x2.toInt64 (0 : Int64) (7 : Int64) M).bind fun v8 =>
  if v8 = 0 then
  (nq_b2 (fX9_finds (1 : Int32) M) fun v11 M12 =>
  some (v11, M12))
  else
  ((fX9_wo x1 x2 M).bind fun v14 =>
  some (v14, M)))
set_option maxHeartbeats 4000000 in
theorem mX9_ofWord {X : Cx} {E : Ev} {l : Launch} {K : List Sh} {x1 : Int32} {x2 : Int32} {M : Mem} {r : Int32} {M' : Mem} (hL : nq_atModel E K) (hX : nq_OK X E l (nq_rm 3) cX9_ofWord 3 RX9 wsX9_ofWord) (hr : nq_RT X E (some .int) (some (.int r)) K M') (h : fX9_ofWord x1 x2 M = some (r, M')) : nq_G X E 3 0 [(0, .ref (nq_ad E 0)), (1, .int x1), (2, .int x2)] [] K M := by
  unfold fX9_ofWord at h
  refine nq_aload_n hX rfl 0 rfl dX9_ofWord_0 ?_
  refine nq_iload_n hX rfl 1 rfl dX9_ofWord_1 ?_
  obtain ⟨v2, hc1, h⟩ := nq_bE h
  refine nq_callVi hX (tX9_isWord hL hc1) gX9_ofWord_X9_isWord rfl rfl dsX9_isWord (by decide) (nq_Model_0 hL) rfl rfl (Nat.le_of_ble_eq_true rfl) dX9_ofWord_2 ?_
  refine nq_if_eq hX (tgt := 29) (by decide) dX9_ofWord_5 (fun c3 => ?_) (fun c3 => ?_)
  · rw [if_pos c3] at h
    refine nq_aload_n hX rfl 0 rfl dX9_ofWord_29 ?_
    refine nq_iconst hX (v := 1) (by decide) dX9_ofWord_30 ?_
    obtain ⟨v5, M6, hc4, h⟩ := nq_b2E h
    refine nq_callVi hX (tX9_finds hL hc4) gX9_ofWord_X9_finds rfl rfl dsX9_finds (by decide) (nq_Model_0 hL) rfl rfl (Nat.le_of_ble_eq_true rfl) dX9_ofWord_31 ?_
    obtain ⟨rfl, rfl⟩ := nq_sE2 h; exact nq_iret hX hr dX9_ofWord_34
  · rw [if_neg c3] at h
    refine nq_iload_n hX rfl 2 rfl dX9_ofWord_8 ?_
    refine nq_i2l hX dX9_ofWord_9 ?_
    refine nq_lconst hX (v := 0) (by decide) dX9_ofWord_10 ?_
    refine nq_ldc2 hX (v := 7) mmX9_ofWord_c132 dX9_ofWord_11 ?_
    obtain ⟨v8, hc7, h⟩ := nq_bE h
    refine nq_callSi hX (tX9_in  hc7) gX9_ofWord_X9_in rfl rfl dsX9_in (by decide) rfl (Nat.le_of_ble_eq_true rfl) dX9_ofWord_14 ?_
    refine nq_if_eq hX (tgt := 29) (by decide) dX9_ofWord_17 (fun c9 => ?_) (fun c9 => ?_)
    · rw [if_pos c9] at h
      refine nq_aload_n hX rfl 0 rfl dX9_ofWord_29 ?_
      refine nq_iconst hX (v := 1) (by decide) dX9_ofWord_30 ?_
      obtain ⟨v11, M12, hc10, h⟩ := nq_b2E h
      refine nq_callVi hX (tX9_finds hL hc10) gX9_ofWord_X9_finds rfl rfl dsX9_finds (by decide) (nq_Model_0 hL) rfl rfl (Nat.le_of_ble_eq_true rfl) dX9_ofWord_31 ?_
      obtain ⟨rfl, rfl⟩ := nq_sE2 h; exact nq_iret hX hr dX9_ofWord_34
    · rw [if_neg c9] at h
      refine nq_aload_n hX rfl 0 rfl dX9_ofWord_20 ?_
      refine nq_iload_n hX rfl 1 rfl dX9_ofWord_21 ?_
      refine nq_iload_n hX rfl 2 rfl dX9_ofWord_22 ?_
      obtain ⟨v14, hc13, h⟩ := nq_bE h
      refine nq_callVi hX (tX9_wo hL hc13) gX9_ofWord_X9_wo rfl rfl dsX9_wo (by decide) (nq_Model_0 hL) rfl rfl (Nat.le_of_ble_eq_true rfl) dX9_ofWord_23 ?_
      refine nq_goto hX (tgt := 34) (by decide) dX9_ofWord_26 ?_
      obtain ⟨rfl, rfl⟩ := nq_sE2 h; exact nq_iret hX hr dX9_ofWord_34
theorem dsX9_ofWord : yX9_ofWord.cls ≠ "java/lang/invoke/MethodHandle" ∧ yX9_ofWord.cls ≠ "java/lang/invoke/VarHandle" ∧ (parseMethodDescriptor yX9_ofWord.desc).map (fun d => d.parameters.length) = some 2 := by decide +kernel
theorem tX9_ofWord {l : Launch} {E : Ev} {K : List Sh} {x1 : Int32} {x2 : Int32} {M : Mem} {r : Int32} {M' : Mem} (hL : nq_atModel E K) (h : fX9_ofWord x1 x2 M = some (r, M')) : nq_MA l E yX9_ofWord wsX9_ofWord (nq_rm 3) [.ref (nq_ad E 0), .int x1, .int x2] K M (some (.int r)) K M' :=
  nq_met (own := RX9) (cc := cX9_ofWord) (maxL := 3) (ret := (some .int)) (by decide) rfl rfl (Nat.le_of_ble_eq_true rfl) (fun X hX hr => mX9_ofWord hL hX hr h)

theorem inX9_lose_9 : ∀ w ∈ u_ws RX9 TX9 23, w ∈ wsX9_lose := by
  intro w h; unfold wsX9_lose; simp only [List.mem_cons, List.mem_append]; simp only [h, true_or, or_true]
theorem lkX9_lose_7 : Cond.fieldLink RX9 7 (TX9 0).1 (TX9 0).2.1 (TX9 0).2.2.1 ∈ wsX9_lose := by decide +kernel
def fX9_lose (x1 : Int32) (M : Mem) : Option (Int32 × Mem) :=
  (fX9_isWord x1 M).bind fun v2 =>
  if v2 = 0 then
  (nq_b2 (fX9_finds (1 : Int32) M) fun v5 M6 =>
  some (v5, M6))
  else
  ((fX9_wo x1 (5 : Int32) M).bind fun v8 =>
  (nq_ag (M 1) 1250 (0 : Int32)).bind fun v9 =>
  if v9 < v8 then
  ((nq_as M 1 1250 (((610 : Int32) + ((8 : Int32) * x1)) + (5 : Int32)) (-1 : Int32)).bind fun M11 =>
  some ((1 : Int32), M11))
  else
  (nq_b2 (fX9_finds (3 : Int32) M) fun v13 M14 =>
  some (v13, M14)))
set_option maxHeartbeats 4000000 in
theorem mX9_lose {X : Cx} {E : Ev} {l : Launch} {K : List Sh} {x1 : Int32} {M : Mem} {r : Int32} {M' : Mem} (hL : nq_atModel E K) (hX : nq_OK X E l (nq_rm 3) cX9_lose 2 RX9 wsX9_lose) (hr : nq_RT X E (some .int) (some (.int r)) K M') (h : fX9_lose x1 M = some (r, M')) : nq_G X E 2 0 [(0, .ref (nq_ad E 0)), (1, .int x1)] [] K M := by
  unfold fX9_lose at h
  refine nq_aload_n hX rfl 0 rfl dX9_lose_0 ?_
  refine nq_iload_n hX rfl 1 rfl dX9_lose_1 ?_
  obtain ⟨v2, hc1, h⟩ := nq_bE h
  refine nq_callVi hX (tX9_isWord hL hc1) gX9_lose_X9_isWord rfl rfl dsX9_isWord (by decide) (nq_Model_0 hL) rfl rfl (Nat.le_of_ble_eq_true rfl) dX9_lose_2 ?_
  refine nq_if_ne hX (tgt := 14) (by decide) dX9_lose_5 (fun c3 => ?_) (fun c3 => ?_)
  · rw [if_pos c3] at h
    refine nq_aload_n hX rfl 0 rfl dX9_lose_8 ?_
    refine nq_iconst hX (v := 1) (by decide) dX9_lose_9 ?_
    obtain ⟨v5, M6, hc4, h⟩ := nq_b2E h
    refine nq_callVi hX (tX9_finds hL hc4) gX9_lose_X9_finds rfl rfl dsX9_finds (by decide) (nq_Model_0 hL) rfl rfl (Nat.le_of_ble_eq_true rfl) dX9_lose_10 ?_
    obtain ⟨rfl, rfl⟩ := nq_sE2 h; exact nq_iret hX hr dX9_lose_13
  · rw [if_neg c3] at h
    refine nq_aload_n hX rfl 0 rfl dX9_lose_14 ?_
    refine nq_iload_n hX rfl 1 rfl dX9_lose_15 ?_
    refine nq_iconst hX (v := 5) (by decide) dX9_lose_16 ?_
    obtain ⟨v8, hc7, h⟩ := nq_bE h
    refine nq_callVi hX (tX9_wo hL hc7) gX9_lose_X9_wo rfl rfl dsX9_wo (by decide) (nq_Model_0 hL) rfl rfl (Nat.le_of_ble_eq_true rfl) dX9_lose_17 ?_
    refine nq_aload_n hX rfl 0 rfl dX9_lose_20 ?_
    refine nq_getr (v := .ref (nq_ad E 1)) hX inX9_lose_9 (nq_Model_0 hL) rfl 0 (by decide) lkX9_lose_7 _ rfl rfl dX9_lose_21 ?_
    refine nq_iconst hX (v := 0) (by decide) dX9_lose_24 ?_
    obtain ⟨v9, e9, hi9, h⟩ := nq_agE h
    refine nq_iald hX (nq_Model_d hL) e9 hi9 dX9_lose_25 ?_
    refine nq_icmp_gt hX (tgt := 35) (by decide) dX9_lose_26 (fun c10 => ?_) (fun c10 => ?_)
    · rw [if_pos c10] at h
      refine nq_aload_n hX rfl 0 rfl dX9_lose_35 ?_
      refine nq_getr (v := .ref (nq_ad E 1)) hX inX9_lose_9 (nq_Model_0 hL) rfl 0 (by decide) lkX9_lose_7 _ rfl rfl dX9_lose_36 ?_
      refine nq_sipush hX (v := 610) (by decide) dX9_lose_39 ?_
      refine nq_bipush hX (v := 8) (by decide) dX9_lose_42 ?_
      refine nq_iload_n hX rfl 1 rfl dX9_lose_44 ?_
      refine nq_imul hX dX9_lose_45 ?_
      refine nq_iadd hX dX9_lose_46 ?_
      refine nq_iconst hX (v := 5) (by decide) dX9_lose_47 ?_
      refine nq_iadd hX dX9_lose_48 ?_
      refine nq_iconst hX (v := -1) (by decide) dX9_lose_49 ?_
      obtain ⟨M11, e11, hi11, h⟩ := nq_asE h
      refine nq_iast hX (nq_Model_d hL) e11 hi11 dX9_lose_50 ?_
      refine nq_iconst hX (v := 1) (by decide) dX9_lose_51 ?_
      obtain ⟨rfl, rfl⟩ := nq_sE2 h; exact nq_iret hX hr dX9_lose_52
    · rw [if_neg c10] at h
      refine nq_aload_n hX rfl 0 rfl dX9_lose_29 ?_
      refine nq_iconst hX (v := 3) (by decide) dX9_lose_30 ?_
      obtain ⟨v13, M14, hc12, h⟩ := nq_b2E h
      refine nq_callVi hX (tX9_finds hL hc12) gX9_lose_X9_finds rfl rfl dsX9_finds (by decide) (nq_Model_0 hL) rfl rfl (Nat.le_of_ble_eq_true rfl) dX9_lose_31 ?_
      obtain ⟨rfl, rfl⟩ := nq_sE2 h; exact nq_iret hX hr dX9_lose_34
theorem dsX9_lose : yX9_lose.cls ≠ "java/lang/invoke/MethodHandle" ∧ yX9_lose.cls ≠ "java/lang/invoke/VarHandle" ∧ (parseMethodDescriptor yX9_lose.desc).map (fun d => d.parameters.length) = some 1 := by decide +kernel
theorem tX9_lose {l : Launch} {E : Ev} {K : List Sh} {x1 : Int32} {M : Mem} {r : Int32} {M' : Mem} (hL : nq_atModel E K) (h : fX9_lose x1 M = some (r, M')) : nq_MA l E yX9_lose wsX9_lose (nq_rm 3) [.ref (nq_ad E 0), .int x1] K M (some (.int r)) K M' :=
  nq_met (own := RX9) (cc := cX9_lose) (maxL := 2) (ret := (some .int)) (by decide) rfl rfl (Nat.le_of_ble_eq_true rfl) (fun X hX hr => mX9_lose hL hX hr h)

def fX9_isOf_L19 (x0 : Int32) (x1 : Int32) (M : Mem) : Option (Int32) :=
  if x1 = (3 : Int32) then
  (if x0 = (5 : Int32) then
  (some (1 : Int32))
  else
  (some (0 : Int32)))
  else
  (some (0 : Int32))
set_option maxHeartbeats 4000000 in
theorem mX9_isOf_L19 {X : Cx} {E : Ev} {l : Launch} {K : List Sh} {x0 : Int32} {x1 : Int32} {M : Mem} {r : Int32}  (hX : nq_OK X E l (nq_rm 1) cX9_isOf 2 RX9 wsX9_isOf) (hr : nq_RT X E (some .boolean) (some (.int r)) K M) (h : fX9_isOf_L19 x0 x1 M = some r) : nq_G X E 2 19 [(0, .int x0), (1, .int x1)] [] K M := by
  unfold fX9_isOf_L19 at h
  refine nq_iload_n hX rfl 1 rfl dX9_isOf_19 ?_
  refine nq_iconst hX (v := 3) (by decide) dX9_isOf_20 ?_
  refine nq_icmp_ne hX (tgt := 33) (by decide) dX9_isOf_21 (fun c5 => ?_) (fun c5 => ?_)
  · rw [if_pos c5] at h
    refine nq_iload_n hX rfl 0 rfl dX9_isOf_24 ?_
    refine nq_iconst hX (v := 5) (by decide) dX9_isOf_25 ?_
    refine nq_icmp_ne hX (tgt := 33) (by decide) dX9_isOf_26 (fun c6 => ?_) (fun c6 => ?_)
    · rw [if_pos c6] at h
      refine nq_iconst hX (v := 1) (by decide) dX9_isOf_29 ?_
      refine nq_goto hX (tgt := 34) (by decide) dX9_isOf_30 ?_
      obtain rfl := nq_sE1 h; exact nq_zret hX hr rfl dX9_isOf_34
    · rw [if_neg c6] at h
      refine nq_iconst hX (v := 0) (by decide) dX9_isOf_33 ?_
      obtain rfl := nq_sE1 h; exact nq_zret hX hr rfl dX9_isOf_34
  · rw [if_neg c5] at h
    refine nq_iconst hX (v := 0) (by decide) dX9_isOf_33 ?_
    obtain rfl := nq_sE1 h; exact nq_zret hX hr rfl dX9_isOf_34
def fX9_isOf (x0 : Int32) (x1 : Int32) (M : Mem) : Option (Int32) :=
  if x1 = 0 then
  (some (1 : Int32))
  else
  (if x1 = x0 then
  (some (1 : Int32))
  else
  (if x1 = (1 : Int32) then
  (if x0 = (2 : Int32) then
  (some (1 : Int32))
  else
  (fX9_isOf_L19 x0 x1 M))
  else
  (fX9_isOf_L19 x0 x1 M)))
set_option maxHeartbeats 4000000 in
theorem mX9_isOf {X : Cx} {E : Ev} {l : Launch} {K : List Sh} {x0 : Int32} {x1 : Int32} {M : Mem} {r : Int32}  (hX : nq_OK X E l (nq_rm 1) cX9_isOf 2 RX9 wsX9_isOf) (hr : nq_RT X E (some .boolean) (some (.int r)) K M) (h : fX9_isOf x0 x1 M = some r) : nq_G X E 2 0 [(0, .int x0), (1, .int x1)] [] K M := by
  unfold fX9_isOf at h
  refine nq_iload_n hX rfl 1 rfl dX9_isOf_0 ?_
  refine nq_if_eq hX (tgt := 29) (by decide) dX9_isOf_1 (fun c1 => ?_) (fun c1 => ?_)
  · rw [if_pos c1] at h
    refine nq_iconst hX (v := 1) (by decide) dX9_isOf_29 ?_
    refine nq_goto hX (tgt := 34) (by decide) dX9_isOf_30 ?_
    obtain rfl := nq_sE1 h; exact nq_zret hX hr rfl dX9_isOf_34
  · rw [if_neg c1] at h
    refine nq_iload_n hX rfl 1 rfl dX9_isOf_4 ?_
    refine nq_iload_n hX rfl 0 rfl dX9_isOf_5 ?_
    refine nq_icmp_eq hX (tgt := 29) (by decide) dX9_isOf_6 (fun c2 => ?_) (fun c2 => ?_)
    · rw [if_pos c2] at h
      refine nq_iconst hX (v := 1) (by decide) dX9_isOf_29 ?_
      refine nq_goto hX (tgt := 34) (by decide) dX9_isOf_30 ?_
      obtain rfl := nq_sE1 h; exact nq_zret hX hr rfl dX9_isOf_34
    · rw [if_neg c2] at h
      refine nq_iload_n hX rfl 1 rfl dX9_isOf_9 ?_
      refine nq_iconst hX (v := 1) (by decide) dX9_isOf_10 ?_
      refine nq_icmp_ne hX (tgt := 19) (by decide) dX9_isOf_11 (fun c3 => ?_) (fun c3 => ?_)
      · rw [if_pos c3] at h
        refine nq_iload_n hX rfl 0 rfl dX9_isOf_14 ?_
        refine nq_iconst hX (v := 2) (by decide) dX9_isOf_15 ?_
        refine nq_icmp_eq hX (tgt := 29) (by decide) dX9_isOf_16 (fun c4 => ?_) (fun c4 => ?_)
        · rw [if_pos c4] at h
          refine nq_iconst hX (v := 1) (by decide) dX9_isOf_29 ?_
          refine nq_goto hX (tgt := 34) (by decide) dX9_isOf_30 ?_
          obtain rfl := nq_sE1 h; exact nq_zret hX hr rfl dX9_isOf_34
        · rw [if_neg c4] at h
          exact mX9_isOf_L19  hX hr h
      · rw [if_neg c3] at h
        exact mX9_isOf_L19  hX hr h
theorem dsX9_isOf : yX9_isOf.cls ≠ "java/lang/invoke/MethodHandle" ∧ yX9_isOf.cls ≠ "java/lang/invoke/VarHandle" ∧ (parseMethodDescriptor yX9_isOf.desc).map (fun d => d.parameters.length) = some 2 := by decide +kernel
theorem tX9_isOf {l : Launch} {E : Ev} {K : List Sh} {x0 : Int32} {x1 : Int32} {M : Mem} {r : Int32}  (h : fX9_isOf x0 x1 M = some r) : nq_MA l E yX9_isOf wsX9_isOf (nq_rm 1) [.int x0, .int x1] K M (some (.int r)) K M :=
  nq_met (own := RX9) (cc := cX9_isOf) (maxL := 2) (ret := (some .boolean)) (by decide) rfl rfl (Nat.le_of_ble_eq_true rfl) (fun X hX hr => mX9_isOf  hX hr h)

