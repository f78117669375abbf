/-! printed by dec.py: Nine 4 -/
theorem inX8_minds_8 : ∀ w ∈ u_ws RX8 TX8 11, w ∈ wsX8_minds := by
  intro w h; unfold wsX8_minds; simp only [List.mem_cons, List.mem_append]; simp only [h, true_or, or_true]
theorem lkX8_minds_16 : Cond.fieldLink RX8 16 (TX8 1).1 (TX8 1).2.1 (TX8 1).2.2.1 ∈ wsX8_minds := by decide +kernel
theorem inX8_minds_7 : ∀ w ∈ u_ws RX7 TX7 17, w ∈ wsX8_minds := by
  intro w h; unfold wsX8_minds; simp only [List.mem_cons, List.mem_append]; simp only [h, true_or, or_true]
theorem lkX8_minds_207 : Cond.fieldLink RX8 207 (TX7 2).1 (TX7 2).2.1 (TX7 2).2.2.1 ∈ wsX8_minds := by decide +kernel
def fX8_minds_B77_43_56_66 (q7 : Nat) (x2 : Int32) (x4 : Int32) (x5 : Int32) (x6 : Int32) (x7 : Int32) (x8 : Int32) (M : Mem) : Option ((Int32 × Int32 × Mem) ⊕ ((Int32 × Mem) ⊕ (Int32 × Mem))) :=
  if (2 : Int32) < x8 then
  (some (.inr (.inl (x4, M))))
  else
  (nq_b2 (fX8_areOfTwoMinds q7 x5 x6 x7 x8 M) fun v14 M15 =>
  if v14 = 0 then
  (nq_lt (x8 + (1 : Int32)) fun v17 =>
  some (.inl (x4, v17, M15)))
  else
  (if x2 = (1 : Int32) then
  ((nq_dv x7 (4 : Int32)).bind fun v19 =>
  (nq_rem x7 (4 : Int32)).bind fun v20 =>
  some (.inr (.inr ((((((((10000 : Int32) * x5) + ((1000 : Int32) * x6)) + ((100 : Int32) * v19)) + ((10 : Int32) * v20)) + x8) + (2 : Int32)), M15))))
  else
  (nq_lt (x4 + (1 : Int32)) fun v21 =>
  nq_lt (x8 + (1 : Int32)) fun v22 =>
  some (.inl (v21, v22, M15)))))
set_option maxHeartbeats 4000000 in
theorem mX8_minds_B77_43_56_66 {X : Cx} {E : Ev} {l : Launch} {K : List Sh} {q7 : Nat} {x2 : Int32} {x4 : Int32} {x5 : Int32} {x6 : Int32} {x7 : Int32} {x8 : Int32} {M : Mem} (hL : nq_atNine E K) (hq7 : nq_atText E K q7) (hX : nq_OK X E l (nq_rm 4) cX8_minds 9 RX8 wsX8_minds) {x : (Int32 × Int32 × Mem) ⊕ ((Int32 × Mem) ⊕ (Int32 × Mem))} (hc : ∀ s' : Int32 × Int32 × Mem, x = .inl s' → nq_G X E 9 77 [(0, .ref (nq_ad E 0)), (2, .int x2), (3, .ref (nq_ad E q7)), (4, .int s'.1), (5, .int x5), (6, .int x6), (7, .int x7), (8, .int s'.2.1)] [] K s'.2.2) (he : ∀ s' : Int32 × Mem, x = .inr (.inl s') → nq_G X E 9 148 [(0, .ref (nq_ad E 0)), (2, .int x2), (3, .ref (nq_ad E q7)), (4, .int s'.1), (5, .int x5), (6, .int x6), (7, .int x7)] [] K s'.2) (hret : ∀ r : Int32 × Mem, x = .inr (.inr r) → nq_RT X E (some .int) (some (.int r.1)) K r.2) (h : fX8_minds_B77_43_56_66 q7 x2 x4 x5 x6 x7 x8 M = some x) : nq_G X E 9 77 [(0, .ref (nq_ad E 0)), (2, .int x2), (3, .ref (nq_ad E q7)), (4, .int x4), (5, .int x5), (6, .int x6), (7, .int x7), (8, .int x8)] [] K M := by
  unfold fX8_minds_B77_43_56_66 at h
  refine nq_iload hX 7 rfl dX8_minds_77 ?_
  refine nq_iconst hX (v := 2) (by decide) dX8_minds_79 ?_
  refine nq_icmp_gt hX (tgt := 148) (by decide) dX8_minds_80 (fun c12 => ?_) (fun c12 => ?_)
  · rw [if_pos c12] at h
    refine nq_sub (lv' := [(0, .ref (nq_ad E 0)), (2, .int x2), (3, .ref (nq_ad E q7)), (4, .int x4), (5, .int x5), (6, .int x6), (7, .int x7)]) [0, 1, 2, 3, 4, 5, 6] rfl ?_
    exact he (x4, M) (nq_sE h).symm
  · rw [if_neg c12] at h
    refine nq_aload_n hX rfl 0 rfl dX8_minds_83 ?_
    refine nq_aload_n hX rfl 2 rfl dX8_minds_84 ?_
    refine nq_iload hX 4 rfl dX8_minds_85 ?_
    refine nq_iload hX 5 rfl dX8_minds_87 ?_
    refine nq_iload hX 6 rfl dX8_minds_89 ?_
    refine nq_iload hX 7 rfl dX8_minds_91 ?_
    obtain ⟨v14, M15, hc13, h⟩ := nq_b2E h
    refine nq_callVi hX (tX8_areOfTwoMinds hL hq7 hc13) gX8_minds_X8_areOfTwoMinds rfl rfl dsX8_areOfTwoMinds (by decide) (nq_Nine_0 hL) rfl rfl (Nat.le_of_ble_eq_true rfl) dX8_minds_93 ?_
    refine nq_if_eq hX (tgt := 142) (by decide) dX8_minds_96 (fun c16 => ?_) (fun c16 => ?_)
    · rw [if_pos c16] at h
      obtain ⟨v17, e17, h⟩ := nq_ltE h
      refine nq_iinc hX (lv' := [(8, .int v17), (0, .ref (nq_ad E 0)), (2, .int x2), (3, .ref (nq_ad E q7)), (4, .int x4), (5, .int x5), (6, .int x6), (7, .int x7)]) (j := 7) rfl (e17.trans rfl) (by decide) rfl dX8_minds_142 ?_
      refine nq_goto hX (tgt := 77) (by decide) dX8_minds_145 ?_
      refine nq_sub (lv' := [(0, .ref (nq_ad E 0)), (2, .int x2), (3, .ref (nq_ad E q7)), (4, .int x4), (5, .int x5), (6, .int x6), (7, .int x7), (8, .int v17)]) [1, 2, 3, 4, 5, 6, 7, 0] rfl ?_
      exact hc (x4, v17, M15) (nq_sE h).symm
    · rw [if_neg c16] at h
      refine nq_iload_n hX rfl 1 rfl dX8_minds_99 ?_
      refine nq_iconst hX (v := 1) (by decide) dX8_minds_100 ?_
      refine nq_icmp_ne hX (tgt := 139) (by decide) dX8_minds_101 (fun c18 => ?_) (fun c18 => ?_)
      · rw [if_pos c18] at h
        refine nq_sipush hX (v := 10000) (by decide) dX8_minds_104 ?_
        refine nq_iload hX 4 rfl dX8_minds_107 ?_
        refine nq_imul hX dX8_minds_109 ?_
        refine nq_sipush hX (v := 1000) (by decide) dX8_minds_110 ?_
        refine nq_iload hX 5 rfl dX8_minds_113 ?_
        refine nq_imul hX dX8_minds_115 ?_
        refine nq_iadd hX dX8_minds_116 ?_
        refine nq_bipush hX (v := 100) (by decide) dX8_minds_117 ?_
        refine nq_iload hX 6 rfl dX8_minds_119 ?_
        refine nq_iconst hX (v := 4) (by decide) dX8_minds_121 ?_
        obtain ⟨v19, e19, hn19, h⟩ := nq_ifE h
        refine nq_idiv hX hn19 e19 dX8_minds_122 ?_
        refine nq_imul hX dX8_minds_123 ?_
        refine nq_iadd hX dX8_minds_124 ?_
        refine nq_bipush hX (v := 10) (by decide) dX8_minds_125 ?_
        refine nq_iload hX 6 rfl dX8_minds_127 ?_
        refine nq_iconst hX (v := 4) (by decide) dX8_minds_129 ?_
        obtain ⟨v20, e20, hn20, h⟩ := nq_ifE h
        refine nq_irem hX hn20 e20 dX8_minds_130 ?_
        refine nq_imul hX dX8_minds_131 ?_
        refine nq_iadd hX dX8_minds_132 ?_
        refine nq_iload hX 7 rfl dX8_minds_133 ?_
        refine nq_iadd hX dX8_minds_135 ?_
        refine nq_iconst hX (v := 2) (by decide) dX8_minds_136 ?_
        refine nq_iadd hX dX8_minds_137 ?_
        exact nq_iret hX (hret ((((((((10000 : Int32) * x5) + ((1000 : Int32) * x6)) + ((100 : Int32) * v19)) + ((10 : Int32) * v20)) + x8) + (2 : Int32)), M15) (nq_sE h).symm) dX8_minds_138
      · rw [if_neg c18] at h
        obtain ⟨v21, e21, h⟩ := nq_ltE h
        refine nq_iinc hX (lv' := [(4, .int v21), (0, .ref (nq_ad E 0)), (2, .int x2), (3, .ref (nq_ad E q7)), (5, .int x5), (6, .int x6), (7, .int x7), (8, .int x8)]) (j := 3) rfl (e21.trans rfl) (by decide) rfl dX8_minds_139 ?_
        obtain ⟨v22, e22, h⟩ := nq_ltE h
        refine nq_iinc hX (lv' := [(8, .int v22), (4, .int v21), (0, .ref (nq_ad E 0)), (2, .int x2), (3, .ref (nq_ad E q7)), (5, .int x5), (6, .int x6), (7, .int x7)]) (j := 7) rfl (e22.trans rfl) (by decide) rfl dX8_minds_142 ?_
        refine nq_goto hX (tgt := 77) (by decide) dX8_minds_145 ?_
        refine nq_sub (lv' := [(0, .ref (nq_ad E 0)), (2, .int x2), (3, .ref (nq_ad E q7)), (4, .int v21), (5, .int x5), (6, .int x6), (7, .int x7), (8, .int v22)]) [2, 3, 4, 1, 5, 6, 7, 0] rfl ?_
        exact hc (v21, v22, M15) (nq_sE h).symm
def fX8_minds_L148_43_56_66 (q7 : Nat) (x2 : Int32) (x4 : Int32) (x5 : Int32) (x6 : Int32) (x7 : Int32) (M : Mem) : Option ((Int32 × Int32 × Mem) ⊕ ((Int32 × Mem) ⊕ (Int32 × Mem))) :=
  nq_lt (x7 + (1 : Int32)) fun v23 =>
  some (.inl (x4, v23, M))
set_option maxHeartbeats 4000000 in
theorem mX8_minds_L148_43_56_66 {X : Cx} {E : Ev} {l : Launch} {K : List Sh} {q7 : Nat} {x2 : Int32} {x4 : Int32} {x5 : Int32} {x6 : Int32} {x7 : Int32} {M : Mem} (hL : nq_atNine E K) (hq7 : nq_atText E K q7) (hX : nq_OK X E l (nq_rm 4) cX8_minds 9 RX8 wsX8_minds) {x : (Int32 × Int32 × Mem) ⊕ ((Int32 × Mem) ⊕ (Int32 × Mem))} (hc : ∀ s' : Int32 × Int32 × Mem, x = .inl s' → nq_G X E 9 66 [(0, .ref (nq_ad E 0)), (2, .int x2), (3, .ref (nq_ad E q7)), (4, .int s'.1), (5, .int x5), (6, .int x6), (7, .int s'.2.1)] [] K s'.2.2) (he : ∀ s' : Int32 × Mem, x = .inr (.inl s') → nq_G X E 9 154 [(0, .ref (nq_ad E 0)), (2, .int x2), (3, .ref (nq_ad E q7)), (4, .int s'.1), (5, .int x5), (6, .int x6)] [] K s'.2) (hret : ∀ r : Int32 × Mem, x = .inr (.inr r) → nq_RT X E (some .int) (some (.int r.1)) K r.2) (h : fX8_minds_L148_43_56_66 q7 x2 x4 x5 x6 x7 M = some x) : nq_G X E 9 148 [(0, .ref (nq_ad E 0)), (2, .int x2), (3, .ref (nq_ad E q7)), (4, .int x4), (5, .int x5), (6, .int x6), (7, .int x7)] [] K M := by
  unfold fX8_minds_L148_43_56_66 at h
  obtain ⟨v23, e23, h⟩ := nq_ltE h
  refine nq_iinc hX (lv' := [(7, .int v23), (0, .ref (nq_ad E 0)), (2, .int x2), (3, .ref (nq_ad E q7)), (4, .int x4), (5, .int x5), (6, .int x6)]) (j := 6) rfl (e23.trans rfl) (by decide) rfl dX8_minds_148 ?_
  refine nq_goto hX (tgt := 66) (by decide) dX8_minds_151 ?_
  refine nq_sub (lv' := [(0, .ref (nq_ad E 0)), (2, .int x2), (3, .ref (nq_ad E q7)), (4, .int x4), (5, .int x5), (6, .int x6), (7, .int v23)]) [1, 2, 3, 4, 5, 6, 0] rfl ?_
  exact hc (x4, v23, M) (nq_sE h).symm
def fX8_minds_L77_43_56_66 (q7 : Nat) (x2 : Int32) (x4 : Int32) (x5 : Int32) (x6 : Int32) (x7 : Int32) (x8 : Int32) (M : Mem) : Option ((Int32 × Int32 × Mem) ⊕ ((Int32 × Mem) ⊕ (Int32 × Mem))) :=
  (nq_lp (fun s : Int32 × Int32 × Mem => fX8_minds_B77_43_56_66 q7 x2 s.1 x5 x6 x7 s.2.1 s.2.2) nq_fuel (x4, x8, M)).bind (Sum.elim (fun e => fX8_minds_L148_43_56_66 q7 x2 e.1 x5 x6 x7 e.2) (fun r1 => some (.inr (.inr r1))))
set_option maxHeartbeats 4000000 in
theorem mX8_minds_L77_43_56_66 {X : Cx} {E : Ev} {l : Launch} {K : List Sh} {q7 : Nat} {x2 : Int32} {x4 : Int32} {x5 : Int32} {x6 : Int32} {x7 : Int32} {x8 : Int32} {M : Mem} (hL : nq_atNine E K) (hq7 : nq_atText E K q7) (hX : nq_OK X E l (nq_rm 4) cX8_minds 9 RX8 wsX8_minds) {x : (Int32 × Int32 × Mem) ⊕ ((Int32 × Mem) ⊕ (Int32 × Mem))} (hc : ∀ s' : Int32 × Int32 × Mem, x = .inl s' → nq_G X E 9 66 [(0, .ref (nq_ad E 0)), (2, .int x2), (3, .ref (nq_ad E q7)), (4, .int s'.1), (5, .int x5), (6, .int x6), (7, .int s'.2.1)] [] K s'.2.2) (he : ∀ s' : Int32 × Mem, x = .inr (.inl s') → nq_G X E 9 154 [(0, .ref (nq_ad E 0)), (2, .int x2), (3, .ref (nq_ad E q7)), (4, .int s'.1), (5, .int x5), (6, .int x6)] [] K s'.2) (hret : ∀ r : Int32 × Mem, x = .inr (.inr r) → nq_RT X E (some .int) (some (.int r.1)) K r.2) (h : fX8_minds_L77_43_56_66 q7 x2 x4 x5 x6 x7 x8 M = some x) : nq_G X E 9 77 [(0, .ref (nq_ad E 0)), (2, .int x2), (3, .ref (nq_ad E q7)), (4, .int x4), (5, .int x5), (6, .int x6), (7, .int x7), (8, .int x8)] [] K M := by
  unfold fX8_minds_L77_43_56_66 at h
  obtain ⟨e, h1, h⟩ := nq_bE h
  have key : ∀ (ex : (Int32 × Mem) ⊕ (Int32 × Mem)), nq_lp (fun s : Int32 × Int32 × Mem => fX8_minds_B77_43_56_66 q7 x2 s.1 x5 x6 x7 s.2.1 s.2.2) nq_fuel (x4, x8, M) = some ex → (∀ e, ex = .inl e → nq_G X E 9 148 [(0, .ref (nq_ad E 0)), (2, .int x2), (3, .ref (nq_ad E q7)), (4, .int e.1), (5, .int x5), (6, .int x6), (7, .int x7)] [] K e.2) → (∀ r, ex = .inr r → nq_RT X E (some .int) (some (.int r.1)) K r.2) → nq_G X E 9 77 [(0, .ref (nq_ad E 0)), (2, .int x2), (3, .ref (nq_ad E q7)), (4, .int ((x4, x8, M).1)), (5, .int x5), (6, .int x6), (7, .int x7), (8, .int ((x4, x8, M).2.1))] [] K (x4, x8, M).2.2 := by
    intro ex h1 hE hR
    refine nq_lpE (P := fun s : Int32 × Int32 × Mem => nq_G X E 9 77 [(0, .ref (nq_ad E 0)), (2, .int x2), (3, .ref (nq_ad E q7)), (4, .int s.1), (5, .int x5), (6, .int x6), (7, .int x7), (8, .int s.2.1)] [] K s.2.2) (r := ex) ?_ nq_fuel (x4, x8, M) h1
    intro s xx hx1 hc1 he1
    exact mX8_minds_B77_43_56_66 hL hq7 hX hc1 (fun e q => hE e (he1 _ q).symm) (fun r q => hR r (he1 _ q).symm) hx1
  refine key e h1 (fun e q => ?_) (fun r1 q => ?_)
  · subst q
    have h : fX8_minds_L148_43_56_66 q7 x2 e.1 x5 x6 x7 e.2 = some x := h
    exact mX8_minds_L148_43_56_66 hL hq7 hX hc he hret h
  · subst q
    have h : some (.inr (.inr r1)) = some x := h
    exact hret _ (nq_sE h).symm
def fX8_minds_B66_43_56 (q7 : Nat) (x2 : Int32) (x4 : Int32) (x5 : Int32) (x6 : Int32) (x7 : Int32) (M : Mem) : Option ((Int32 × Int32 × Mem) ⊕ ((Int32 × Mem) ⊕ (Int32 × Mem))) :=
  if (16 : Int32) ≤ x7 then
  (some (.inr (.inl (x4, M))))
  else
  (fX8_minds_L77_43_56_66 q7 x2 x4 x5 x6 x7 (-2 : Int32) M)
set_option maxHeartbeats 4000000 in
theorem mX8_minds_B66_43_56 {X : Cx} {E : Ev} {l : Launch} {K : List Sh} {q7 : Nat} {x2 : Int32} {x4 : Int32} {x5 : Int32} {x6 : Int32} {x7 : Int32} {M : Mem} (hL : nq_atNine E K) (hq7 : nq_atText E K q7) (hX : nq_OK X E l (nq_rm 4) cX8_minds 9 RX8 wsX8_minds) {x : (Int32 × Int32 × Mem) ⊕ ((Int32 × Mem) ⊕ (Int32 × Mem))} (hc : ∀ s' : Int32 × Int32 × Mem, x = .inl s' → nq_G X E 9 66 [(0, .ref (nq_ad E 0)), (2, .int x2), (3, .ref (nq_ad E q7)), (4, .int s'.1), (5, .int x5), (6, .int x6), (7, .int s'.2.1)] [] K s'.2.2) (he : ∀ s' : Int32 × Mem, x = .inr (.inl s') → nq_G X E 9 154 [(0, .ref (nq_ad E 0)), (2, .int x2), (3, .ref (nq_ad E q7)), (4, .int s'.1), (5, .int x5), (6, .int x6)] [] K s'.2) (hret : ∀ r : Int32 × Mem, x = .inr (.inr r) → nq_RT X E (some .int) (some (.int r.1)) K r.2) (h : fX8_minds_B66_43_56 q7 x2 x4 x5 x6 x7 M = some x) : nq_G X E 9 66 [(0, .ref (nq_ad E 0)), (2, .int x2), (3, .ref (nq_ad E q7)), (4, .int x4), (5, .int x5), (6, .int x6), (7, .int x7)] [] K M := by
  unfold fX8_minds_B66_43_56 at h
  refine nq_iload hX 6 rfl dX8_minds_66 ?_
  refine nq_bipush hX (v := 16) (by decide) dX8_minds_68 ?_
  refine nq_icmp_ge hX (tgt := 154) (by decide) dX8_minds_70 (fun c11 => ?_) (fun c11 => ?_)
  · rw [if_pos c11] at h
    refine nq_sub (lv' := [(0, .ref (nq_ad E 0)), (2, .int x2), (3, .ref (nq_ad E q7)), (4, .int x4), (5, .int x5), (6, .int x6)]) [0, 1, 2, 3, 4, 5] rfl ?_
    exact he (x4, M) (nq_sE h).symm
  · rw [if_neg c11] at h
    refine nq_bipush hX (v := -2) (by decide) dX8_minds_73 ?_
    refine nq_istore hX (lv' := [(8, .int (-2 : Int32)), (0, .ref (nq_ad E 0)), (2, .int x2), (3, .ref (nq_ad E q7)), (4, .int x4), (5, .int x5), (6, .int x6), (7, .int x7)]) (by decide) rfl rfl dX8_minds_75 ?_
    refine nq_sub (lv' := [(0, .ref (nq_ad E 0)), (2, .int x2), (3, .ref (nq_ad E q7)), (4, .int x4), (5, .int x5), (6, .int x6), (7, .int x7), (8, .int (-2 : Int32))]) [1, 2, 3, 4, 5, 6, 7, 0] rfl ?_
    exact mX8_minds_L77_43_56_66 hL hq7 hX hc he hret h
def fX8_minds_L154_43_56 (q7 : Nat) (x2 : Int32) (x4 : Int32) (x5 : Int32) (x6 : Int32) (M : Mem) : Option ((Int32 × Int32 × Mem) ⊕ ((Int32 × Mem) ⊕ (Int32 × Mem))) :=
  nq_lt (x6 + (1 : Int32)) fun v24 =>
  some (.inl (x4, v24, M))
set_option maxHeartbeats 4000000 in
theorem mX8_minds_L154_43_56 {X : Cx} {E : Ev} {l : Launch} {K : List Sh} {q7 : Nat} {x2 : Int32} {x4 : Int32} {x5 : Int32} {x6 : Int32} {M : Mem} (hL : nq_atNine E K) (hq7 : nq_atText E K q7) (hX : nq_OK X E l (nq_rm 4) cX8_minds 9 RX8 wsX8_minds) {x : (Int32 × Int32 × Mem) ⊕ ((Int32 × Mem) ⊕ (Int32 × Mem))} (hc : ∀ s' : Int32 × Int32 × Mem, x = .inl s' → nq_G X E 9 56 [(0, .ref (nq_ad E 0)), (2, .int x2), (3, .ref (nq_ad E q7)), (4, .int s'.1), (5, .int x5), (6, .int s'.2.1)] [] K s'.2.2) (he : ∀ s' : Int32 × Mem, x = .inr (.inl s') → nq_G X E 9 160 [(0, .ref (nq_ad E 0)), (2, .int x2), (3, .ref (nq_ad E q7)), (4, .int s'.1), (5, .int x5)] [] K s'.2) (hret : ∀ r : Int32 × Mem, x = .inr (.inr r) → nq_RT X E (some .int) (some (.int r.1)) K r.2) (h : fX8_minds_L154_43_56 q7 x2 x4 x5 x6 M = some x) : nq_G X E 9 154 [(0, .ref (nq_ad E 0)), (2, .int x2), (3, .ref (nq_ad E q7)), (4, .int x4), (5, .int x5), (6, .int x6)] [] K M := by
  unfold fX8_minds_L154_43_56 at h
  obtain ⟨v24, e24, h⟩ := nq_ltE h
  refine nq_iinc hX (lv' := [(6, .int v24), (0, .ref (nq_ad E 0)), (2, .int x2), (3, .ref (nq_ad E q7)), (4, .int x4), (5, .int x5)]) (j := 5) rfl (e24.trans rfl) (by decide) rfl dX8_minds_154 ?_
  refine nq_goto hX (tgt := 56) (by decide) dX8_minds_157 ?_
  refine nq_sub (lv' := [(0, .ref (nq_ad E 0)), (2, .int x2), (3, .ref (nq_ad E q7)), (4, .int x4), (5, .int x5), (6, .int v24)]) [1, 2, 3, 4, 5, 0] rfl ?_
  exact hc (x4, v24, M) (nq_sE h).symm
def fX8_minds_L66_43_56 (q7 : Nat) (x2 : Int32) (x4 : Int32) (x5 : Int32) (x6 : Int32) (x7 : Int32) (M : Mem) : Option ((Int32 × Int32 × Mem) ⊕ ((Int32 × Mem) ⊕ (Int32 × Mem))) :=
  (nq_lp (fun s : Int32 × Int32 × Mem => fX8_minds_B66_43_56 q7 x2 s.1 x5 x6 s.2.1 s.2.2) nq_fuel (x4, x7, M)).bind (Sum.elim (fun e => fX8_minds_L154_43_56 q7 x2 e.1 x5 x6 e.2) (fun r1 => some (.inr (.inr r1))))
set_option maxHeartbeats 4000000 in
theorem mX8_minds_L66_43_56 {X : Cx} {E : Ev} {l : Launch} {K : List Sh} {q7 : Nat} {x2 : Int32} {x4 : Int32} {x5 : Int32} {x6 : Int32} {x7 : Int32} {M : Mem} (hL : nq_atNine E K) (hq7 : nq_atText E K q7) (hX : nq_OK X E l (nq_rm 4) cX8_minds 9 RX8 wsX8_minds) {x : (Int32 × Int32 × Mem) ⊕ ((Int32 × Mem) ⊕ (Int32 × Mem))} (hc : ∀ s' : Int32 × Int32 × Mem, x = .inl s' → nq_G X E 9 56 [(0, .ref (nq_ad E 0)), (2, .int x2), (3, .ref (nq_ad E q7)), (4, .int s'.1), (5, .int x5), (6, .int s'.2.1)] [] K s'.2.2) (he : ∀ s' : Int32 × Mem, x = .inr (.inl s') → nq_G X E 9 160 [(0, .ref (nq_ad E 0)), (2, .int x2), (3, .ref (nq_ad E q7)), (4, .int s'.1), (5, .int x5)] [] K s'.2) (hret : ∀ r : Int32 × Mem, x = .inr (.inr r) → nq_RT X E (some .int) (some (.int r.1)) K r.2) (h : fX8_minds_L66_43_56 q7 x2 x4 x5 x6 x7 M = some x) : nq_G X E 9 66 [(0, .ref (nq_ad E 0)), (2, .int x2), (3, .ref (nq_ad E q7)), (4, .int x4), (5, .int x5), (6, .int x6), (7, .int x7)] [] K M := by
  unfold fX8_minds_L66_43_56 at h
  obtain ⟨e, h1, h⟩ := nq_bE h
  have key : ∀ (ex : (Int32 × Mem) ⊕ (Int32 × Mem)), nq_lp (fun s : Int32 × Int32 × Mem => fX8_minds_B66_43_56 q7 x2 s.1 x5 x6 s.2.1 s.2.2) nq_fuel (x4, x7, M) = some ex → (∀ e, ex = .inl e → nq_G X E 9 154 [(0, .ref (nq_ad E 0)), (2, .int x2), (3, .ref (nq_ad E q7)), (4, .int e.1), (5, .int x5), (6, .int x6)] [] K e.2) → (∀ r, ex = .inr r → nq_RT X E (some .int) (some (.int r.1)) K r.2) → nq_G X E 9 66 [(0, .ref (nq_ad E 0)), (2, .int x2), (3, .ref (nq_ad E q7)), (4, .int ((x4, x7, M).1)), (5, .int x5), (6, .int x6), (7, .int ((x4, x7, M).2.1))] [] K (x4, x7, M).2.2 := by
    intro ex h1 hE hR
    refine nq_lpE (P := fun s : Int32 × Int32 × Mem => nq_G X E 9 66 [(0, .ref (nq_ad E 0)), (2, .int x2), (3, .ref (nq_ad E q7)), (4, .int s.1), (5, .int x5), (6, .int x6), (7, .int s.2.1)] [] K s.2.2) (r := ex) ?_ nq_fuel (x4, x7, M) h1
    intro s xx hx1 hc1 he1
    exact mX8_minds_B66_43_56 hL hq7 hX hc1 (fun e q => hE e (he1 _ q).symm) (fun r q => hR r (he1 _ q).symm) hx1
  refine key e h1 (fun e q => ?_) (fun r1 q => ?_)
  · subst q
    have h : fX8_minds_L154_43_56 q7 x2 e.1 x5 x6 e.2 = some x := h
    exact mX8_minds_L154_43_56 hL hq7 hX hc he hret h
  · subst q
    have h : some (.inr (.inr r1)) = some x := h
    exact hret _ (nq_sE h).symm
def fX8_minds_B56_43 (q7 : Nat) (x2 : Int32) (x4 : Int32) (x5 : Int32) (x6 : Int32) (M : Mem) : Option ((Int32 × Int32 × Mem) ⊕ ((Int32 × Mem) ⊕ (Int32 × Mem))) :=
  if (6 : Int32) ≤ x6 then
  (some (.inr (.inl (x4, M))))
  else
  (fX8_minds_L66_43_56 q7 x2 x4 x5 x6 (0 : Int32) M)
set_option maxHeartbeats 4000000 in
theorem mX8_minds_B56_43 {X : Cx} {E : Ev} {l : Launch} {K : List Sh} {q7 : Nat} {x2 : Int32} {x4 : Int32} {x5 : Int32} {x6 : Int32} {M : Mem} (hL : nq_atNine E K) (hq7 : nq_atText E K q7) (hX : nq_OK X E l (nq_rm 4) cX8_minds 9 RX8 wsX8_minds) {x : (Int32 × Int32 × Mem) ⊕ ((Int32 × Mem) ⊕ (Int32 × Mem))} (hc : ∀ s' : Int32 × Int32 × Mem, x = .inl s' → nq_G X E 9 56 [(0, .ref (nq_ad E 0)), (2, .int x2), (3, .ref (nq_ad E q7)), (4, .int s'.1), (5, .int x5), (6, .int s'.2.1)] [] K s'.2.2) (he : ∀ s' : Int32 × Mem, x = .inr (.inl s') → nq_G X E 9 160 [(0, .ref (nq_ad E 0)), (2, .int x2), (3, .ref (nq_ad E q7)), (4, .int s'.1), (5, .int x5)] [] K s'.2) (hret : ∀ r : Int32 × Mem, x = .inr (.inr r) → nq_RT X E (some .int) (some (.int r.1)) K r.2) (h : fX8_minds_B56_43 q7 x2 x4 x5 x6 M = some x) : nq_G X E 9 56 [(0, .ref (nq_ad E 0)), (2, .int x2), (3, .ref (nq_ad E q7)), (4, .int x4), (5, .int x5), (6, .int x6)] [] K M := by
  unfold fX8_minds_B56_43 at h
  refine nq_iload hX 5 rfl dX8_minds_56 ?_
  refine nq_bipush hX (v := 6) (by decide) dX8_minds_58 ?_
  refine nq_icmp_ge hX (tgt := 160) (by decide) dX8_minds_60 (fun c10 => ?_) (fun c10 => ?_)
  · rw [if_pos c10] at h
    refine nq_sub (lv' := [(0, .ref (nq_ad E 0)), (2, .int x2), (3, .ref (nq_ad E q7)), (4, .int x4), (5, .int x5)]) [0, 1, 2, 3, 4] rfl ?_
    exact he (x4, M) (nq_sE h).symm
  · rw [if_neg c10] at h
    refine nq_iconst hX (v := 0) (by decide) dX8_minds_63 ?_
    refine nq_istore hX (lv' := [(7, .int (0 : Int32)), (0, .ref (nq_ad E 0)), (2, .int x2), (3, .ref (nq_ad E q7)), (4, .int x4), (5, .int x5), (6, .int x6)]) (by decide) rfl rfl dX8_minds_64 ?_
    refine nq_sub (lv' := [(0, .ref (nq_ad E 0)), (2, .int x2), (3, .ref (nq_ad E q7)), (4, .int x4), (5, .int x5), (6, .int x6), (7, .int (0 : Int32))]) [1, 2, 3, 4, 5, 6, 0] rfl ?_
    exact mX8_minds_L66_43_56 hL hq7 hX hc he hret h
def fX8_minds_L160_43 (q7 : Nat) (x2 : Int32) (x4 : Int32) (x5 : Int32) (M : Mem) : Option ((Int32 × Int32 × Mem) ⊕ ((Int32 × Mem) ⊕ (Int32 × Mem))) :=
  nq_lt (x5 + (1 : Int32)) fun v25 =>
  some (.inl (x4, v25, M))
set_option maxHeartbeats 4000000 in
theorem mX8_minds_L160_43 {X : Cx} {E : Ev} {l : Launch} {K : List Sh} {q7 : Nat} {x2 : Int32} {x4 : Int32} {x5 : Int32} {M : Mem} (hL : nq_atNine E K) (hq7 : nq_atText E K q7) (hX : nq_OK X E l (nq_rm 4) cX8_minds 9 RX8 wsX8_minds) {x : (Int32 × Int32 × Mem) ⊕ ((Int32 × Mem) ⊕ (Int32 × Mem))} (hc : ∀ s' : Int32 × Int32 × Mem, x = .inl s' → nq_G X E 9 43 [(0, .ref (nq_ad E 0)), (2, .int x2), (3, .ref (nq_ad E q7)), (4, .int s'.1), (5, .int s'.2.1)] [] K s'.2.2) (he : ∀ s' : Int32 × Mem, x = .inr (.inl s') → nq_G X E 9 166 [(0, .ref (nq_ad E 0)), (2, .int x2), (4, .int s'.1)] [] K s'.2) (hret : ∀ r : Int32 × Mem, x = .inr (.inr r) → nq_RT X E (some .int) (some (.int r.1)) K r.2) (h : fX8_minds_L160_43 q7 x2 x4 x5 M = some x) : nq_G X E 9 160 [(0, .ref (nq_ad E 0)), (2, .int x2), (3, .ref (nq_ad E q7)), (4, .int x4), (5, .int x5)] [] K M := by
  unfold fX8_minds_L160_43 at h
  obtain ⟨v25, e25, h⟩ := nq_ltE h
  refine nq_iinc hX (lv' := [(5, .int v25), (0, .ref (nq_ad E 0)), (2, .int x2), (3, .ref (nq_ad E q7)), (4, .int x4)]) (j := 4) rfl (e25.trans rfl) (by decide) rfl dX8_minds_160 ?_
  refine nq_goto hX (tgt := 43) (by decide) dX8_minds_163 ?_
  refine nq_sub (lv' := [(0, .ref (nq_ad E 0)), (2, .int x2), (3, .ref (nq_ad E q7)), (4, .int x4), (5, .int v25)]) [1, 2, 3, 4, 0] rfl ?_
  exact hc (x4, v25, M) (nq_sE h).symm
def fX8_minds_L56_43 (q7 : Nat) (x2 : Int32) (x4 : Int32) (x5 : Int32) (x6 : Int32) (M : Mem) : Option ((Int32 × Int32 × Mem) ⊕ ((Int32 × Mem) ⊕ (Int32 × Mem))) :=
  (nq_lp (fun s : Int32 × Int32 × Mem => fX8_minds_B56_43 q7 x2 s.1 x5 s.2.1 s.2.2) nq_fuel (x4, x6, M)).bind (Sum.elim (fun e => fX8_minds_L160_43 q7 x2 e.1 x5 e.2) (fun r1 => some (.inr (.inr r1))))
set_option maxHeartbeats 4000000 in
theorem mX8_minds_L56_43 {X : Cx} {E : Ev} {l : Launch} {K : List Sh} {q7 : Nat} {x2 : Int32} {x4 : Int32} {x5 : Int32} {x6 : Int32} {M : Mem} (hL : nq_atNine E K) (hq7 : nq_atText E K q7) (hX : nq_OK X E l (nq_rm 4) cX8_minds 9 RX8 wsX8_minds) {x : (Int32 × Int32 × Mem) ⊕ ((Int32 × Mem) ⊕ (Int32 × Mem))} (hc : ∀ s' : Int32 × Int32 × Mem, x = .inl s' → nq_G X E 9 43 [(0, .ref (nq_ad E 0)), (2, .int x2), (3, .ref (nq_ad E q7)), (4, .int s'.1), (5, .int s'.2.1)] [] K s'.2.2) (he : ∀ s' : Int32 × Mem, x = .inr (.inl s') → nq_G X E 9 166 [(0, .ref (nq_ad E 0)), (2, .int x2), (4, .int s'.1)] [] K s'.2) (hret : ∀ r : Int32 × Mem, x = .inr (.inr r) → nq_RT X E (some .int) (some (.int r.1)) K r.2) (h : fX8_minds_L56_43 q7 x2 x4 x5 x6 M = some x) : nq_G X E 9 56 [(0, .ref (nq_ad E 0)), (2, .int x2), (3, .ref (nq_ad E q7)), (4, .int x4), (5, .int x5), (6, .int x6)] [] K M := by
  unfold fX8_minds_L56_43 at h
  obtain ⟨e, h1, h⟩ := nq_bE h
  have key : ∀ (ex : (Int32 × Mem) ⊕ (Int32 × Mem)), nq_lp (fun s : Int32 × Int32 × Mem => fX8_minds_B56_43 q7 x2 s.1 x5 s.2.1 s.2.2) nq_fuel (x4, x6, M) = some ex → (∀ e, ex = .inl e → nq_G X E 9 160 [(0, .ref (nq_ad E 0)), (2, .int x2), (3, .ref (nq_ad E q7)), (4, .int e.1), (5, .int x5)] [] K e.2) → (∀ r, ex = .inr r → nq_RT X E (some .int) (some (.int r.1)) K r.2) → nq_G X E 9 56 [(0, .ref (nq_ad E 0)), (2, .int x2), (3, .ref (nq_ad E q7)), (4, .int ((x4, x6, M).1)), (5, .int x5), (6, .int ((x4, x6, M).2.1))] [] K (x4, x6, M).2.2 := by
    intro ex h1 hE hR
    refine nq_lpE (P := fun s : Int32 × Int32 × Mem => nq_G X E 9 56 [(0, .ref (nq_ad E 0)), (2, .int x2), (3, .ref (nq_ad E q7)), (4, .int s.1), (5, .int x5), (6, .int s.2.1)] [] K s.2.2) (r := ex) ?_ nq_fuel (x4, x6, M) h1
    intro s xx hx1 hc1 he1
    exact mX8_minds_B56_43 hL hq7 hX hc1 (fun e q => hE e (he1 _ q).symm) (fun r q => hR r (he1 _ q).symm) hx1
  refine key e h1 (fun e q => ?_) (fun r1 q => ?_)
  · subst q
    have h : fX8_minds_L160_43 q7 x2 e.1 x5 e.2 = some x := h
    exact mX8_minds_L160_43 hL hq7 hX hc he hret h
  · subst q
    have h : some (.inr (.inr r1)) = some x := h
    exact hret _ (nq_sE h).symm
def fX8_minds_B43 (q7 : Nat) (x2 : Int32) (x4 : Int32) (x5 : Int32) (M : Mem) : Option ((Int32 × Int32 × Mem) ⊕ ((Int32 × Mem) ⊕ (Int32 × Mem))) :=
  if (6 : Int32) ≤ x5 then
  (some (.inr (.inl (x4, M))))
  else
  (nq_lt ((x5 + (1 : Int32))) fun v9 =>
  fX8_minds_L56_43 q7 x2 x4 x5 v9 M)
set_option maxHeartbeats 4000000 in
theorem mX8_minds_B43 {X : Cx} {E : Ev} {l : Launch} {K : List Sh} {q7 : Nat} {x2 : Int32} {x4 : Int32} {x5 : Int32} {M : Mem} (hL : nq_atNine E K) (hq7 : nq_atText E K q7) (hX : nq_OK X E l (nq_rm 4) cX8_minds 9 RX8 wsX8_minds) {x : (Int32 × Int32 × Mem) ⊕ ((Int32 × Mem) ⊕ (Int32 × Mem))} (hc : ∀ s' : Int32 × Int32 × Mem, x = .inl s' → nq_G X E 9 43 [(0, .ref (nq_ad E 0)), (2, .int x2), (3, .ref (nq_ad E q7)), (4, .int s'.1), (5, .int s'.2.1)] [] K s'.2.2) (he : ∀ s' : Int32 × Mem, x = .inr (.inl s') → nq_G X E 9 166 [(0, .ref (nq_ad E 0)), (2, .int x2), (4, .int s'.1)] [] K s'.2) (hret : ∀ r : Int32 × Mem, x = .inr (.inr r) → nq_RT X E (some .int) (some (.int r.1)) K r.2) (h : fX8_minds_B43 q7 x2 x4 x5 M = some x) : nq_G X E 9 43 [(0, .ref (nq_ad E 0)), (2, .int x2), (3, .ref (nq_ad E q7)), (4, .int x4), (5, .int x5)] [] K M := by
  unfold fX8_minds_B43 at h
  refine nq_iload hX 4 rfl dX8_minds_43 ?_
  refine nq_bipush hX (v := 6) (by decide) dX8_minds_45 ?_
  refine nq_icmp_ge hX (tgt := 166) (by decide) dX8_minds_47 (fun c8 => ?_) (fun c8 => ?_)
  · rw [if_pos c8] at h
    refine nq_sub (lv' := [(0, .ref (nq_ad E 0)), (2, .int x2), (4, .int x4)]) [0, 1, 3] rfl ?_
    exact he (x4, M) (nq_sE h).symm
  · rw [if_neg c8] at h
    refine nq_iload hX 4 rfl dX8_minds_50 ?_
    refine nq_iconst hX (v := 1) (by decide) dX8_minds_52 ?_
    refine nq_iadd hX dX8_minds_53 ?_
    obtain ⟨v9, e9, h⟩ := nq_ltE h
    refine nq_istore hX (lv' := [(6, .int v9), (0, .ref (nq_ad E 0)), (2, .int x2), (3, .ref (nq_ad E q7)), (4, .int x4), (5, .int x5)]) (by decide) e9 rfl dX8_minds_54 ?_
    refine nq_sub (lv' := [(0, .ref (nq_ad E 0)), (2, .int x2), (3, .ref (nq_ad E q7)), (4, .int x4), (5, .int x5), (6, .int v9)]) [1, 2, 3, 4, 5, 0] rfl ?_
    exact mX8_minds_L56_43 hL hq7 hX hc he hret h
def fX8_minds_L166 (x2 : Int32) (x4 : Int32) (M : Mem) : Option (Int32 × Mem) :=
  if x2 = (1 : Int32) then
  (nq_b2 (fX8_refuse (2 : Int32) M) fun v28 M29 =>
  some (v28, M29))
  else
  (some (x4, M))
set_option maxHeartbeats 4000000 in
theorem mX8_minds_L166 {X : Cx} {E : Ev} {l : Launch} {K : List Sh} {x2 : Int32} {x4 : Int32} {M : Mem} {r : Int32} {M' : Mem} (hL : nq_atNine E K) (hX : nq_OK X E l (nq_rm 4) cX8_minds 9 RX8 wsX8_minds) (hr : nq_RT X E (some .int) (some (.int r)) K M') (h : fX8_minds_L166 x2 x4 M = some (r, M')) : nq_G X E 9 166 [(0, .ref (nq_ad E 0)), (2, .int x2), (4, .int x4)] [] K M := by
  unfold fX8_minds_L166 at h
  refine nq_iload_n hX rfl 1 rfl dX8_minds_166 ?_
  refine nq_iconst hX (v := 1) (by decide) dX8_minds_167 ?_
  refine nq_icmp_ne hX (tgt := 179) (by decide) dX8_minds_168 (fun c26 => ?_) (fun c26 => ?_)
  · rw [if_pos c26] at h
    refine nq_aload_n hX rfl 0 rfl dX8_minds_171 ?_
    refine nq_iconst hX (v := 2) (by decide) dX8_minds_172 ?_
    obtain ⟨v28, M29, hc27, h⟩ := nq_b2E h
    refine nq_callVi hX (tX8_refuse hL hc27) gX8_minds_X8_refuse rfl rfl dsX8_refuse (by decide) (nq_Nine_0 hL) rfl rfl (Nat.le_of_ble_eq_true rfl) dX8_minds_173 ?_
    refine nq_goto hX (tgt := 181) (by decide) dX8_minds_176 ?_
    obtain ⟨rfl, rfl⟩ := nq_sE2 h; exact nq_iret hX hr dX8_minds_181
  · rw [if_neg c26] at h
    refine nq_iload hX 2 rfl dX8_minds_179 ?_
    obtain ⟨rfl, rfl⟩ := nq_sE2 h; exact nq_iret hX hr dX8_minds_181
def fX8_minds_L43 (q7 : Nat) (x2 : Int32) (x4 : Int32) (x5 : Int32) (M : Mem) : Option (Int32 × Mem) :=
  (nq_lp (fun s : Int32 × Int32 × Mem => fX8_minds_B43 q7 x2 s.1 s.2.1 s.2.2) nq_fuel (x4, x5, M)).bind (Sum.elim (fun e => fX8_minds_L166 x2 e.1 e.2) (fun r1 => some r1))
set_option maxHeartbeats 4000000 in
theorem mX8_minds_L43 {X : Cx} {E : Ev} {l : Launch} {K : List Sh} {q7 : Nat} {x2 : Int32} {x4 : Int32} {x5 : Int32} {M : Mem} {r : Int32} {M' : Mem} (hL : nq_atNine E K) (hq7 : nq_atText E K q7) (hX : nq_OK X E l (nq_rm 4) cX8_minds 9 RX8 wsX8_minds) (hr : nq_RT X E (some .int) (some (.int r)) K M') (h : fX8_minds_L43 q7 x2 x4 x5 M = some (r, M')) : nq_G X E 9 43 [(0, .ref (nq_ad E 0)), (2, .int x2), (3, .ref (nq_ad E q7)), (4, .int x4), (5, .int x5)] [] K M := by
  unfold fX8_minds_L43 at h
  obtain ⟨e, h1, h⟩ := nq_bE h
  have key : ∀ (ex : (Int32 × Mem) ⊕ (Int32 × Mem)), nq_lp (fun s : Int32 × Int32 × Mem => fX8_minds_B43 q7 x2 s.1 s.2.1 s.2.2) nq_fuel (x4, x5, M) = some ex → (∀ e, ex = .inl e → nq_G X E 9 166 [(0, .ref (nq_ad E 0)), (2, .int x2), (4, .int e.1)] [] K e.2) → (∀ r, ex = .inr r → nq_RT X E (some .int) (some (.int r.1)) K r.2) → nq_G X E 9 43 [(0, .ref (nq_ad E 0)), (2, .int x2), (3, .ref (nq_ad E q7)), (4, .int ((x4, x5, M).1)), (5, .int ((x4, x5, M).2.1))] [] K (x4, x5, M).2.2 := by
    intro ex h1 hE hR
    refine nq_lpE (P := fun s : Int32 × Int32 × Mem => nq_G X E 9 43 [(0, .ref (nq_ad E 0)), (2, .int x2), (3, .ref (nq_ad E q7)), (4, .int s.1), (5, .int s.2.1)] [] K s.2.2) (r := ex) ?_ nq_fuel (x4, x5, M) h1
    intro s xx hx1 hc1 he1
    exact mX8_minds_B43 hL hq7 hX hc1 (fun e q => hE e (he1 _ q).symm) (fun r q => hR r (he1 _ q).symm) hx1
  refine key e h1 (fun e q => ?_) (fun r1 q => ?_)
  · subst q
    have h : fX8_minds_L166 x2 e.1 e.2 = some (r, M') := h
    exact mX8_minds_L166 hL hX hr h
  · subst q
    have h : some r1 = some (r, M') := h
    obtain rfl := nq_sE1 h; exact hr
def fX8_minds (x1 : Int32) (x2 : Int32) (M : Mem) : Option (Int32 × Mem) :=
  (fX8_isOutside x1 (0 : Int32) (1 : Int32) M).bind fun v2 =>
  if v2 = 0 then
  ((fX8_isOutside x2 (0 : Int32) (1 : Int32) M).bind fun v5 =>
  if v5 = 0 then
  ((nq_ar 23 8 ((6 : Int32) + x1)).bind fun q7 =>
  fX8_minds_L43 q7 x2 (0 : Int32) (0 : Int32) M)
  else
  (nq_b2 (fX8_refuse (1 : Int32) M) fun v31 M32 =>
  some (v31, M32)))
  else
  (nq_b2 (fX8_refuse (1 : Int32) M) fun v34 M35 =>
  some (v34, M35))
set_option maxHeartbeats 4000000 in
theorem mX8_minds {X : Cx} {E : Ev} {l : Launch} {K : List Sh} {x1 : Int32} {x2 : Int32} {M : Mem} {r : Int32} {M' : Mem} (hL : nq_atNine E K) (hX : nq_OK X E l (nq_rm 4) cX8_minds 9 RX8 wsX8_minds) (hr : nq_RT X E (some .int) (some (.int r)) K M') (h : fX8_minds x1 x2 M = some (r, M')) : nq_G X E 9 0 [(0, .ref (nq_ad E 0)), (1, .int x1), (2, .int x2)] [] K M := by
  unfold fX8_minds at h
  refine nq_iload_n hX rfl 1 rfl dX8_minds_0 ?_
  refine nq_iconst hX (v := 0) (by decide) dX8_minds_1 ?_
  refine nq_iconst hX (v := 1) (by decide) dX8_minds_2 ?_
  obtain ⟨v2, hc1, h⟩ := nq_bE h
  refine nq_callSi hX (tX8_isOutside  hc1) gX8_minds_X8_isOutside rfl rfl dsX8_isOutside (by decide) rfl (Nat.le_of_ble_eq_true rfl) dX8_minds_3 ?_
  refine nq_if_ne hX (tgt := 18) (by decide) dX8_minds_6 (fun c3 => ?_) (fun c3 => ?_)
  · rw [if_pos c3] at h
    refine nq_iload_n hX rfl 2 rfl dX8_minds_9 ?_
    refine nq_iconst hX (v := 0) (by decide) dX8_minds_10 ?_
    refine nq_iconst hX (v := 1) (by decide) dX8_minds_11 ?_
    obtain ⟨v5, hc4, h⟩ := nq_bE h
    refine nq_callSi hX (tX8_isOutside  hc4) gX8_minds_X8_isOutside rfl rfl dsX8_isOutside (by decide) rfl (Nat.le_of_ble_eq_true rfl) dX8_minds_12 ?_
    refine nq_if_eq hX (tgt := 24) (by decide) dX8_minds_15 (fun c6 => ?_) (fun c6 => ?_)
    · rw [if_pos c6] at h
      refine nq_aload_n hX rfl 0 rfl dX8_minds_24 ?_
      refine nq_getr (v := .ref (nq_ad E 2)) hX inX8_minds_8 (nq_Nine_0 hL) rfl 1 (by decide) lkX8_minds_16 _ rfl rfl dX8_minds_25 ?_
      refine nq_getr (v := .ref (nq_ad E 16)) hX inX8_minds_7 (nq_World_0 (nq_Nine_world hL)) rfl 2 (by decide) lkX8_minds_207 _ rfl rfl dX8_minds_28 ?_
      refine nq_bipush hX (v := 6) (by decide) dX8_minds_31 ?_
      refine nq_iload_n hX rfl 1 rfl dX8_minds_33 ?_
      refine nq_iadd hX dX8_minds_34 ?_
      obtain ⟨q7, e7, hi7, h⟩ := nq_arE h
      have hq7 : nq_atText E K q7 := by rw [e7]; exact nq_World_textsT (nq_Nine_world hL) _ (nq_inLt hi7)
      refine nq_aald hX (q := q7) (nq_World_texts (nq_Nine_world hL)) rfl hi7 (by rw [e7]; exact nq_World_textsQ _ (nq_inLt hi7)) dX8_minds_35 ?_
      refine nq_astore_n hX (lv' := [(3, .ref (nq_ad E q7)), (0, .ref (nq_ad E 0)), (1, .int x1), (2, .int x2)]) rfl (by decide) rfl rfl dX8_minds_36 ?_
      refine nq_iconst hX (v := 0) (by decide) dX8_minds_37 ?_
      refine nq_istore hX (lv' := [(4, .int (0 : Int32)), (3, .ref (nq_ad E q7)), (0, .ref (nq_ad E 0)), (1, .int x1), (2, .int x2)]) (by decide) rfl rfl dX8_minds_38 ?_
      refine nq_iconst hX (v := 0) (by decide) dX8_minds_40 ?_
      refine nq_istore hX (lv' := [(5, .int (0 : Int32)), (4, .int (0 : Int32)), (3, .ref (nq_ad E q7)), (0, .ref (nq_ad E 0)), (1, .int x1), (2, .int x2)]) (by decide) rfl rfl dX8_minds_41 ?_
      refine nq_sub (lv' := [(0, .ref (nq_ad E 0)), (2, .int x2), (3, .ref (nq_ad E q7)), (4, .int (0 : Int32)), (5, .int (0 : Int32))]) [3, 5, 2, 1, 0] rfl ?_
      exact mX8_minds_L43 hL hq7 hX hr h
    · rw [if_neg c6] at h
      refine nq_aload_n hX rfl 0 rfl dX8_minds_18 ?_
      refine nq_iconst hX (v := 1) (by decide) dX8_minds_19 ?_
      obtain ⟨v31, M32, hc30, h⟩ := nq_b2E h
      refine nq_callVi hX (tX8_refuse hL hc30) gX8_minds_X8_refuse rfl rfl dsX8_refuse (by decide) (nq_Nine_0 hL) rfl rfl (Nat.le_of_ble_eq_true rfl) dX8_minds_20 ?_
      obtain ⟨rfl, rfl⟩ := nq_sE2 h; exact nq_iret hX hr dX8_minds_23
  · rw [if_neg c3] at h
    refine nq_aload_n hX rfl 0 rfl dX8_minds_18 ?_
    refine nq_iconst hX (v := 1) (by decide) dX8_minds_19 ?_
    obtain ⟨v34, M35, hc33, h⟩ := nq_b2E h
    refine nq_callVi hX (tX8_refuse hL hc33) gX8_minds_X8_refuse rfl rfl dsX8_refuse (by decide) (nq_Nine_0 hL) rfl rfl (Nat.le_of_ble_eq_true rfl) dX8_minds_20 ?_
    obtain ⟨rfl, rfl⟩ := nq_sE2 h; exact nq_iret hX hr dX8_minds_23
theorem dsX8_minds : yX8_minds.cls ≠ "java/lang/invoke/MethodHandle" ∧ yX8_minds.cls ≠ "java/lang/invoke/VarHandle" ∧ (parseMethodDescriptor yX8_minds.desc).map (fun d => d.parameters.length) = some 2 := by decide +kernel
theorem tX8_minds {l : Launch} {E : Ev} {K : List Sh} {x1 : Int32} {x2 : Int32} {M : Mem} {r : Int32} {M' : Mem} (hL : nq_atNine E K) (h : fX8_minds x1 x2 M = some (r, M')) : nq_MA l E yX8_minds wsX8_minds (nq_rm 4) [.ref (nq_ad E 0), .int x1, .int x2] K M (some (.int r)) K M' :=
  nq_met (own := RX8) (cc := cX8_minds) (maxL := 9) (ret := (some .int)) (by decide) rfl rfl (Nat.le_of_ble_eq_true rfl) (fun X hX hr => mX8_minds hL hX hr h)

theorem mmX8_heirs_c275 : Cond.constantLong RX8 275 (2) ∈ wsX8_heirs := by decide +kernel
def fX8_heirs (x1 : Int32) (x2 : Int32) (x3 : Int32) (M : Mem) : Option (Int64 × Mem) :=
  (fX8_isOutside x1 (0 : Int32) (8 : Int32) M).bind fun v2 =>
  if v2 = 0 then
  ((fX8_isPart x2 (6 : Int32) M).bind fun v5 =>
  if v5 = 0 then
  (nq_b2 (fX8_refuse (1 : Int32) M) fun v8 M9 =>
  some (v8.toInt64, M9))
  else
  ((fX8_isOutside x3 (0 : Int32) (1 : Int32) M).bind fun v11 =>
  if v11 = 0 then
  ((nq_dv x2 (10 : Int32)).bind fun v13 =>
  (nq_rem x2 (10 : Int32)).bind fun v14 =>
  (fX8_power v14.toInt64 x1 M).bind fun v16 =>
  (fX8_power ((v14 - ((2 : Int32) * v13)).toInt64) x1 M).bind fun v18 =>
  (fX8_lowest (v16 + v18) ((2 : Int64) * v16) x3 M).bind fun v20 =>
  some (v20, M))
  else
  (nq_b2 (fX8_refuse (1 : Int32) M) fun v22 M23 =>
  some (v22.toInt64, M23))))
  else
  (nq_b2 (fX8_refuse (1 : Int32) M) fun v25 M26 =>
  some (v25.toInt64, M26))
set_option maxHeartbeats 4000000 in
theorem mX8_heirs {X : Cx} {E : Ev} {l : Launch} {K : List Sh} {x1 : Int32} {x2 : Int32} {x3 : Int32} {M : Mem} {r : Int64} {M' : Mem} (hL : nq_atNine E K) (hX : nq_OK X E l (nq_rm 3) cX8_heirs 10 RX8 wsX8_heirs) (hr : nq_RT X E (some .long) (some (.long r)) K M') (h : fX8_heirs x1 x2 x3 M = some (r, M')) : nq_G X E 10 0 [(0, .ref (nq_ad E 0)), (1, .int x1), (2, .int x2), (3, .int x3)] [] K M := by
  unfold fX8_heirs at h
  refine nq_iload_n hX rfl 1 rfl dX8_heirs_0 ?_
  refine nq_iconst hX (v := 0) (by decide) dX8_heirs_1 ?_
  refine nq_bipush hX (v := 8) (by decide) dX8_heirs_2 ?_
  obtain ⟨v2, hc1, h⟩ := nq_bE h
  refine nq_callSi hX (tX8_isOutside  hc1) gX8_heirs_X8_isOutside rfl rfl dsX8_isOutside (by decide) rfl (Nat.le_of_ble_eq_true rfl) dX8_heirs_4 ?_
  refine nq_if_ne hX (tgt := 28) (by decide) dX8_heirs_7 (fun c3 => ?_) (fun c3 => ?_)
  · rw [if_pos c3] at h
    refine nq_iload_n hX rfl 2 rfl dX8_heirs_10 ?_
    refine nq_bipush hX (v := 6) (by decide) dX8_heirs_11 ?_
    obtain ⟨v5, hc4, h⟩ := nq_bE h
    refine nq_callSi hX (tX8_isPart  hc4) gX8_heirs_X8_isPart rfl rfl dsX8_isPart (by decide) rfl (Nat.le_of_ble_eq_true rfl) dX8_heirs_13 ?_
    refine nq_if_eq hX (tgt := 28) (by decide) dX8_heirs_16 (fun c6 => ?_) (fun c6 => ?_)
    · rw [if_pos c6] at h
      refine nq_aload_n hX rfl 0 rfl dX8_heirs_28 ?_
      refine nq_iconst hX (v := 1) (by decide) dX8_heirs_29 ?_
      obtain ⟨v8, M9, hc7, h⟩ := nq_b2E h
      refine nq_callVi hX (tX8_refuse hL hc7) gX8_heirs_X8_refuse rfl rfl dsX8_refuse (by decide) (nq_Nine_0 hL) rfl rfl (Nat.le_of_ble_eq_true rfl) dX8_heirs_30 ?_
      refine nq_i2l hX dX8_heirs_33 ?_
      obtain ⟨rfl, rfl⟩ := nq_sE2 h; exact nq_lret hX hr dX8_heirs_34
    · rw [if_neg c6] at h
      refine nq_iload_n hX rfl 3 rfl dX8_heirs_19 ?_
      refine nq_iconst hX (v := 0) (by decide) dX8_heirs_20 ?_
      refine nq_iconst hX (v := 1) (by decide) dX8_heirs_21 ?_
      obtain ⟨v11, hc10, h⟩ := nq_bE h
      refine nq_callSi hX (tX8_isOutside  hc10) gX8_heirs_X8_isOutside rfl rfl dsX8_isOutside (by decide) rfl (Nat.le_of_ble_eq_true rfl) dX8_heirs_22 ?_
      refine nq_if_eq hX (tgt := 35) (by decide) dX8_heirs_25 (fun c12 => ?_) (fun c12 => ?_)
      · rw [if_pos c12] at h
        refine nq_iload_n hX rfl 2 rfl dX8_heirs_35 ?_
        refine nq_bipush hX (v := 10) (by decide) dX8_heirs_36 ?_
        obtain ⟨v13, e13, hn13, h⟩ := nq_ifE h
        refine nq_idiv hX hn13 e13 dX8_heirs_38 ?_
        refine nq_istore hX (lv' := [(4, .int v13), (0, .ref (nq_ad E 0)), (1, .int x1), (2, .int x2), (3, .int x3)]) (by decide) rfl rfl dX8_heirs_39 ?_
        refine nq_iload_n hX rfl 3 rfl dX8_heirs_41 ?_
        refine nq_bipush hX (v := 10) (by decide) dX8_heirs_42 ?_
        obtain ⟨v14, e14, hn14, h⟩ := nq_ifE h
        refine nq_irem hX hn14 e14 dX8_heirs_44 ?_
        refine nq_istore hX (lv' := [(5, .int v14), (4, .int v13), (0, .ref (nq_ad E 0)), (1, .int x1), (2, .int x2), (3, .int x3)]) (by decide) rfl rfl dX8_heirs_45 ?_
        refine nq_iload hX 0 rfl dX8_heirs_47 ?_
        refine nq_i2l hX dX8_heirs_49 ?_
        refine nq_iload_n hX rfl 3 rfl dX8_heirs_50 ?_
        obtain ⟨v16, hc15, h⟩ := nq_bE h
        refine nq_callSl hX (tX8_power  hc15) gX8_heirs_X8_power rfl rfl dsX8_power (by decide) rfl (Nat.le_of_ble_eq_true rfl) dX8_heirs_51 ?_
        refine nq_lstore hX (lv' := [(6, .long v16), (5, .int v14), (4, .int v13), (0, .ref (nq_ad E 0)), (1, .int x1), (2, .int x2), (3, .int x3)]) (by decide) rfl rfl dX8_heirs_54 ?_
        refine nq_iload hX 1 rfl dX8_heirs_56 ?_
        refine nq_iconst hX (v := 2) (by decide) dX8_heirs_58 ?_
        refine nq_iload hX 2 rfl dX8_heirs_59 ?_
        refine nq_imul hX dX8_heirs_61 ?_
        refine nq_isub hX dX8_heirs_62 ?_
        refine nq_i2l hX dX8_heirs_63 ?_
        refine nq_iload_n hX rfl 4 rfl dX8_heirs_64 ?_
        obtain ⟨v18, hc17, h⟩ := nq_bE h
        refine nq_callSl hX (tX8_power  hc17) gX8_heirs_X8_power rfl rfl dsX8_power (by decide) rfl (Nat.le_of_ble_eq_true rfl) dX8_heirs_65 ?_
        refine nq_lstore hX (lv' := [(8, .long v18), (6, .long v16), (5, .int v14), (4, .int v13), (0, .ref (nq_ad E 0)), (1, .int x1), (2, .int x2), (3, .int x3)]) (by decide) rfl rfl dX8_heirs_68 ?_
        refine nq_lload hX 1 rfl dX8_heirs_70 ?_
        refine nq_lload hX 0 rfl dX8_heirs_72 ?_
        refine nq_ladd hX dX8_heirs_74 ?_
        refine nq_ldc2 hX (v := 2) mmX8_heirs_c275 dX8_heirs_75 ?_
        refine nq_lload hX 1 rfl dX8_heirs_78 ?_
        refine nq_lmul hX dX8_heirs_80 ?_
        refine nq_iload_n hX rfl 7 rfl dX8_heirs_81 ?_
        obtain ⟨v20, hc19, h⟩ := nq_bE h
        refine nq_callSl hX (tX8_lowest  hc19) gX8_heirs_X8_lowest rfl rfl dsX8_lowest (by decide) rfl (Nat.le_of_ble_eq_true rfl) dX8_heirs_82 ?_
        obtain ⟨rfl, rfl⟩ := nq_sE2 h; exact nq_lret hX hr dX8_heirs_85
      · rw [if_neg c12] at h
        refine nq_aload_n hX rfl 0 rfl dX8_heirs_28 ?_
        refine nq_iconst hX (v := 1) (by decide) dX8_heirs_29 ?_
        obtain ⟨v22, M23, hc21, h⟩ := nq_b2E h
        refine nq_callVi hX (tX8_refuse hL hc21) gX8_heirs_X8_refuse rfl rfl dsX8_refuse (by decide) (nq_Nine_0 hL) rfl rfl (Nat.le_of_ble_eq_true rfl) dX8_heirs_30 ?_
        refine nq_i2l hX dX8_heirs_33 ?_
        obtain ⟨rfl, rfl⟩ := nq_sE2 h; exact nq_lret hX hr dX8_heirs_34
  · rw [if_neg c3] at h
    refine nq_aload_n hX rfl 0 rfl dX8_heirs_28 ?_
    refine nq_iconst hX (v := 1) (by decide) dX8_heirs_29 ?_
    obtain ⟨v25, M26, hc24, h⟩ := nq_b2E h
    refine nq_callVi hX (tX8_refuse hL hc24) gX8_heirs_X8_refuse rfl rfl dsX8_refuse (by decide) (nq_Nine_0 hL) rfl rfl (Nat.le_of_ble_eq_true rfl) dX8_heirs_30 ?_
    refine nq_i2l hX dX8_heirs_33 ?_
    obtain ⟨rfl, rfl⟩ := nq_sE2 h; exact nq_lret hX hr dX8_heirs_34
theorem dsX8_heirs : yX8_heirs.cls ≠ "java/lang/invoke/MethodHandle" ∧ yX8_heirs.cls ≠ "java/lang/invoke/VarHandle" ∧ (parseMethodDescriptor yX8_heirs.desc).map (fun d => d.parameters.length) = some 3 := by decide +kernel
theorem tX8_heirs {l : Launch} {E : Ev} {K : List Sh} {x1 : Int32} {x2 : Int32} {x3 : Int32} {M : Mem} {r : Int64} {M' : Mem} (hL : nq_atNine E K) (h : fX8_heirs x1 x2 x3 M = some (r, M')) : nq_MA l E yX8_heirs wsX8_heirs (nq_rm 3) [.ref (nq_ad E 0), .int x1, .int x2, .int x3] K M (some (.long r)) K M' :=
  nq_met (own := RX8) (cc := cX8_heirs) (maxL := 10) (ret := (some .long)) (by decide) rfl rfl (Nat.le_of_ble_eq_true rfl) (fun X hX hr => mX8_heirs hL hX hr h)

theorem mmX8_goods_c281 : Cond.constant RX8 281 (99999) ∈ wsX8_goods := by decide +kernel
theorem inX8_goods_8 : ∀ w ∈ u_ws RX8 TX8 11, w ∈ wsX8_goods := by
  intro w h; unfold wsX8_goods; simp only [List.mem_cons, List.mem_append]; simp only [h, true_or, or_true]
theorem lkX8_goods_16 : Cond.fieldLink RX8 16 (TX8 1).1 (TX8 1).2.1 (TX8 1).2.2.1 ∈ wsX8_goods := by decide +kernel
theorem inX8_goods_7 : ∀ w ∈ u_ws RX7 TX7 17, w ∈ wsX8_goods := by
  intro w h; unfold wsX8_goods; simp only [List.mem_cons, List.mem_append]; simp only [h, true_or, or_true]
theorem lkX8_goods_70 : Cond.fieldLink RX8 70 (TX7 0).1 (TX7 0).2.1 (TX7 0).2.2.1 ∈ wsX8_goods := by decide +kernel
theorem lkX8_goods_112 : Cond.fieldLink RX8 112 (TX7 11).1 (TX7 11).2.1 (TX7 11).2.2.1 ∈ wsX8_goods := by decide +kernel
def fX8_goods_B72 (x3 : Int32) (x4 : Int32) (x5 : Int32) (x6 : Int32) (M : Mem) : Option ((Int32 × Int32) ⊕ (Int32)) :=
  nq_lt (M 2 11) fun v18 =>
  if (x4 * v18) ≤ x6 then
  (some (.inr x5))
  else
  ((nq_dv (x5 * x3) (100 : Int32)).bind fun v20 =>
  nq_lt ((x5 - v20)) fun v21 =>
  nq_lt (x6 + (1 : Int32)) fun v22 =>
  some (.inl (v21, v22)))
set_option maxHeartbeats 4000000 in
theorem mX8_goods_B72 {X : Cx} {E : Ev} {l : Launch} {K : List Sh} {x3 : Int32} {x4 : Int32} {x5 : Int32} {x6 : Int32} {M : Mem} (hL : nq_atNine E K) (hX : nq_OK X E l (nq_rm 5) cX8_goods 7 RX8 wsX8_goods) {x : (Int32 × Int32) ⊕ (Int32)} (hc : ∀ s' : Int32 × Int32, x = .inl s' → nq_G X E 7 72 [(0, .ref (nq_ad E 0)), (3, .int x3), (4, .int x4), (5, .int s'.1), (6, .int s'.2)] [] K M) (he : ∀ s' : Int32, x = .inr s' → nq_G X E 7 105 [(5, .int s')] [] K M) (h : fX8_goods_B72 x3 x4 x5 x6 M = some x) : nq_G X E 7 72 [(0, .ref (nq_ad E 0)), (3, .int x3), (4, .int x4), (5, .int x5), (6, .int x6)] [] K M := by
  unfold fX8_goods_B72 at h
  refine nq_iload hX 4 rfl dX8_goods_72 ?_
  refine nq_iload hX 2 rfl dX8_goods_74 ?_
  refine nq_aload_n hX rfl 0 rfl dX8_goods_76 ?_
  refine nq_getr (v := .ref (nq_ad E 2)) hX inX8_goods_8 (nq_Nine_0 hL) rfl 1 (by decide) lkX8_goods_16 _ rfl rfl dX8_goods_77 ?_
  obtain ⟨v18, e18, h⟩ := nq_ltE h
  refine nq_geti hX inX8_goods_7 (nq_World_0 (nq_Nine_world hL)) rfl 11 (by decide) lkX8_goods_112 rfl e18 dX8_goods_80 ?_
  refine nq_imul hX dX8_goods_83 ?_
  refine nq_icmp_ge hX (tgt := 105) (by decide) dX8_goods_84 (fun c19 => ?_) (fun c19 => ?_)
  · rw [if_pos c19] at h
    refine nq_sub (lv' := [(5, .int x5)]) [3] rfl ?_
    exact he x5 (nq_sE h).symm
  · rw [if_neg c19] at h
    refine nq_iload hX 3 rfl dX8_goods_87 ?_
    refine nq_iload hX 3 rfl dX8_goods_89 ?_
    refine nq_iload_n hX rfl 1 rfl dX8_goods_91 ?_
    refine nq_imul hX dX8_goods_92 ?_
    refine nq_bipush hX (v := 100) (by decide) dX8_goods_93 ?_
    obtain ⟨v20, e20, hn20, h⟩ := nq_ifE h
    refine nq_idiv hX hn20 e20 dX8_goods_95 ?_
    refine nq_isub hX dX8_goods_96 ?_
    obtain ⟨v21, e21, h⟩ := nq_ltE h
    refine nq_istore hX (lv' := [(5, .int v21), (0, .ref (nq_ad E 0)), (3, .int x3), (4, .int x4), (6, .int x6)]) (by decide) e21 rfl dX8_goods_97 ?_
    obtain ⟨v22, e22, h⟩ := nq_ltE h
    refine nq_iinc hX (lv' := [(6, .int v22), (5, .int v21), (0, .ref (nq_ad E 0)), (3, .int x3), (4, .int x4)]) (j := 4) rfl (e22.trans rfl) (by decide) rfl dX8_goods_99 ?_
    refine nq_goto hX (tgt := 72) (by decide) dX8_goods_102 ?_
    refine nq_sub (lv' := [(0, .ref (nq_ad E 0)), (3, .int x3), (4, .int x4), (5, .int v21), (6, .int v22)]) [2, 3, 4, 1, 0] rfl ?_
    exact hc (v21, v22) (nq_sE h).symm
def fX8_goods_L105 (x5 : Int32) (M : Mem) : Option (Int32 × Mem) :=
  some (x5, M)
set_option maxHeartbeats 4000000 in
theorem mX8_goods_L105 {X : Cx} {E : Ev} {l : Launch} {K : List Sh} {x5 : Int32} {M : Mem} {r : Int32} {M' : Mem} (hL : nq_atNine E K) (hX : nq_OK X E l (nq_rm 5) cX8_goods 7 RX8 wsX8_goods) (hr : nq_RT X E (some .int) (some (.int r)) K M') (h : fX8_goods_L105 x5 M = some (r, M')) : nq_G X E 7 105 [(5, .int x5)] [] K M := by
  unfold fX8_goods_L105 at h
  refine nq_iload hX 0 rfl dX8_goods_105 ?_
  obtain ⟨rfl, rfl⟩ := nq_sE2 h; exact nq_iret hX hr dX8_goods_107
def fX8_goods_L72 (x3 : Int32) (x4 : Int32) (x5 : Int32) (x6 : Int32) (M : Mem) : Option (Int32 × Mem) :=
  (nq_lp (fun s : Int32 × Int32 => fX8_goods_B72 x3 x4 s.1 s.2 M) nq_fuel (x5, x6)).bind (fun e => fX8_goods_L105 e M)
set_option maxHeartbeats 4000000 in
theorem mX8_goods_L72 {X : Cx} {E : Ev} {l : Launch} {K : List Sh} {x3 : Int32} {x4 : Int32} {x5 : Int32} {x6 : Int32} {M : Mem} {r : Int32} {M' : Mem} (hL : nq_atNine E K) (hX : nq_OK X E l (nq_rm 5) cX8_goods 7 RX8 wsX8_goods) (hr : nq_RT X E (some .int) (some (.int r)) K M') (h : fX8_goods_L72 x3 x4 x5 x6 M = some (r, M')) : nq_G X E 7 72 [(0, .ref (nq_ad E 0)), (3, .int x3), (4, .int x4), (5, .int x5), (6, .int x6)] [] K M := by
  unfold fX8_goods_L72 at h
  obtain ⟨e, h1, h⟩ := nq_bE h
  have key : ∀ (ex : Int32), nq_lp (fun s : Int32 × Int32 => fX8_goods_B72 x3 x4 s.1 s.2 M) nq_fuel (x5, x6) = some ex → (∀ e, ex = e → nq_G X E 7 105 [(5, .int e)] [] K M) → nq_G X E 7 72 [(0, .ref (nq_ad E 0)), (3, .int x3), (4, .int x4), (5, .int ((x5, x6).1)), (6, .int ((x5, x6).2))] [] K M := by
    intro ex h1 hE
    refine nq_lpE (P := fun s : Int32 × Int32 => nq_G X E 7 72 [(0, .ref (nq_ad E 0)), (3, .int x3), (4, .int x4), (5, .int s.1), (6, .int s.2)] [] K M) (r := ex) ?_ nq_fuel (x5, x6) h1
    intro s xx hx1 hc1 he1
    exact mX8_goods_B72 hL hX hc1 (fun e q => hE e (he1 _ q).symm) hx1
  refine key e h1 (fun e q => ?_)
  subst q
  exact mX8_goods_L105 hL hX hr h
def fX8_goods (x1 : Int32) (x2 : Int32) (x3 : Int32) (M : Mem) : Option (Int32 × Mem) :=
  (fX8_isPair x1 M).bind fun v2 =>
  if v2 = 0 then
  (nq_b2 (fX8_refuse (1 : Int32) M) fun v5 M6 =>
  some (v5, M6))
  else
  ((fX8_isOutside x2 (0 : Int32) (99999 : Int32) M).bind fun v8 =>
  if v8 = 0 then
  ((fX8_isOutside x3 (0 : Int32) (99 : Int32) M).bind fun v11 =>
  if v11 = 0 then
  ((nq_dv x1 (10 : Int32)).bind fun v13 =>
  (nq_rem x1 (10 : Int32)).bind fun v14 =>
  (fX2_years 3 v13 v14 M).bind fun v16 =>
  if 0 ≤ v16 then
  (fX8_goods_L72 x3 v16 x2 (0 : Int32) M)
  else
  (nq_b2 (fX8_refuse (2 : Int32) M) fun v24 M25 =>
  some (v24, M25)))
  else
  (nq_b2 (fX8_refuse (1 : Int32) M) fun v27 M28 =>
  some (v27, M28)))
  else
  (nq_b2 (fX8_refuse (1 : Int32) M) fun v30 M31 =>
  some (v30, M31)))
set_option maxHeartbeats 4000000 in
theorem mX8_goods {X : Cx} {E : Ev} {l : Launch} {K : List Sh} {x1 : Int32} {x2 : Int32} {x3 : Int32} {M : Mem} {r : Int32} {M' : Mem} (hL : nq_atNine E K) (hX : nq_OK X E l (nq_rm 5) cX8_goods 7 RX8 wsX8_goods) (hr : nq_RT X E (some .int) (some (.int r)) K M') (h : fX8_goods x1 x2 x3 M = some (r, M')) : nq_G X E 7 0 [(0, .ref (nq_ad E 0)), (1, .int x1), (2, .int x2), (3, .int x3)] [] K M := by
  unfold fX8_goods at h
  refine nq_aload_n hX rfl 0 rfl dX8_goods_0 ?_
  refine nq_iload_n hX rfl 1 rfl dX8_goods_1 ?_
  obtain ⟨v2, hc1, h⟩ := nq_bE h
  refine nq_callVi hX (tX8_isPair hL hc1) gX8_goods_X8_isPair rfl rfl dsX8_isPair (by decide) (nq_Nine_0 hL) rfl rfl (Nat.le_of_ble_eq_true rfl) dX8_goods_2 ?_
  refine nq_if_eq hX (tgt := 29) (by decide) dX8_goods_5 (fun c3 => ?_) (fun c3 => ?_)
  · rw [if_pos c3] at h
    refine nq_aload_n hX rfl 0 rfl dX8_goods_29 ?_
    refine nq_iconst hX (v := 1) (by decide) dX8_goods_30 ?_
    obtain ⟨v5, M6, hc4, h⟩ := nq_b2E h
    refine nq_callVi hX (tX8_refuse hL hc4) gX8_goods_X8_refuse rfl rfl dsX8_refuse (by decide) (nq_Nine_0 hL) rfl rfl (Nat.le_of_ble_eq_true rfl) dX8_goods_31 ?_
    obtain ⟨rfl, rfl⟩ := nq_sE2 h; exact nq_iret hX hr dX8_goods_34
  · rw [if_neg c3] at h
    refine nq_iload_n hX rfl 2 rfl dX8_goods_8 ?_
    refine nq_iconst hX (v := 0) (by decide) dX8_goods_9 ?_
    refine nq_ldcw hX (v := 99999) mmX8_goods_c281 dX8_goods_10 ?_
    obtain ⟨v8, hc7, h⟩ := nq_bE h
    refine nq_callSi hX (tX8_isOutside  hc7) gX8_goods_X8_isOutside rfl rfl dsX8_isOutside (by decide) rfl (Nat.le_of_ble_eq_true rfl) dX8_goods_13 ?_
    refine nq_if_ne hX (tgt := 29) (by decide) dX8_goods_16 (fun c9 => ?_) (fun c9 => ?_)
    · rw [if_pos c9] at h
      refine nq_iload_n hX rfl 3 rfl dX8_goods_19 ?_
      refine nq_iconst hX (v := 0) (by decide) dX8_goods_20 ?_
      refine nq_bipush hX (v := 99) (by decide) dX8_goods_21 ?_
      obtain ⟨v11, hc10, h⟩ := nq_bE h
      refine nq_callSi hX (tX8_isOutside  hc10) gX8_goods_X8_isOutside rfl rfl dsX8_isOutside (by decide) rfl (Nat.le_of_ble_eq_true rfl) dX8_goods_23 ?_
      refine nq_if_eq hX (tgt := 35) (by decide) dX8_goods_26 (fun c12 => ?_) (fun c12 => ?_)
      · rw [if_pos c12] at h
        refine nq_aload_n hX rfl 0 rfl dX8_goods_35 ?_
        refine nq_getr (v := .ref (nq_ad E 2)) hX inX8_goods_8 (nq_Nine_0 hL) rfl 1 (by decide) lkX8_goods_16 _ rfl rfl dX8_goods_36 ?_
        refine nq_getr (v := .ref (nq_ad E 3)) hX inX8_goods_7 (nq_World_0 (nq_Nine_world hL)) rfl 0 (by decide) lkX8_goods_70 _ rfl rfl dX8_goods_39 ?_
        refine nq_iload_n hX rfl 1 rfl dX8_goods_42 ?_
        refine nq_bipush hX (v := 10) (by decide) dX8_goods_43 ?_
        obtain ⟨v13, e13, hn13, h⟩ := nq_ifE h
        refine nq_idiv hX hn13 e13 dX8_goods_45 ?_
        refine nq_iload_n hX rfl 1 rfl dX8_goods_46 ?_
        refine nq_bipush hX (v := 10) (by decide) dX8_goods_47 ?_
        obtain ⟨v14, e14, hn14, h⟩ := nq_ifE h
        refine nq_irem hX hn14 e14 dX8_goods_49 ?_
        obtain ⟨v16, hc15, h⟩ := nq_bE h
        refine nq_callVi hX (tX2_years (nq_World_roads (nq_Nine_world hL)) hc15) gX8_goods_X2_years rfl rfl dsX2_years (by decide) (nq_Roads_0 (nq_World_roads (nq_Nine_world hL))) rfl rfl (Nat.le_of_ble_eq_true rfl) dX8_goods_50 ?_
        refine nq_istore hX (lv' := [(4, .int v16), (0, .ref (nq_ad E 0)), (1, .int x1), (2, .int x2), (3, .int x3)]) (by decide) rfl rfl dX8_goods_53 ?_
        refine nq_iload hX 0 rfl dX8_goods_55 ?_
        refine nq_if_ge hX (tgt := 66) (by decide) dX8_goods_57 (fun c17 => ?_) (fun c17 => ?_)
        · rw [if_pos c17] at h
          refine nq_iload_n hX rfl 3 rfl dX8_goods_66 ?_
          refine nq_istore hX (lv' := [(5, .int x2), (4, .int v16), (0, .ref (nq_ad E 0)), (1, .int x1), (2, .int x2), (3, .int x3)]) (by decide) rfl rfl dX8_goods_67 ?_
          refine nq_iconst hX (v := 0) (by decide) dX8_goods_69 ?_
          refine nq_istore hX (lv' := [(6, .int (0 : Int32)), (5, .int x2), (4, .int v16), (0, .ref (nq_ad E 0)), (1, .int x1), (2, .int x2), (3, .int x3)]) (by decide) rfl rfl dX8_goods_70 ?_
          refine nq_sub (lv' := [(0, .ref (nq_ad E 0)), (3, .int x3), (4, .int v16), (5, .int x2), (6, .int (0 : Int32))]) [3, 6, 2, 1, 0] rfl ?_
          exact mX8_goods_L72 hL hX hr h
        · rw [if_neg c17] at h
          refine nq_aload_n hX rfl 1 rfl dX8_goods_60 ?_
          refine nq_iconst hX (v := 2) (by decide) dX8_goods_61 ?_
          obtain ⟨v24, M25, hc23, h⟩ := nq_b2E h
          refine nq_callVi hX (tX8_refuse hL hc23) gX8_goods_X8_refuse rfl rfl dsX8_refuse (by decide) (nq_Nine_0 hL) rfl rfl (Nat.le_of_ble_eq_true rfl) dX8_goods_62 ?_
          obtain ⟨rfl, rfl⟩ := nq_sE2 h; exact nq_iret hX hr dX8_goods_65
      · rw [if_neg c12] at h
        refine nq_aload_n hX rfl 0 rfl dX8_goods_29 ?_
        refine nq_iconst hX (v := 1) (by decide) dX8_goods_30 ?_
        obtain ⟨v27, M28, hc26, h⟩ := nq_b2E h
        refine nq_callVi hX (tX8_refuse hL hc26) gX8_goods_X8_refuse rfl rfl dsX8_refuse (by decide) (nq_Nine_0 hL) rfl rfl (Nat.le_of_ble_eq_true rfl) dX8_goods_31 ?_
        obtain ⟨rfl, rfl⟩ := nq_sE2 h; exact nq_iret hX hr dX8_goods_34
    · rw [if_neg c9] at h
      refine nq_aload_n hX rfl 0 rfl dX8_goods_29 ?_
      refine nq_iconst hX (v := 1) (by decide) dX8_goods_30 ?_
      obtain ⟨v30, M31, hc29, h⟩ := nq_b2E h
      refine nq_callVi hX (tX8_refuse hL hc29) gX8_goods_X8_refuse rfl rfl dsX8_refuse (by decide) (nq_Nine_0 hL) rfl rfl (Nat.le_of_ble_eq_true rfl) dX8_goods_31 ?_
      obtain ⟨rfl, rfl⟩ := nq_sE2 h; exact nq_iret hX hr dX8_goods_34
theorem dsX8_goods : yX8_goods.cls ≠ "java/lang/invoke/MethodHandle" ∧ yX8_goods.cls ≠ "java/lang/invoke/VarHandle" ∧ (parseMethodDescriptor yX8_goods.desc).map (fun d => d.parameters.length) = some 3 := by decide +kernel
theorem tX8_goods {l : Launch} {E : Ev} {K : List Sh} {x1 : Int32} {x2 : Int32} {x3 : Int32} {M : Mem} {r : Int32} {M' : Mem} (hL : nq_atNine E K) (h : fX8_goods x1 x2 x3 M = some (r, M')) : nq_MA l E yX8_goods wsX8_goods (nq_rm 5) [.ref (nq_ad E 0), .int x1, .int x2, .int x3] K M (some (.int r)) K M' :=
  nq_met (own := RX8) (cc := cX8_goods) (maxL := 7) (ret := (some .int)) (by decide) rfl rfl (Nat.le_of_ble_eq_true rfl) (fun X hX hr => mX8_goods hL hX hr h)

theorem inX8_seed_8 : ∀ w ∈ u_ws RX8 TX8 11, w ∈ wsX8_seed := by
  intro w h; unfold wsX8_seed; simp only [List.mem_cons, List.mem_append]; simp only [h, true_or, or_true]
theorem lkX8_seed_16 : Cond.fieldLink RX8 16 (TX8 1).1 (TX8 1).2.1 (TX8 1).2.2.1 ∈ wsX8_seed := by decide +kernel
theorem inX8_seed_7 : ∀ w ∈ u_ws RX7 TX7 17, w ∈ wsX8_seed := by
  intro w h; unfold wsX8_seed; simp only [List.mem_cons, List.mem_append]; simp only [h, true_or, or_true]
theorem lkX8_seed_282 : Cond.fieldLink RX8 282 (TX7 13).1 (TX7 13).2.1 (TX7 13).2.2.1 ∈ wsX8_seed := by decide +kernel
def fX8_seed (x1 : Int32) (M : Mem) : Option (Int32 × Mem) :=
  nq_lt (M 2 13) fun v1 =>
  nq_lt (nq_wr M 2 13 x1) fun M2 =>
  some (v1, M2)
set_option maxHeartbeats 4000000 in
theorem mX8_seed {X : Cx} {E : Ev} {l : Launch} {K : List Sh} {x1 : Int32} {M : Mem} {r : Int32} {M' : Mem} (hL : nq_atNine E K) (hX : nq_OK X E l (nq_rm 1) cX8_seed 3 RX8 wsX8_seed) (hr : nq_RT X E (some .int) (some (.int r)) K M') (h : fX8_seed x1 M = some (r, M')) : nq_G X E 3 0 [(0, .ref (nq_ad E 0)), (1, .int x1)] [] K M := by
  unfold fX8_seed at h
  refine nq_aload_n hX rfl 0 rfl dX8_seed_0 ?_
  refine nq_getr (v := .ref (nq_ad E 2)) hX inX8_seed_8 (nq_Nine_0 hL) rfl 1 (by decide) lkX8_seed_16 _ rfl rfl dX8_seed_1 ?_
  obtain ⟨v1, e1, h⟩ := nq_ltE h
  refine nq_geti hX inX8_seed_7 (nq_World_0 (nq_Nine_world hL)) rfl 13 (by decide) lkX8_seed_282 rfl e1 dX8_seed_4 ?_
  refine nq_istore_n hX (lv' := [(2, .int v1), (0, .ref (nq_ad E 0)), (1, .int x1)]) rfl (by decide) rfl rfl dX8_seed_7 ?_
  refine nq_aload_n hX rfl 1 rfl dX8_seed_8 ?_
  refine nq_getr (v := .ref (nq_ad E 2)) hX inX8_seed_8 (nq_Nine_0 hL) rfl 1 (by decide) lkX8_seed_16 _ rfl rfl dX8_seed_9 ?_
  refine nq_iload_n hX rfl 2 rfl dX8_seed_12 ?_
  obtain ⟨M2, eM2, h⟩ := nq_ltE h
  refine nq_puti hX inX8_seed_7 tyX7 tyX7_ok nmX7 (nq_World_0 (nq_Nine_world hL)) rfl 13 (by decide) lkX8_seed_282 rfl rfl rfl rfl rfl eM2 dX8_seed_13 ?_
  refine nq_iload_n hX rfl 0 rfl dX8_seed_16 ?_
  obtain ⟨rfl, rfl⟩ := nq_sE2 h; exact nq_iret hX hr dX8_seed_17
theorem dsX8_seed : yX8_seed.cls ≠ "java/lang/invoke/MethodHandle" ∧ yX8_seed.cls ≠ "java/lang/invoke/VarHandle" ∧ (parseMethodDescriptor yX8_seed.desc).map (fun d => d.parameters.length) = some 1 := by decide +kernel
theorem tX8_seed {l : Launch} {E : Ev} {K : List Sh} {x1 : Int32} {M : Mem} {r : Int32} {M' : Mem} (hL : nq_atNine E K) (h : fX8_seed x1 M = some (r, M')) : nq_MA l E yX8_seed wsX8_seed (nq_rm 1) [.ref (nq_ad E 0), .int x1] K M (some (.int r)) K M' :=
  nq_met (own := RX8) (cc := cX8_seed) (maxL := 3) (ret := (some .int)) (by decide) rfl rfl (Nat.le_of_ble_eq_true rfl) (fun X hX hr => mX8_seed hL hX hr h)

theorem inX8_voice_8 : ∀ w ∈ u_ws RX8 TX8 11, w ∈ wsX8_voice := by
  intro w h; unfold wsX8_voice; simp only [List.mem_cons, List.mem_append]; simp only [h, true_or, or_true]
theorem lkX8_voice_16 : Cond.fieldLink RX8 16 (TX8 1).1 (TX8 1).2.1 (TX8 1).2.2.1 ∈ wsX8_voice := by decide +kernel
theorem inX8_voice_7 : ∀ w ∈ u_ws RX7 TX7 17, w ∈ wsX8_voice := by
  intro w h; unfold wsX8_voice; simp only [List.mem_cons, List.mem_append]; simp only [h, true_or, or_true]
theorem lkX8_voice_29 : Cond.fieldLink RX8 29 (TX7 1).1 (TX7 1).2.1 (TX7 1).2.2.1 ∈ wsX8_voice := by decide +kernel
theorem lkX8_voice_59 : Cond.fieldLink RX8 59 (TX8 9).1 (TX8 9).2.1 (TX8 9).2.2.1 ∈ wsX8_voice := by decide +kernel
theorem inX8_voice_0 : ∀ w ∈ u_ws RX0 TX0 11, w ∈ wsX8_voice := by
  intro w h; unfold wsX8_voice; simp only [List.mem_cons, List.mem_append]; simp only [h, true_or, or_true]
theorem lkX8_voice_131 : Cond.fieldLink RX8 131 (TX0 1).1 (TX0 1).2.1 (TX0 1).2.2.1 ∈ wsX8_voice := by decide +kernel
theorem lkX8_voice_150 : Cond.fieldLink RX8 150 (TX0 7).1 (TX0 7).2.1 (TX0 7).2.2.1 ∈ wsX8_voice := by decide +kernel
def fX8_voice (x1 : Int32) (x2 : Int32) (x3 : Int32) (M : Mem) : Option (Int32 × Mem) :=
  (fX8_isWord x1 M).bind fun v2 =>
  if v2 = 0 then
  (nq_b2 (fX8_refuse (1 : Int32) M) fun v5 M6 =>
  some (v5, M6))
  else
  ((fX8_isOutside x2 (0 : Int32) (3 : Int32) M).bind fun v8 =>
  if v8 = 0 then
  ((nq_ag (M 7) 80 x1).bind fun v10 =>
  (nq_ag (M 13) 80 x1).bind fun v11 =>
  (fX6_begin 84 v10 x1 v11 M).bind fun M13 =>
  (nq_ag (M13 7) 80 x1).bind fun v14 =>
  nq_b2 (fX6_sayC 84 v14 x2 x3 (0 : Int32) M13) fun v16 M17 =>
  some (v16, M17))
  else
  (nq_b2 (fX8_refuse (1 : Int32) M) fun v19 M20 =>
  some (v19, M20)))
set_option maxHeartbeats 4000000 in
theorem mX8_voice {X : Cx} {E : Ev} {l : Launch} {K : List Sh} {x1 : Int32} {x2 : Int32} {x3 : Int32} {M : Mem} {r : Int32} {M' : Mem} (hL : nq_atNine E K) (hX : nq_OK X E l (nq_rm 83) cX8_voice 5 RX8 wsX8_voice) (hr : nq_RT X E (some .int) (some (.int r)) K M') (h : fX8_voice x1 x2 x3 M = some (r, M')) : nq_G X E 5 0 [(0, .ref (nq_ad E 0)), (1, .int x1), (2, .int x2), (3, .int x3)] [] K M := by
  unfold fX8_voice at h
  refine nq_aload_n hX rfl 0 rfl dX8_voice_0 ?_
  refine nq_iload_n hX rfl 1 rfl dX8_voice_1 ?_
  obtain ⟨v2, hc1, h⟩ := nq_bE h
  refine nq_callVi hX (tX8_isWord hL hc1) gX8_voice_X8_isWord rfl rfl dsX8_isWord (by decide) (nq_Nine_0 hL) rfl rfl (Nat.le_of_ble_eq_true rfl) dX8_voice_2 ?_
  refine nq_if_eq hX (tgt := 17) (by decide) dX8_voice_5 (fun c3 => ?_) (fun c3 => ?_)
  · rw [if_pos c3] at h
    refine nq_aload_n hX rfl 0 rfl dX8_voice_17 ?_
    refine nq_iconst hX (v := 1) (by decide) dX8_voice_18 ?_
    obtain ⟨v5, M6, hc4, h⟩ := nq_b2E h
    refine nq_callVi hX (tX8_refuse hL hc4) gX8_voice_X8_refuse rfl rfl dsX8_refuse (by decide) (nq_Nine_0 hL) rfl rfl (Nat.le_of_ble_eq_true rfl) dX8_voice_19 ?_
    obtain ⟨rfl, rfl⟩ := nq_sE2 h; exact nq_iret hX hr dX8_voice_22
  · rw [if_neg c3] at h
    refine nq_iload_n hX rfl 2 rfl dX8_voice_8 ?_
    refine nq_iconst hX (v := 0) (by decide) dX8_voice_9 ?_
    refine nq_iconst hX (v := 3) (by decide) dX8_voice_10 ?_
    obtain ⟨v8, hc7, h⟩ := nq_bE h
    refine nq_callSi hX (tX8_isOutside  hc7) gX8_voice_X8_isOutside rfl rfl dsX8_isOutside (by decide) rfl (Nat.le_of_ble_eq_true rfl) dX8_voice_11 ?_
    refine nq_if_eq hX (tgt := 23) (by decide) dX8_voice_14 (fun c9 => ?_) (fun c9 => ?_)
    · rw [if_pos c9] at h
      refine nq_aload_n hX rfl 0 rfl dX8_voice_23 ?_
      refine nq_getr (v := .ref (nq_ad E 2)) hX inX8_voice_8 (nq_Nine_0 hL) rfl 1 (by decide) lkX8_voice_16 _ rfl rfl dX8_voice_24 ?_
      refine nq_getr (v := .ref (nq_ad E 6)) hX inX8_voice_7 (nq_World_0 (nq_Nine_world hL)) rfl 1 (by decide) lkX8_voice_29 _ rfl rfl dX8_voice_27 ?_
      refine nq_astore hX (lv' := [(4, .ref (nq_ad E 6)), (0, .ref (nq_ad E 0)), (1, .int x1), (2, .int x2), (3, .int x3)]) (by decide) rfl rfl dX8_voice_30 ?_
      refine nq_aload_n hX rfl 1 rfl dX8_voice_32 ?_
      refine nq_getr (v := .ref (nq_ad E 84)) hX inX8_voice_8 (nq_Nine_0 hL) rfl 9 (by decide) lkX8_voice_59 _ rfl rfl dX8_voice_33 ?_
      refine nq_aload hX 0 rfl dX8_voice_36 ?_
      refine nq_getr (v := .ref (nq_ad E 7)) hX inX8_voice_0 (nq_Letters_0 (nq_World_letters (nq_Nine_world hL))) rfl 1 (by decide) lkX8_voice_131 _ rfl rfl dX8_voice_38 ?_
      refine nq_iload_n hX rfl 2 rfl dX8_voice_41 ?_
      obtain ⟨v10, e10, hi10, h⟩ := nq_agE h
      refine nq_iald hX (nq_Letters_kinds (nq_World_letters (nq_Nine_world hL))) e10 hi10 dX8_voice_42 ?_
      refine nq_iload_n hX rfl 2 rfl dX8_voice_43 ?_
      refine nq_aload hX 0 rfl dX8_voice_44 ?_
      refine nq_getr (v := .ref (nq_ad E 13)) hX inX8_voice_0 (nq_Letters_0 (nq_World_letters (nq_Nine_world hL))) rfl 7 (by decide) lkX8_voice_150 _ rfl rfl dX8_voice_46 ?_
      refine nq_iload_n hX rfl 2 rfl dX8_voice_49 ?_
      obtain ⟨v11, e11, hi11, h⟩ := nq_agE h
      refine nq_iald hX (nq_Letters_terms (nq_World_letters (nq_Nine_world hL))) e11 hi11 dX8_voice_50 ?_
      obtain ⟨M13, hc12, h⟩ := nq_bE h
      refine nq_callVv hX (tX6_begin (nq_Nine_voices hL) hc12) gX8_voice_X6_begin rfl rfl dsX6_begin (by decide) (nq_Voices_0 (nq_Nine_voices hL)) rfl rfl (Nat.le_of_ble_eq_true rfl) dX8_voice_51 ?_
      refine nq_aload_n hX rfl 1 rfl dX8_voice_54 ?_
      refine nq_getr (v := .ref (nq_ad E 84)) hX inX8_voice_8 (nq_Nine_0 hL) rfl 9 (by decide) lkX8_voice_59 _ rfl rfl dX8_voice_55 ?_
      refine nq_aload hX 0 rfl dX8_voice_58 ?_
      refine nq_getr (v := .ref (nq_ad E 7)) hX inX8_voice_0 (nq_Letters_0 (nq_World_letters (nq_Nine_world hL))) rfl 1 (by decide) lkX8_voice_131 _ rfl rfl dX8_voice_60 ?_
      refine nq_iload_n hX rfl 2 rfl dX8_voice_63 ?_
      obtain ⟨v14, e14, hi14, h⟩ := nq_agE h
      refine nq_iald hX (nq_Letters_kinds (nq_World_letters (nq_Nine_world hL))) e14 hi14 dX8_voice_64 ?_
      refine nq_iload_n hX rfl 3 rfl dX8_voice_65 ?_
      refine nq_iload_n hX rfl 4 rfl dX8_voice_66 ?_
      refine nq_iconst hX (v := 0) (by decide) dX8_voice_67 ?_
      obtain ⟨v16, M17, hc15, h⟩ := nq_b2E h
      refine nq_callVi hX (tX6_sayC (nq_Nine_voices hL) hc15) gX8_voice_X6_say rfl rfl dsX6_say (by decide) (nq_Voices_0 (nq_Nine_voices hL)) rfl rfl (Nat.le_of_ble_eq_true rfl) dX8_voice_68 ?_
      obtain ⟨rfl, rfl⟩ := nq_sE2 h; exact nq_iret hX hr dX8_voice_71
    · rw [if_neg c9] at h
      refine nq_aload_n hX rfl 0 rfl dX8_voice_17 ?_
      refine nq_iconst hX (v := 1) (by decide) dX8_voice_18 ?_
      obtain ⟨v19, M20, hc18, h⟩ := nq_b2E h
      refine nq_callVi hX (tX8_refuse hL hc18) gX8_voice_X8_refuse rfl rfl dsX8_refuse (by decide) (nq_Nine_0 hL) rfl rfl (Nat.le_of_ble_eq_true rfl) dX8_voice_19 ?_
      obtain ⟨rfl, rfl⟩ := nq_sE2 h; exact nq_iret hX hr dX8_voice_22
theorem dsX8_voice : yX8_voice.cls ≠ "java/lang/invoke/MethodHandle" ∧ yX8_voice.cls ≠ "java/lang/invoke/VarHandle" ∧ (parseMethodDescriptor yX8_voice.desc).map (fun d => d.parameters.length) = some 3 := by decide +kernel
theorem tX8_voice {l : Launch} {E : Ev} {K : List Sh} {x1 : Int32} {x2 : Int32} {x3 : Int32} {M : Mem} {r : Int32} {M' : Mem} (hL : nq_atNine E K) (h : fX8_voice x1 x2 x3 M = some (r, M')) : nq_MA l E yX8_voice wsX8_voice (nq_rm 83) [.ref (nq_ad E 0), .int x1, .int x2, .int x3] K M (some (.int r)) K M' :=
  nq_met (own := RX8) (cc := cX8_voice) (maxL := 5) (ret := (some .int)) (by decide) rfl rfl (Nat.le_of_ble_eq_true rfl) (fun X hX hr => mX8_voice hL hX hr h)

theorem inX8_trace_8 : ∀ w ∈ u_ws RX8 TX8 11, w ∈ wsX8_trace := by
  intro w h; unfold wsX8_trace; simp only [List.mem_cons, List.mem_append]; simp only [h, true_or, or_true]
theorem lkX8_trace_59 : Cond.fieldLink RX8 59 (TX8 9).1 (TX8 9).2.1 (TX8 9).2.2.1 ∈ wsX8_trace := by decide +kernel
theorem inX8_trace_6 : ∀ w ∈ u_ws RX6 TX6 5, w ∈ wsX8_trace := by
  intro w h; unfold wsX8_trace; simp only [List.mem_cons, List.mem_append]; simp only [h, true_or, or_true]
theorem lkX8_trace_292 : Cond.fieldLink RX8 292 (TX6 1).1 (TX6 1).2.1 (TX6 1).2.2.1 ∈ wsX8_trace := by decide +kernel
theorem lkX8_trace_295 : Cond.fieldLink RX8 295 (TX6 0).1 (TX6 0).2.1 (TX6 0).2.2.1 ∈ wsX8_trace := by decide +kernel
def fX8_trace (x1 : Int32) (M : Mem) : Option (Int32 × Mem) :=
  nq_lt (M 84 1) fun v1 =>
  (fX8_isOutside x1 (0 : Int32) (v1 - (1 : Int32)) M).bind fun v3 =>
  if v3 = 0 then
  ((nq_ag (M 85) 40 x1).bind fun v5 =>
  some (v5, M))
  else
  (nq_b2 (fX8_refuse (2 : Int32) M) fun v7 M8 =>
  some (v7, M8))
set_option maxHeartbeats 4000000 in
theorem mX8_trace {X : Cx} {E : Ev} {l : Launch} {K : List Sh} {x1 : Int32} {M : Mem} {r : Int32} {M' : Mem} (hL : nq_atNine E K) (hX : nq_OK X E l (nq_rm 2) cX8_trace 2 RX8 wsX8_trace) (hr : nq_RT X E (some .int) (some (.int r)) K M') (h : fX8_trace x1 M = some (r, M')) : nq_G X E 2 0 [(0, .ref (nq_ad E 0)), (1, .int x1)] [] K M := by
  unfold fX8_trace at h
  refine nq_iload_n hX rfl 1 rfl dX8_trace_0 ?_
  refine nq_iconst hX (v := 0) (by decide) dX8_trace_1 ?_
  refine nq_aload_n hX rfl 0 rfl dX8_trace_2 ?_
  refine nq_getr (v := .ref (nq_ad E 84)) hX inX8_trace_8 (nq_Nine_0 hL) rfl 9 (by decide) lkX8_trace_59 _ rfl rfl dX8_trace_3 ?_
  obtain ⟨v1, e1, h⟩ := nq_ltE h
  refine nq_geti hX inX8_trace_6 (nq_Voices_0 (nq_Nine_voices hL)) rfl 1 (by decide) lkX8_trace_292 rfl e1 dX8_trace_6 ?_
  refine nq_iconst hX (v := 1) (by decide) dX8_trace_9 ?_
  refine nq_isub hX dX8_trace_10 ?_
  obtain ⟨v3, hc2, h⟩ := nq_bE h
  refine nq_callSi hX (tX8_isOutside  hc2) gX8_trace_X8_isOutside rfl rfl dsX8_isOutside (by decide) rfl (Nat.le_of_ble_eq_true rfl) dX8_trace_11 ?_
  refine nq_if_eq hX (tgt := 25) (by decide) dX8_trace_14 (fun c4 => ?_) (fun c4 => ?_)
  · rw [if_pos c4] at h
    refine nq_aload_n hX rfl 0 rfl dX8_trace_25 ?_
    refine nq_getr (v := .ref (nq_ad E 84)) hX inX8_trace_8 (nq_Nine_0 hL) rfl 9 (by decide) lkX8_trace_59 _ rfl rfl dX8_trace_26 ?_
    refine nq_getr (v := .ref (nq_ad E 85)) hX inX8_trace_6 (nq_Voices_0 (nq_Nine_voices hL)) rfl 0 (by decide) lkX8_trace_295 _ rfl rfl dX8_trace_29 ?_
    refine nq_iload_n hX rfl 1 rfl dX8_trace_32 ?_
    obtain ⟨v5, e5, hi5, h⟩ := nq_agE h
    refine nq_iald hX (nq_Voices_bodies (nq_Nine_voices hL)) e5 hi5 dX8_trace_33 ?_
    obtain ⟨rfl, rfl⟩ := nq_sE2 h; exact nq_iret hX hr dX8_trace_34
  · rw [if_neg c4] at h
    refine nq_aload_n hX rfl 0 rfl dX8_trace_17 ?_
    refine nq_iconst hX (v := 2) (by decide) dX8_trace_18 ?_
    obtain ⟨v7, M8, hc6, h⟩ := nq_b2E h
    refine nq_callVi hX (tX8_refuse hL hc6) gX8_trace_X8_refuse rfl rfl dsX8_refuse (by decide) (nq_Nine_0 hL) rfl rfl (Nat.le_of_ble_eq_true rfl) dX8_trace_19 ?_
    refine nq_goto hX (tgt := 34) (by decide) dX8_trace_22 ?_
    obtain ⟨rfl, rfl⟩ := nq_sE2 h; exact nq_iret hX hr dX8_trace_34
theorem dsX8_trace : yX8_trace.cls ≠ "java/lang/invoke/MethodHandle" ∧ yX8_trace.cls ≠ "java/lang/invoke/VarHandle" ∧ (parseMethodDescriptor yX8_trace.desc).map (fun d => d.parameters.length) = some 1 := by decide +kernel
theorem tX8_trace {l : Launch} {E : Ev} {K : List Sh} {x1 : Int32} {M : Mem} {r : Int32} {M' : Mem} (hL : nq_atNine E K) (h : fX8_trace x1 M = some (r, M')) : nq_MA l E yX8_trace wsX8_trace (nq_rm 2) [.ref (nq_ad E 0), .int x1] K M (some (.int r)) K M' :=
  nq_met (own := RX8) (cc := cX8_trace) (maxL := 2) (ret := (some .int)) (by decide) rfl rfl (Nat.le_of_ble_eq_true rfl) (fun X hX hr => mX8_trace hL hX hr h)

theorem inX8_sheet_8 : ∀ w ∈ u_ws RX8 TX8 11, w ∈ wsX8_sheet := by
  intro w h; unfold wsX8_sheet; simp only [List.mem_cons, List.mem_append]; simp only [h, true_or, or_true]
theorem lkX8_sheet_65 : Cond.fieldLink RX8 65 (TX8 10).1 (TX8 10).2.1 (TX8 10).2.2.1 ∈ wsX8_sheet := by decide +kernel
def fX8_sheet_L35 (x1 : Int32) (x2 : Int32) (x3 : Int32) (M : Mem) : Option (Int32 × Mem) :=
  if x2 = 0 then
  ((nq_ar 87 4 x1).bind fun q9 =>
  (fX3_become q9 (0 : Int32) (0 : Int32) M).bind fun M11 =>
  some ((1 : Int32), M11))
  else
  (if 0 ≤ x3 then
  (if x3 ≤ (40 : Int32) then
  ((nq_ar 87 4 x1).bind fun q14 =>
  (fX3_become q14 x2 x3 M).bind fun M16 =>
  some ((1 : Int32), M16))
  else
  (nq_b2 (fX8_refuse (1 : Int32) M) fun v18 M19 =>
  some (v18, M19)))
  else
  (nq_b2 (fX8_refuse (3 : Int32) M) fun v21 M22 =>
  some (v21, M22)))
set_option maxHeartbeats 4000000 in
theorem mX8_sheet_L35 {X : Cx} {E : Ev} {l : Launch} {K : List Sh} {x1 : Int32} {x2 : Int32} {x3 : Int32} {M : Mem} {r : Int32} {M' : Mem} (hL : nq_atNine E K) (hX : nq_OK X E l (nq_rm 3) cX8_sheet 4 RX8 wsX8_sheet) (hr : nq_RT X E (some .int) (some (.int r)) K M') (h : fX8_sheet_L35 x1 x2 x3 M = some (r, M')) : nq_G X E 4 35 [(0, .ref (nq_ad E 0)), (1, .int x1), (2, .int x2), (3, .int x3)] [] K M := by
  unfold fX8_sheet_L35 at h
  refine nq_iload_n hX rfl 2 rfl dX8_sheet_35 ?_
  refine nq_if_ne hX (tgt := 52) (by decide) dX8_sheet_36 (fun c8 => ?_) (fun c8 => ?_)
  · rw [if_pos c8] at h
    refine nq_aload_n hX rfl 0 rfl dX8_sheet_39 ?_
    refine nq_getr (v := .ref (nq_ad E 86)) hX inX8_sheet_8 (nq_Nine_0 hL) rfl 10 (by decide) lkX8_sheet_65 _ rfl rfl dX8_sheet_40 ?_
    refine nq_iload_n hX rfl 1 rfl dX8_sheet_43 ?_
    obtain ⟨q9, e9, hi9, h⟩ := nq_arE h
    have hq9 : nq_atSheet E K q9 := by rw [e9]; exact nq_Nine_sheetsT hL _ (nq_inLt hi9)
    refine nq_aald hX (q := q9) (nq_Nine_sheets hL) rfl hi9 (by rw [e9]; exact nq_Nine_sheetsQ _ (nq_inLt hi9)) dX8_sheet_44 ?_
    refine nq_iconst hX (v := 0) (by decide) dX8_sheet_45 ?_
    refine nq_iconst hX (v := 0) (by decide) dX8_sheet_46 ?_
    obtain ⟨M11, hc10, h⟩ := nq_bE h
    refine nq_callVv hX (tX3_become hq9 hc10) gX8_sheet_X3_become rfl rfl dsX3_become (by decide) (nq_Sheet_0 hq9) rfl rfl (Nat.le_of_ble_eq_true rfl) dX8_sheet_47 ?_
    refine nq_iconst hX (v := 1) (by decide) dX8_sheet_50 ?_
    obtain ⟨rfl, rfl⟩ := nq_sE2 h; exact nq_iret hX hr dX8_sheet_51
  · rw [if_neg c8] at h
    refine nq_iload_n hX rfl 3 rfl dX8_sheet_52 ?_
    refine nq_if_ge hX (tgt := 62) (by decide) dX8_sheet_53 (fun c12 => ?_) (fun c12 => ?_)
    · rw [if_pos c12] at h
      refine nq_iload_n hX rfl 3 rfl dX8_sheet_62 ?_
      refine nq_bipush hX (v := 40) (by decide) dX8_sheet_63 ?_
      refine nq_icmp_le hX (tgt := 74) (by decide) dX8_sheet_65 (fun c13 => ?_) (fun c13 => ?_)
      · rw [if_pos c13] at h
        refine nq_aload_n hX rfl 0 rfl dX8_sheet_74 ?_
        refine nq_getr (v := .ref (nq_ad E 86)) hX inX8_sheet_8 (nq_Nine_0 hL) rfl 10 (by decide) lkX8_sheet_65 _ rfl rfl dX8_sheet_75 ?_
        refine nq_iload_n hX rfl 1 rfl dX8_sheet_78 ?_
        obtain ⟨q14, e14, hi14, h⟩ := nq_arE h
        have hq14 : nq_atSheet E K q14 := by rw [e14]; exact nq_Nine_sheetsT hL _ (nq_inLt hi14)
        refine nq_aald hX (q := q14) (nq_Nine_sheets hL) rfl hi14 (by rw [e14]; exact nq_Nine_sheetsQ _ (nq_inLt hi14)) dX8_sheet_79 ?_
        refine nq_iload_n hX rfl 2 rfl dX8_sheet_80 ?_
        refine nq_iload_n hX rfl 3 rfl dX8_sheet_81 ?_
        obtain ⟨M16, hc15, h⟩ := nq_bE h
        refine nq_callVv hX (tX3_become hq14 hc15) gX8_sheet_X3_become rfl rfl dsX3_become (by decide) (nq_Sheet_0 hq14) rfl rfl (Nat.le_of_ble_eq_true rfl) dX8_sheet_82 ?_
        refine nq_iconst hX (v := 1) (by decide) dX8_sheet_85 ?_
        obtain ⟨rfl, rfl⟩ := nq_sE2 h; exact nq_iret hX hr dX8_sheet_86
      · rw [if_neg c13] at h
        refine nq_aload_n hX rfl 0 rfl dX8_sheet_68 ?_
        refine nq_iconst hX (v := 1) (by decide) dX8_sheet_69 ?_
        obtain ⟨v18, M19, hc17, h⟩ := nq_b2E h
        refine nq_callVi hX (tX8_refuse hL hc17) gX8_sheet_X8_refuse rfl rfl dsX8_refuse (by decide) (nq_Nine_0 hL) rfl rfl (Nat.le_of_ble_eq_true rfl) dX8_sheet_70 ?_
        obtain ⟨rfl, rfl⟩ := nq_sE2 h; exact nq_iret hX hr dX8_sheet_73
    · rw [if_neg c12] at h
      refine nq_aload_n hX rfl 0 rfl dX8_sheet_56 ?_
      refine nq_iconst hX (v := 3) (by decide) dX8_sheet_57 ?_
      obtain ⟨v21, M22, hc20, h⟩ := nq_b2E h
      refine nq_callVi hX (tX8_refuse hL hc20) gX8_sheet_X8_refuse rfl rfl dsX8_refuse (by decide) (nq_Nine_0 hL) rfl rfl (Nat.le_of_ble_eq_true rfl) dX8_sheet_58 ?_
      obtain ⟨rfl, rfl⟩ := nq_sE2 h; exact nq_iret hX hr dX8_sheet_61
def fX8_sheet (x1 : Int32) (x2 : Int32) (x3 : Int32) (M : Mem) : Option (Int32 × Mem) :=
  (fX8_isSheet x1 M).bind fun v2 =>
  if v2 = 0 then
  (nq_b2 (fX8_refuse (1 : Int32) M) fun v5 M6 =>
  some (v5, M6))
  else
  (if x2 = 0 then
  (fX8_sheet_L35 x1 x2 x3 M)
  else
  (if x2 = (8 : Int32) then
  (fX8_sheet_L35 x1 x2 x3 M)
  else
  (if x2 = (16 : Int32) then
  (fX8_sheet_L35 x1 x2 x3 M)
  else
  (if x2 = (32 : Int32) then
  (fX8_sheet_L35 x1 x2 x3 M)
  else
  (nq_b2 (fX8_refuse (1 : Int32) M) fun v27 M28 =>
  some (v27, M28))))))
set_option maxHeartbeats 4000000 in
theorem mX8_sheet {X : Cx} {E : Ev} {l : Launch} {K : List Sh} {x1 : Int32} {x2 : Int32} {x3 : Int32} {M : Mem} {r : Int32} {M' : Mem} (hL : nq_atNine E K) (hX : nq_OK X E l (nq_rm 3) cX8_sheet 4 RX8 wsX8_sheet) (hr : nq_RT X E (some .int) (some (.int r)) K M') (h : fX8_sheet x1 x2 x3 M = some (r, M')) : nq_G X E 4 0 [(0, .ref (nq_ad E 0)), (1, .int x1), (2, .int x2), (3, .int x3)] [] K M := by
  unfold fX8_sheet at h
  refine nq_iload_n hX rfl 1 rfl dX8_sheet_0 ?_
  obtain ⟨v2, hc1, h⟩ := nq_bE h
  refine nq_callSi hX (tX8_isSheet  hc1) gX8_sheet_X8_isSheet rfl rfl dsX8_isSheet (by decide) rfl (Nat.le_of_ble_eq_true rfl) dX8_sheet_1 ?_
  refine nq_if_eq hX (tgt := 29) (by decide) dX8_sheet_4 (fun c3 => ?_) (fun c3 => ?_)
  · rw [if_pos c3] at h
    refine nq_aload_n hX rfl 0 rfl dX8_sheet_29 ?_
    refine nq_iconst hX (v := 1) (by decide) dX8_sheet_30 ?_
    obtain ⟨v5, M6, hc4, h⟩ := nq_b2E h
    refine nq_callVi hX (tX8_refuse hL hc4) gX8_sheet_X8_refuse rfl rfl dsX8_refuse (by decide) (nq_Nine_0 hL) rfl rfl (Nat.le_of_ble_eq_true rfl) dX8_sheet_31 ?_
    obtain ⟨rfl, rfl⟩ := nq_sE2 h; exact nq_iret hX hr dX8_sheet_34
  · rw [if_neg c3] at h
    refine nq_iload_n hX rfl 2 rfl dX8_sheet_7 ?_
    refine nq_if_eq hX (tgt := 35) (by decide) dX8_sheet_8 (fun c7 => ?_) (fun c7 => ?_)
    · rw [if_pos c7] at h
      exact mX8_sheet_L35 hL hX hr h
    · rw [if_neg c7] at h
      refine nq_iload_n hX rfl 2 rfl dX8_sheet_11 ?_
      refine nq_bipush hX (v := 8) (by decide) dX8_sheet_12 ?_
      refine nq_icmp_eq hX (tgt := 35) (by decide) dX8_sheet_14 (fun c23 => ?_) (fun c23 => ?_)
      · rw [if_pos c23] at h
        exact mX8_sheet_L35 hL hX hr h
      · rw [if_neg c23] at h
        refine nq_iload_n hX rfl 2 rfl dX8_sheet_17 ?_
        refine nq_bipush hX (v := 16) (by decide) dX8_sheet_18 ?_
        refine nq_icmp_eq hX (tgt := 35) (by decide) dX8_sheet_20 (fun c24 => ?_) (fun c24 => ?_)
        · rw [if_pos c24] at h
          exact mX8_sheet_L35 hL hX hr h
        · rw [if_neg c24] at h
          refine nq_iload_n hX rfl 2 rfl dX8_sheet_23 ?_
          refine nq_bipush hX (v := 32) (by decide) dX8_sheet_24 ?_
          refine nq_icmp_eq hX (tgt := 35) (by decide) dX8_sheet_26 (fun c25 => ?_) (fun c25 => ?_)
          · rw [if_pos c25] at h
            exact mX8_sheet_L35 hL hX hr h
          · rw [if_neg c25] at h
            refine nq_aload_n hX rfl 0 rfl dX8_sheet_29 ?_
            refine nq_iconst hX (v := 1) (by decide) dX8_sheet_30 ?_
            obtain ⟨v27, M28, hc26, h⟩ := nq_b2E h
            refine nq_callVi hX (tX8_refuse hL hc26) gX8_sheet_X8_refuse rfl rfl dsX8_refuse (by decide) (nq_Nine_0 hL) rfl rfl (Nat.le_of_ble_eq_true rfl) dX8_sheet_31 ?_
            obtain ⟨rfl, rfl⟩ := nq_sE2 h; exact nq_iret hX hr dX8_sheet_34
theorem dsX8_sheet : yX8_sheet.cls ≠ "java/lang/invoke/MethodHandle" ∧ yX8_sheet.cls ≠ "java/lang/invoke/VarHandle" ∧ (parseMethodDescriptor yX8_sheet.desc).map (fun d => d.parameters.length) = some 3 := by decide +kernel
theorem tX8_sheet {l : Launch} {E : Ev} {K : List Sh} {x1 : Int32} {x2 : Int32} {x3 : Int32} {M : Mem} {r : Int32} {M' : Mem} (hL : nq_atNine E K) (h : fX8_sheet x1 x2 x3 M = some (r, M')) : nq_MA l E yX8_sheet wsX8_sheet (nq_rm 3) [.ref (nq_ad E 0), .int x1, .int x2, .int x3] K M (some (.int r)) K M' :=
  nq_met (own := RX8) (cc := cX8_sheet) (maxL := 4) (ret := (some .int)) (by decide) rfl rfl (Nat.le_of_ble_eq_true rfl) (fun X hX hr => mX8_sheet hL hX hr h)

theorem inX8_put_8 : ∀ w ∈ u_ws RX8 TX8 11, w ∈ wsX8_put := by
  intro w h; unfold wsX8_put; simp only [List.mem_cons, List.mem_append]; simp only [h, true_or, or_true]
theorem lkX8_put_65 : Cond.fieldLink RX8 65 (TX8 10).1 (TX8 10).2.1 (TX8 10).2.2.1 ∈ wsX8_put := by decide +kernel
theorem inX8_put_3 : ∀ w ∈ u_ws RX3 TX3 3, w ∈ wsX8_put := by
  intro w h; unfold wsX8_put; simp only [List.mem_cons, List.mem_append]; simp only [h, true_or, or_true]
theorem lkX8_put_169 : Cond.fieldLink RX8 169 (TX3 0).1 (TX3 0).2.1 (TX3 0).2.2.1 ∈ wsX8_put := by decide +kernel
theorem lkX8_put_172 : Cond.fieldLink RX8 172 (TX3 1).1 (TX3 1).2.1 (TX3 1).2.2.1 ∈ wsX8_put := by decide +kernel
theorem lkX8_put_175 : Cond.fieldLink RX8 175 (TX3 2).1 (TX3 2).2.1 (TX3 2).2.2.1 ∈ wsX8_put := by decide +kernel
def fX8_put (x1 : Int32) (x2 : Int32) (x3 : Int32) (M : Mem) : Option (Int32 × Mem) :=
  (fX8_isSheet x1 M).bind fun v2 =>
  if v2 = 0 then
  (nq_b2 (fX8_refuse (1 : Int32) M) fun v5 M6 =>
  some (v5, M6))
  else
  ((nq_ar 87 4 x1).bind fun q7 =>
  nq_lt (M q7 0) fun v8 =>
  if v8 = 0 then
  (nq_b2 (fX8_refuse (2 : Int32) M) fun v11 M12 =>
  some (v11, M12))
  else
  (nq_lt (M q7 1) fun v13 =>
  (fX8_isOutside x2 (0 : Int32) (v13 - (1 : Int32)) M).bind fun v15 =>
  if v15 = 0 then
  ((fX3_cut q7 x3 M).bind fun v18 =>
  (nq_as M (q7 + 1) 40 x2 v18).bind fun M19 =>
  some ((1 : Int32), M19))
  else
  (nq_b2 (fX8_refuse (1 : Int32) M) fun v21 M22 =>
  some (v21, M22))))
set_option maxHeartbeats 4000000 in
theorem mX8_put {X : Cx} {E : Ev} {l : Launch} {K : List Sh} {x1 : Int32} {x2 : Int32} {x3 : Int32} {M : Mem} {r : Int32} {M' : Mem} (hL : nq_atNine E K) (hX : nq_OK X E l (nq_rm 3) cX8_put 5 RX8 wsX8_put) (hr : nq_RT X E (some .int) (some (.int r)) K M') (h : fX8_put x1 x2 x3 M = some (r, M')) : nq_G X E 5 0 [(0, .ref (nq_ad E 0)), (1, .int x1), (2, .int x2), (3, .int x3)] [] K M := by
  unfold fX8_put at h
  refine nq_iload_n hX rfl 1 rfl dX8_put_0 ?_
  obtain ⟨v2, hc1, h⟩ := nq_bE h
  refine nq_callSi hX (tX8_isSheet  hc1) gX8_put_X8_isSheet rfl rfl dsX8_isSheet (by decide) rfl (Nat.le_of_ble_eq_true rfl) dX8_put_1 ?_
  refine nq_if_ne hX (tgt := 13) (by decide) dX8_put_4 (fun c3 => ?_) (fun c3 => ?_)
  · rw [if_pos c3] at h
    refine nq_aload_n hX rfl 0 rfl dX8_put_7 ?_
    refine nq_iconst hX (v := 1) (by decide) dX8_put_8 ?_
    obtain ⟨v5, M6, hc4, h⟩ := nq_b2E h
    refine nq_callVi hX (tX8_refuse hL hc4) gX8_put_X8_refuse rfl rfl dsX8_refuse (by decide) (nq_Nine_0 hL) rfl rfl (Nat.le_of_ble_eq_true rfl) dX8_put_9 ?_
    obtain ⟨rfl, rfl⟩ := nq_sE2 h; exact nq_iret hX hr dX8_put_12
  · rw [if_neg c3] at h
    refine nq_aload_n hX rfl 0 rfl dX8_put_13 ?_
    refine nq_getr (v := .ref (nq_ad E 86)) hX inX8_put_8 (nq_Nine_0 hL) rfl 10 (by decide) lkX8_put_65 _ rfl rfl dX8_put_14 ?_
    refine nq_iload_n hX rfl 1 rfl dX8_put_17 ?_
    obtain ⟨q7, e7, hi7, h⟩ := nq_arE h
    have hq7 : nq_atSheet E K q7 := by rw [e7]; exact nq_Nine_sheetsT hL _ (nq_inLt hi7)
    refine nq_aald hX (q := q7) (nq_Nine_sheets hL) rfl hi7 (by rw [e7]; exact nq_Nine_sheetsQ _ (nq_inLt hi7)) dX8_put_18 ?_
    refine nq_astore hX (lv' := [(4, .ref (nq_ad E q7)), (0, .ref (nq_ad E 0)), (1, .int x1), (2, .int x2), (3, .int x3)]) (by decide) rfl rfl dX8_put_19 ?_
    refine nq_aload hX 0 rfl dX8_put_21 ?_
    obtain ⟨v8, e8, h⟩ := nq_ltE h
    refine nq_geti hX inX8_put_3 (nq_Sheet_0 hq7) rfl 0 (by decide) lkX8_put_169 rfl e8 dX8_put_23 ?_
    refine nq_if_ne hX (tgt := 35) (by decide) dX8_put_26 (fun c9 => ?_) (fun c9 => ?_)
    · rw [if_pos c9] at h
      refine nq_aload_n hX rfl 1 rfl dX8_put_29 ?_
      refine nq_iconst hX (v := 2) (by decide) dX8_put_30 ?_
      obtain ⟨v11, M12, hc10, h⟩ := nq_b2E h
      refine nq_callVi hX (tX8_refuse hL hc10) gX8_put_X8_refuse rfl rfl dsX8_refuse (by decide) (nq_Nine_0 hL) rfl rfl (Nat.le_of_ble_eq_true rfl) dX8_put_31 ?_
      obtain ⟨rfl, rfl⟩ := nq_sE2 h; exact nq_iret hX hr dX8_put_34
    · rw [if_neg c9] at h
      refine nq_iload_n hX rfl 3 rfl dX8_put_35 ?_
      refine nq_iconst hX (v := 0) (by decide) dX8_put_36 ?_
      refine nq_aload hX 0 rfl dX8_put_37 ?_
      obtain ⟨v13, e13, h⟩ := nq_ltE h
      refine nq_geti hX inX8_put_3 (nq_Sheet_0 hq7) rfl 1 (by decide) lkX8_put_172 rfl e13 dX8_put_39 ?_
      refine nq_iconst hX (v := 1) (by decide) dX8_put_42 ?_
      refine nq_isub hX dX8_put_43 ?_
      obtain ⟨v15, hc14, h⟩ := nq_bE h
      refine nq_callSi hX (tX8_isOutside  hc14) gX8_put_X8_isOutside rfl rfl dsX8_isOutside (by decide) rfl (Nat.le_of_ble_eq_true rfl) dX8_put_44 ?_
      refine nq_if_eq hX (tgt := 56) (by decide) dX8_put_47 (fun c16 => ?_) (fun c16 => ?_)
      · rw [if_pos c16] at h
        refine nq_aload hX 0 rfl dX8_put_56 ?_
        refine nq_getr (v := .ref (nq_ad E (q7 + 1))) hX inX8_put_3 (nq_Sheet_0 hq7) rfl 2 (by decide) lkX8_put_175 _ rfl rfl dX8_put_58 ?_
        refine nq_iload_n hX rfl 3 rfl dX8_put_61 ?_
        refine nq_aload hX 0 rfl dX8_put_62 ?_
        refine nq_iload_n hX rfl 4 rfl dX8_put_64 ?_
        obtain ⟨v18, hc17, h⟩ := nq_bE h
        refine nq_callVi hX (tX3_cut hq7 hc17) gX8_put_X3_cut rfl rfl dsX3_cut (by decide) (nq_Sheet_0 hq7) rfl rfl (Nat.le_of_ble_eq_true rfl) dX8_put_65 ?_
        obtain ⟨M19, e19, hi19, h⟩ := nq_asE h
        refine nq_iast hX (nq_Sheet_numbers hq7) e19 hi19 dX8_put_68 ?_
        refine nq_iconst hX (v := 1) (by decide) dX8_put_69 ?_
        obtain ⟨rfl, rfl⟩ := nq_sE2 h; exact nq_iret hX hr dX8_put_70
      · rw [if_neg c16] at h
        refine nq_aload_n hX rfl 1 rfl dX8_put_50 ?_
        refine nq_iconst hX (v := 1) (by decide) dX8_put_51 ?_
        obtain ⟨v21, M22, hc20, h⟩ := nq_b2E h
        refine nq_callVi hX (tX8_refuse hL hc20) gX8_put_X8_refuse rfl rfl dsX8_refuse (by decide) (nq_Nine_0 hL) rfl rfl (Nat.le_of_ble_eq_true rfl) dX8_put_52 ?_
        obtain ⟨rfl, rfl⟩ := nq_sE2 h; exact nq_iret hX hr dX8_put_55
theorem dsX8_put : yX8_put.cls ≠ "java/lang/invoke/MethodHandle" ∧ yX8_put.cls ≠ "java/lang/invoke/VarHandle" ∧ (parseMethodDescriptor yX8_put.desc).map (fun d => d.parameters.length) = some 3 := by decide +kernel
theorem tX8_put {l : Launch} {E : Ev} {K : List Sh} {x1 : Int32} {x2 : Int32} {x3 : Int32} {M : Mem} {r : Int32} {M' : Mem} (hL : nq_atNine E K) (h : fX8_put x1 x2 x3 M = some (r, M')) : nq_MA l E yX8_put wsX8_put (nq_rm 3) [.ref (nq_ad E 0), .int x1, .int x2, .int x3] K M (some (.int r)) K M' :=
  nq_met (own := RX8) (cc := cX8_put) (maxL := 5) (ret := (some .int)) (by decide) rfl rfl (Nat.le_of_ble_eq_true rfl) (fun X hX hr => mX8_put hL hX hr h)

