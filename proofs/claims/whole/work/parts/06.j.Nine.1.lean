/-! printed by dec.py: Nine 1 -/
theorem mmX8_isUnder_s332 : Cond.fieldLink RX8 332 "NineYears" "KIND_ABOVE" "[I" ∈ wsX8_isUnder := by decide +kernel
def fX8_isUnder_B4 (x1 : Int32) (x2 : Int32) (x3 : Int32) (M : Mem) : Option ((Int32 × Int32) ⊕ (Int32)) :=
  if (7 : Int32) ≤ x3 then
  (some (.inr x2))
  else
  (if x2 ≤ 0 then
  (some (.inr x2))
  else
  (if x2 = x1 then
  (some (.inr x2))
  else
  ((nq_ag nq_ka 7 x2).bind fun v4 =>
  nq_lt (x3 + (1 : Int32)) fun v5 =>
  some (.inl (v4, v5)))))
set_option maxHeartbeats 4000000 in
theorem mX8_isUnder_B4 {X : Cx} {E : Ev} {l : Launch} {K : List Sh} {x1 : Int32} {x2 : Int32} {x3 : Int32} {M : Mem}  (hX : nq_OK X E l (nq_rm 1) cX8_isUnder 4 RX8 wsX8_isUnder) {x : (Int32 × Int32) ⊕ (Int32)} (hc : ∀ s' : Int32 × Int32, x = .inl s' → nq_G X E 4 4 [(1, .int x1), (2, .int s'.1), (3, .int s'.2)] [] K M) (he : ∀ s' : Int32, x = .inr s' → nq_G X E 4 33 [(1, .int x1), (2, .int s')] [] K M) (h : fX8_isUnder_B4 x1 x2 x3 M = some x) : nq_G X E 4 4 [(1, .int x1), (2, .int x2), (3, .int x3)] [] K M := by
  unfold fX8_isUnder_B4 at h
  refine nq_iload_n hX rfl 2 rfl dX8_isUnder_4 ?_
  refine nq_getsKA hX mmX8_isUnder_s332 dX8_isUnder_5 ?_
  refine nq_tlKA hX (v := 7) (by decide) dX8_isUnder_8 ?_
  refine nq_icmp_ge hX (tgt := 33) (by decide) dX8_isUnder_9 (fun c1 => ?_) (fun c1 => ?_)
  · rw [if_pos c1] at h
    refine nq_sub (lv' := [(1, .int x1), (2, .int x2)]) [0, 1] rfl ?_
    exact he x2 (nq_sE h).symm
  · rw [if_neg c1] at h
    refine nq_iload_n hX rfl 1 rfl dX8_isUnder_12 ?_
    refine nq_if_le hX (tgt := 33) (by decide) dX8_isUnder_13 (fun c2 => ?_) (fun c2 => ?_)
    · rw [if_pos c2] at h
      refine nq_sub (lv' := [(1, .int x1), (2, .int x2)]) [0, 1] rfl ?_
      exact he x2 (nq_sE h).symm
    · rw [if_neg c2] at h
      refine nq_iload_n hX rfl 1 rfl dX8_isUnder_16 ?_
      refine nq_iload_n hX rfl 0 rfl dX8_isUnder_17 ?_
      refine nq_icmp_eq hX (tgt := 33) (by decide) dX8_isUnder_18 (fun c3 => ?_) (fun c3 => ?_)
      · rw [if_pos c3] at h
        refine nq_sub (lv' := [(1, .int x1), (2, .int x2)]) [0, 1] rfl ?_
        exact he x2 (nq_sE h).symm
      · rw [if_neg c3] at h
        refine nq_getsKA hX mmX8_isUnder_s332 dX8_isUnder_21 ?_
        refine nq_iload_n hX rfl 1 rfl dX8_isUnder_24 ?_
        obtain ⟨v4, e4, hi4, h⟩ := nq_agE h
        refine nq_tiKA hX e4 hi4 dX8_isUnder_25 ?_
        refine nq_istore_n hX (lv' := [(2, .int v4), (1, .int x1), (3, .int x3)]) rfl (by decide) rfl rfl dX8_isUnder_26 ?_
        obtain ⟨v5, e5, h⟩ := nq_ltE h
        refine nq_iinc hX (lv' := [(3, .int v5), (2, .int v4), (1, .int x1)]) (j := 2) rfl (e5.trans rfl) (by decide) rfl dX8_isUnder_27 ?_
        refine nq_goto hX (tgt := 4) (by decide) dX8_isUnder_30 ?_
        refine nq_sub (lv' := [(1, .int x1), (2, .int v4), (3, .int v5)]) [2, 1, 0] rfl ?_
        exact hc (v4, v5) (nq_sE h).symm
def fX8_isUnder_L33 (x1 : Int32) (x2 : Int32) (M : Mem) : Option (Int32) :=
  if x2 = x1 then
  (some (1 : Int32))
  else
  (some (0 : Int32))
set_option maxHeartbeats 4000000 in
theorem mX8_isUnder_L33 {X : Cx} {E : Ev} {l : Launch} {K : List Sh} {x1 : Int32} {x2 : Int32} {M : Mem} {r : Int32}  (hX : nq_OK X E l (nq_rm 1) cX8_isUnder 4 RX8 wsX8_isUnder) (hr : nq_RT X E (some .boolean) (some (.int r)) K M) (h : fX8_isUnder_L33 x1 x2 M = some r) : nq_G X E 4 33 [(1, .int x1), (2, .int x2)] [] K M := by
  unfold fX8_isUnder_L33 at h
  refine nq_iload_n hX rfl 1 rfl dX8_isUnder_33 ?_
  refine nq_iload_n hX rfl 0 rfl dX8_isUnder_34 ?_
  refine nq_icmp_ne hX (tgt := 42) (by decide) dX8_isUnder_35 (fun c6 => ?_) (fun c6 => ?_)
  · rw [if_pos c6] at h
    refine nq_iconst hX (v := 1) (by decide) dX8_isUnder_38 ?_
    refine nq_goto hX (tgt := 43) (by decide) dX8_isUnder_39 ?_
    obtain rfl := nq_sE1 h; exact nq_zret hX hr rfl dX8_isUnder_43
  · rw [if_neg c6] at h
    refine nq_iconst hX (v := 0) (by decide) dX8_isUnder_42 ?_
    obtain rfl := nq_sE1 h; exact nq_zret hX hr rfl dX8_isUnder_43
def fX8_isUnder_L4 (x1 : Int32) (x2 : Int32) (x3 : Int32) (M : Mem) : Option (Int32) :=
  (nq_lp (fun s : Int32 × Int32 => fX8_isUnder_B4 x1 s.1 s.2 M) nq_fuel (x2, x3)).bind (fun e => fX8_isUnder_L33 x1 e M)
set_option maxHeartbeats 4000000 in
theorem mX8_isUnder_L4 {X : Cx} {E : Ev} {l : Launch} {K : List Sh} {x1 : Int32} {x2 : Int32} {x3 : Int32} {M : Mem} {r : Int32}  (hX : nq_OK X E l (nq_rm 1) cX8_isUnder 4 RX8 wsX8_isUnder) (hr : nq_RT X E (some .boolean) (some (.int r)) K M) (h : fX8_isUnder_L4 x1 x2 x3 M = some r) : nq_G X E 4 4 [(1, .int x1), (2, .int x2), (3, .int x3)] [] K M := by
  unfold fX8_isUnder_L4 at h
  obtain ⟨e, h1, h⟩ := nq_bE h
  have key : ∀ (ex : Int32), nq_lp (fun s : Int32 × Int32 => fX8_isUnder_B4 x1 s.1 s.2 M) nq_fuel (x2, x3) = some ex → (∀ e, ex = e → nq_G X E 4 33 [(1, .int x1), (2, .int e)] [] K M) → nq_G X E 4 4 [(1, .int x1), (2, .int ((x2, x3).1)), (3, .int ((x2, x3).2))] [] K M := by
    intro ex h1 hE
    refine nq_lpE (P := fun s : Int32 × Int32 => nq_G X E 4 4 [(1, .int x1), (2, .int s.1), (3, .int s.2)] [] K M) (r := ex) ?_ nq_fuel (x2, x3) h1
    intro s xx hx1 hc1 he1
    exact mX8_isUnder_B4  hX hc1 (fun e q => hE e (he1 _ q).symm) hx1
  refine key e h1 (fun e q => ?_)
  subst q
  exact mX8_isUnder_L33  hX hr h
def fX8_isUnder (x0 : Int32) (x1 : Int32) (M : Mem) : Option (Int32) :=
  fX8_isUnder_L4 x1 x0 (0 : Int32) M
set_option maxHeartbeats 4000000 in
theorem mX8_isUnder {X : Cx} {E : Ev} {l : Launch} {K : List Sh} {x0 : Int32} {x1 : Int32} {M : Mem} {r : Int32}  (hX : nq_OK X E l (nq_rm 1) cX8_isUnder 4 RX8 wsX8_isUnder) (hr : nq_RT X E (some .boolean) (some (.int r)) K M) (h : fX8_isUnder x0 x1 M = some r) : nq_G X E 4 0 [(0, .int x0), (1, .int x1)] [] K M := by
  unfold fX8_isUnder at h
  refine nq_iload_n hX rfl 0 rfl dX8_isUnder_0 ?_
  refine nq_istore_n hX (lv' := [(2, .int x0), (0, .int x0), (1, .int x1)]) rfl (by decide) rfl rfl dX8_isUnder_1 ?_
  refine nq_iconst hX (v := 0) (by decide) dX8_isUnder_2 ?_
  refine nq_istore_n hX (lv' := [(3, .int (0 : Int32)), (2, .int x0), (0, .int x0), (1, .int x1)]) rfl (by decide) rfl rfl dX8_isUnder_3 ?_
  refine nq_sub (lv' := [(1, .int x1), (2, .int x0), (3, .int (0 : Int32))]) [3, 1, 0] rfl ?_
  exact mX8_isUnder_L4  hX hr h
theorem dsX8_isUnder : yX8_isUnder.cls ≠ "java/lang/invoke/MethodHandle" ∧ yX8_isUnder.cls ≠ "java/lang/invoke/VarHandle" ∧ (parseMethodDescriptor yX8_isUnder.desc).map (fun d => d.parameters.length) = some 2 := by decide +kernel
theorem tX8_isUnder {l : Launch} {E : Ev} {K : List Sh} {x0 : Int32} {x1 : Int32} {M : Mem} {r : Int32}  (h : fX8_isUnder x0 x1 M = some r) : nq_MA l E yX8_isUnder wsX8_isUnder (nq_rm 1) [.int x0, .int x1] K M (some (.int r)) K M :=
  nq_met (own := RX8) (cc := cX8_isUnder) (maxL := 4) (ret := (some .boolean)) (by decide) rfl rfl (Nat.le_of_ble_eq_true rfl) (fun X hX hr => mX8_isUnder  hX hr h)

theorem inX8_as_8 : ∀ w ∈ u_ws RX8 TX8 11, w ∈ wsX8_as := by
  intro w h; unfold wsX8_as; simp only [List.mem_cons, List.mem_append]; simp only [h, true_or, or_true]
theorem lkX8_as_16 : Cond.fieldLink RX8 16 (TX8 1).1 (TX8 1).2.1 (TX8 1).2.2.1 ∈ wsX8_as := by decide +kernel
theorem inX8_as_7 : ∀ w ∈ u_ws RX7 TX7 17, w ∈ wsX8_as := by
  intro w h; unfold wsX8_as; simp only [List.mem_cons, List.mem_append]; simp only [h, true_or, or_true]
theorem lkX8_as_29 : Cond.fieldLink RX8 29 (TX7 1).1 (TX7 1).2.1 (TX7 1).2.2.1 ∈ wsX8_as := by decide +kernel
theorem inX8_as_0 : ∀ w ∈ u_ws RX0 TX0 11, w ∈ wsX8_as := by
  intro w h; unfold wsX8_as; simp only [List.mem_cons, List.mem_append]; simp only [h, true_or, or_true]
theorem lkX8_as_131 : Cond.fieldLink RX8 131 (TX0 1).1 (TX0 1).2.1 (TX0 1).2.2.1 ∈ wsX8_as := by decide +kernel
theorem lkX8_as_150 : Cond.fieldLink RX8 150 (TX0 7).1 (TX0 7).2.1 (TX0 7).2.2.1 ∈ wsX8_as := by decide +kernel
def fX8_as (x1 : Int32) (x2 : Int32) (M : Mem) : Option (Int32 × Mem) :=
  (fX8_isWord x1 M).bind fun v2 =>
  if v2 = 0 then
  (nq_b2 (fX8_refuse (1 : Int32) M) fun v5 M6 =>
  some (v5, M6))
  else
  ((fX8_isOutside x2 (0 : Int32) (6 : Int32) M).bind fun v8 =>
  if v8 = 0 then
  ((nq_ag (M 7) 80 x1).bind fun v10 =>
  (fX8_isUnder v10 x2 M).bind fun v12 =>
  if v12 = 0 then
  (nq_b2 (fX8_refuse (5 : Int32) M) fun v15 M16 =>
  some (v15, M16))
  else
  ((nq_ag (M 13) 80 x1).bind fun v17 =>
  some (v17, M)))
  else
  (nq_b2 (fX8_refuse (1 : Int32) M) fun v19 M20 =>
  some (v19, M20)))
set_option maxHeartbeats 4000000 in
theorem mX8_as {X : Cx} {E : Ev} {l : Launch} {K : List Sh} {x1 : Int32} {x2 : Int32} {M : Mem} {r : Int32} {M' : Mem} (hL : nq_atNine E K) (hX : nq_OK X E l (nq_rm 3) cX8_as 4 RX8 wsX8_as) (hr : nq_RT X E (some .int) (some (.int r)) K M') (h : fX8_as x1 x2 M = some (r, M')) : nq_G X E 4 0 [(0, .ref (nq_ad E 0)), (1, .int x1), (2, .int x2)] [] K M := by
  unfold fX8_as at h
  refine nq_aload_n hX rfl 0 rfl dX8_as_0 ?_
  refine nq_iload_n hX rfl 1 rfl dX8_as_1 ?_
  obtain ⟨v2, hc1, h⟩ := nq_bE h
  refine nq_callVi hX (tX8_isWord hL hc1) gX8_as_X8_isWord rfl rfl dsX8_isWord (by decide) (nq_Nine_0 hL) rfl rfl (Nat.le_of_ble_eq_true rfl) dX8_as_2 ?_
  refine nq_if_eq hX (tgt := 18) (by decide) dX8_as_5 (fun c3 => ?_) (fun c3 => ?_)
  · rw [if_pos c3] at h
    refine nq_aload_n hX rfl 0 rfl dX8_as_18 ?_
    refine nq_iconst hX (v := 1) (by decide) dX8_as_19 ?_
    obtain ⟨v5, M6, hc4, h⟩ := nq_b2E h
    refine nq_callVi hX (tX8_refuse hL hc4) gX8_as_X8_refuse rfl rfl dsX8_refuse (by decide) (nq_Nine_0 hL) rfl rfl (Nat.le_of_ble_eq_true rfl) dX8_as_20 ?_
    obtain ⟨rfl, rfl⟩ := nq_sE2 h; exact nq_iret hX hr dX8_as_23
  · rw [if_neg c3] at h
    refine nq_iload_n hX rfl 2 rfl dX8_as_8 ?_
    refine nq_iconst hX (v := 0) (by decide) dX8_as_9 ?_
    refine nq_bipush hX (v := 6) (by decide) dX8_as_10 ?_
    obtain ⟨v8, hc7, h⟩ := nq_bE h
    refine nq_callSi hX (tX8_isOutside  hc7) gX8_as_X8_isOutside rfl rfl dsX8_isOutside (by decide) rfl (Nat.le_of_ble_eq_true rfl) dX8_as_12 ?_
    refine nq_if_eq hX (tgt := 24) (by decide) dX8_as_15 (fun c9 => ?_) (fun c9 => ?_)
    · rw [if_pos c9] at h
      refine nq_aload_n hX rfl 0 rfl dX8_as_24 ?_
      refine nq_getr (v := .ref (nq_ad E 2)) hX inX8_as_8 (nq_Nine_0 hL) rfl 1 (by decide) lkX8_as_16 _ rfl rfl dX8_as_25 ?_
      refine nq_getr (v := .ref (nq_ad E 6)) hX inX8_as_7 (nq_World_0 (nq_Nine_world hL)) rfl 1 (by decide) lkX8_as_29 _ rfl rfl dX8_as_28 ?_
      refine nq_astore_n hX (lv' := [(3, .ref (nq_ad E 6)), (0, .ref (nq_ad E 0)), (1, .int x1), (2, .int x2)]) rfl (by decide) rfl rfl dX8_as_31 ?_
      refine nq_aload_n hX rfl 0 rfl dX8_as_32 ?_
      refine nq_getr (v := .ref (nq_ad E 7)) hX inX8_as_0 (nq_Letters_0 (nq_World_letters (nq_Nine_world hL))) rfl 1 (by decide) lkX8_as_131 _ rfl rfl dX8_as_33 ?_
      refine nq_iload_n hX rfl 2 rfl dX8_as_36 ?_
      obtain ⟨v10, e10, hi10, h⟩ := nq_agE h
      refine nq_iald hX (nq_Letters_kinds (nq_World_letters (nq_Nine_world hL))) e10 hi10 dX8_as_37 ?_
      refine nq_iload_n hX rfl 3 rfl dX8_as_38 ?_
      obtain ⟨v12, hc11, h⟩ := nq_bE h
      refine nq_callSi hX (tX8_isUnder  hc11) gX8_as_X8_isUnder rfl rfl dsX8_isUnder (by decide) rfl (Nat.le_of_ble_eq_true rfl) dX8_as_39 ?_
      refine nq_if_eq hX (tgt := 54) (by decide) dX8_as_42 (fun c13 => ?_) (fun c13 => ?_)
      · rw [if_pos c13] at h
        refine nq_aload_n hX rfl 1 rfl dX8_as_54 ?_
        refine nq_iconst hX (v := 5) (by decide) dX8_as_55 ?_
        obtain ⟨v15, M16, hc14, h⟩ := nq_b2E h
        refine nq_callVi hX (tX8_refuse hL hc14) gX8_as_X8_refuse rfl rfl dsX8_refuse (by decide) (nq_Nine_0 hL) rfl rfl (Nat.le_of_ble_eq_true rfl) dX8_as_56 ?_
        obtain ⟨rfl, rfl⟩ := nq_sE2 h; exact nq_iret hX hr dX8_as_59
      · rw [if_neg c13] at h
        refine nq_aload_n hX rfl 0 rfl dX8_as_45 ?_
        refine nq_getr (v := .ref (nq_ad E 13)) hX inX8_as_0 (nq_Letters_0 (nq_World_letters (nq_Nine_world hL))) rfl 7 (by decide) lkX8_as_150 _ rfl rfl dX8_as_46 ?_
        refine nq_iload_n hX rfl 2 rfl dX8_as_49 ?_
        obtain ⟨v17, e17, hi17, h⟩ := nq_agE h
        refine nq_iald hX (nq_Letters_terms (nq_World_letters (nq_Nine_world hL))) e17 hi17 dX8_as_50 ?_
        refine nq_goto hX (tgt := 59) (by decide) dX8_as_51 ?_
        obtain ⟨rfl, rfl⟩ := nq_sE2 h; exact nq_iret hX hr dX8_as_59
    · rw [if_neg c9] at h
      refine nq_aload_n hX rfl 0 rfl dX8_as_18 ?_
      refine nq_iconst hX (v := 1) (by decide) dX8_as_19 ?_
      obtain ⟨v19, M20, hc18, h⟩ := nq_b2E h
      refine nq_callVi hX (tX8_refuse hL hc18) gX8_as_X8_refuse rfl rfl dsX8_refuse (by decide) (nq_Nine_0 hL) rfl rfl (Nat.le_of_ble_eq_true rfl) dX8_as_20 ?_
      obtain ⟨rfl, rfl⟩ := nq_sE2 h; exact nq_iret hX hr dX8_as_23
theorem dsX8_as : yX8_as.cls ≠ "java/lang/invoke/MethodHandle" ∧ yX8_as.cls ≠ "java/lang/invoke/VarHandle" ∧ (parseMethodDescriptor yX8_as.desc).map (fun d => d.parameters.length) = some 2 := by decide +kernel
theorem tX8_as {l : Launch} {E : Ev} {K : List Sh} {x1 : Int32} {x2 : Int32} {M : Mem} {r : Int32} {M' : Mem} (hL : nq_atNine E K) (h : fX8_as x1 x2 M = some (r, M')) : nq_MA l E yX8_as wsX8_as (nq_rm 3) [.ref (nq_ad E 0), .int x1, .int x2] K M (some (.int r)) K M' :=
  nq_met (own := RX8) (cc := cX8_as) (maxL := 4) (ret := (some .int)) (by decide) rfl rfl (Nat.le_of_ble_eq_true rfl) (fun X hX hr => mX8_as hL hX hr h)

def fX8_isSheet (x0 : Int32) (M : Mem) : Option (Int32) :=
  (fX8_isOutside x0 (0 : Int32) (3 : Int32) M).bind fun v2 =>
  if v2 = 0 then
  (some (1 : Int32))
  else
  (some (0 : Int32))
set_option maxHeartbeats 4000000 in
theorem mX8_isSheet {X : Cx} {E : Ev} {l : Launch} {K : List Sh} {x0 : Int32} {M : Mem} {r : Int32}  (hX : nq_OK X E l (nq_rm 2) cX8_isSheet 1 RX8 wsX8_isSheet) (hr : nq_RT X E (some .boolean) (some (.int r)) K M) (h : fX8_isSheet x0 M = some r) : nq_G X E 1 0 [(0, .int x0)] [] K M := by
  unfold fX8_isSheet at h
  refine nq_iload_n hX rfl 0 rfl dX8_isSheet_0 ?_
  refine nq_iconst hX (v := 0) (by decide) dX8_isSheet_1 ?_
  refine nq_iconst hX (v := 3) (by decide) dX8_isSheet_2 ?_
  obtain ⟨v2, hc1, h⟩ := nq_bE h
  refine nq_callSi hX (tX8_isOutside  hc1) gX8_isSheet_X8_isOutside rfl rfl dsX8_isOutside (by decide) rfl (Nat.le_of_ble_eq_true rfl) dX8_isSheet_3 ?_
  refine nq_if_ne hX (tgt := 13) (by decide) dX8_isSheet_6 (fun c3 => ?_) (fun c3 => ?_)
  · rw [if_pos c3] at h
    refine nq_iconst hX (v := 1) (by decide) dX8_isSheet_9 ?_
    refine nq_goto hX (tgt := 14) (by decide) dX8_isSheet_10 ?_
    obtain rfl := nq_sE1 h; exact nq_zret hX hr rfl dX8_isSheet_14
  · rw [if_neg c3] at h
    refine nq_iconst hX (v := 0) (by decide) dX8_isSheet_13 ?_
    obtain rfl := nq_sE1 h; exact nq_zret hX hr rfl dX8_isSheet_14
theorem dsX8_isSheet : yX8_isSheet.cls ≠ "java/lang/invoke/MethodHandle" ∧ yX8_isSheet.cls ≠ "java/lang/invoke/VarHandle" ∧ (parseMethodDescriptor yX8_isSheet.desc).map (fun d => d.parameters.length) = some 1 := by decide +kernel
theorem tX8_isSheet {l : Launch} {E : Ev} {K : List Sh} {x0 : Int32} {M : Mem} {r : Int32}  (h : fX8_isSheet x0 M = some r) : nq_MA l E yX8_isSheet wsX8_isSheet (nq_rm 2) [.int x0] K M (some (.int r)) K M :=
  nq_met (own := RX8) (cc := cX8_isSheet) (maxL := 1) (ret := (some .boolean)) (by decide) rfl rfl (Nat.le_of_ble_eq_true rfl) (fun X hX hr => mX8_isSheet  hX hr h)

theorem inX8_words_8 : ∀ w ∈ u_ws RX8 TX8 11, w ∈ wsX8_words := by
  intro w h; unfold wsX8_words; simp only [List.mem_cons, List.mem_append]; simp only [h, true_or, or_true]
theorem lkX8_words_65 : Cond.fieldLink RX8 65 (TX8 10).1 (TX8 10).2.1 (TX8 10).2.2.1 ∈ wsX8_words := by decide +kernel
theorem inX8_words_3 : ∀ w ∈ u_ws RX3 TX3 3, w ∈ wsX8_words := by
  intro w h; unfold wsX8_words; simp only [List.mem_cons, List.mem_append]; simp only [h, true_or, or_true]
theorem lkX8_words_169 : Cond.fieldLink RX8 169 (TX3 0).1 (TX3 0).2.1 (TX3 0).2.2.1 ∈ wsX8_words := by decide +kernel
theorem lkX8_words_172 : Cond.fieldLink RX8 172 (TX3 1).1 (TX3 1).2.1 (TX3 1).2.2.1 ∈ wsX8_words := by decide +kernel
theorem lkX8_words_175 : Cond.fieldLink RX8 175 (TX3 2).1 (TX3 2).2.1 (TX3 2).2.2.1 ∈ wsX8_words := by decide +kernel
theorem lkX8_words_16 : Cond.fieldLink RX8 16 (TX8 1).1 (TX8 1).2.1 (TX8 1).2.2.1 ∈ wsX8_words := by decide +kernel
def fX8_words_B38 (q7 : Nat) (x3 : Int32) (x4 : Int32) (M : Mem) : Option ((Int32 × Int32 × Mem) ⊕ (Int32 × Mem)) :=
  nq_lt (M q7 1) fun v13 =>
  if v13 ≤ (x4 + (2 : Int32)) then
  (some (.inr (x3, M)))
  else
  ((nq_ag (M (q7 + 1)) 40 x4).bind fun v15 =>
  (nq_ag (M (q7 + 1)) 40 (x4 + (1 : Int32))).bind fun v16 =>
  (nq_ag (M (q7 + 1)) 40 (x4 + (2 : Int32))).bind fun v17 =>
  (fX8_faultOfWord v15 v16 v17 M).bind fun v19 =>
  if v19 = 0 then
  ((nq_dv v16 (10 : Int32)).bind fun v21 =>
  (nq_rem v16 (10 : Int32)).bind fun v22 =>
  nq_b2 (fX7_send 2 v15 v21 v22 v17 M) fun v24 M25 =>
  nq_lt (x3 + (1 : Int32)) fun v26 =>
  nq_lt (x4 + (3 : Int32)) fun v27 =>
  some (.inl (v26, v27, M25)))
  else
  (some (.inr (x3, M))))
set_option maxHeartbeats 4000000 in
theorem mX8_words_B38 {X : Cx} {E : Ev} {l : Launch} {K : List Sh} {q7 : Nat} {x3 : Int32} {x4 : Int32} {M : Mem} (hL : nq_atNine E K) (hq7 : nq_atSheet E K q7) (hX : nq_OK X E l (nq_rm 6) cX8_words 8 RX8 wsX8_words) {x : (Int32 × Int32 × Mem) ⊕ (Int32 × Mem)} (hc : ∀ s' : Int32 × Int32 × Mem, x = .inl s' → nq_G X E 8 38 [(0, .ref (nq_ad E 0)), (2, .ref (nq_ad E q7)), (3, .int s'.1), (4, .int s'.2.1)] [] K s'.2.2) (he : ∀ s' : Int32 × Mem, x = .inr s' → nq_G X E 8 127 [(3, .int s'.1)] [] K s'.2) (h : fX8_words_B38 q7 x3 x4 M = some x) : nq_G X E 8 38 [(0, .ref (nq_ad E 0)), (2, .ref (nq_ad E q7)), (3, .int x3), (4, .int x4)] [] K M := by
  unfold fX8_words_B38 at h
  refine nq_iload hX 3 rfl dX8_words_38 ?_
  refine nq_iconst hX (v := 2) (by decide) dX8_words_40 ?_
  refine nq_iadd hX dX8_words_41 ?_
  refine nq_aload_n hX rfl 1 rfl dX8_words_42 ?_
  obtain ⟨v13, e13, h⟩ := nq_ltE h
  refine nq_geti hX inX8_words_3 (nq_Sheet_0 hq7) rfl 1 (by decide) lkX8_words_172 rfl e13 dX8_words_43 ?_
  refine nq_icmp_ge hX (tgt := 127) (by decide) dX8_words_46 (fun c14 => ?_) (fun c14 => ?_)
  · rw [if_pos c14] at h
    refine nq_sub (lv' := [(3, .int x3)]) [2] rfl ?_
    exact he (x3, M) (nq_sE h).symm
  · rw [if_neg c14] at h
    refine nq_aload_n hX rfl 1 rfl dX8_words_49 ?_
    refine nq_getr (v := .ref (nq_ad E (q7 + 1))) hX inX8_words_3 (nq_Sheet_0 hq7) rfl 2 (by decide) lkX8_words_175 _ rfl rfl dX8_words_50 ?_
    refine nq_iload hX 3 rfl dX8_words_53 ?_
    obtain ⟨v15, e15, hi15, h⟩ := nq_agE h
    refine nq_iald hX (nq_Sheet_numbers hq7) e15 hi15 dX8_words_55 ?_
    refine nq_istore hX (lv' := [(5, .int v15), (0, .ref (nq_ad E 0)), (2, .ref (nq_ad E q7)), (3, .int x3), (4, .int x4)]) (by decide) rfl rfl dX8_words_56 ?_
    refine nq_aload_n hX rfl 2 rfl dX8_words_58 ?_
    refine nq_getr (v := .ref (nq_ad E (q7 + 1))) hX inX8_words_3 (nq_Sheet_0 hq7) rfl 2 (by decide) lkX8_words_175 _ rfl rfl dX8_words_59 ?_
    refine nq_iload hX 4 rfl dX8_words_62 ?_
    refine nq_iconst hX (v := 1) (by decide) dX8_words_64 ?_
    refine nq_iadd hX dX8_words_65 ?_
    obtain ⟨v16, e16, hi16, h⟩ := nq_agE h
    refine nq_iald hX (nq_Sheet_numbers hq7) e16 hi16 dX8_words_66 ?_
    refine nq_istore hX (lv' := [(6, .int v16), (5, .int v15), (0, .ref (nq_ad E 0)), (2, .ref (nq_ad E q7)), (3, .int x3), (4, .int x4)]) (by decide) rfl rfl dX8_words_67 ?_
    refine nq_aload_n hX rfl 3 rfl dX8_words_69 ?_
    refine nq_getr (v := .ref (nq_ad E (q7 + 1))) hX inX8_words_3 (nq_Sheet_0 hq7) rfl 2 (by decide) lkX8_words_175 _ rfl rfl dX8_words_70 ?_
    refine nq_iload hX 5 rfl dX8_words_73 ?_
    refine nq_iconst hX (v := 2) (by decide) dX8_words_75 ?_
    refine nq_iadd hX dX8_words_76 ?_
    obtain ⟨v17, e17, hi17, h⟩ := nq_agE h
    refine nq_iald hX (nq_Sheet_numbers hq7) e17 hi17 dX8_words_77 ?_
    refine nq_istore hX (lv' := [(7, .int v17), (6, .int v16), (5, .int v15), (0, .ref (nq_ad E 0)), (2, .ref (nq_ad E q7)), (3, .int x3), (4, .int x4)]) (by decide) rfl rfl dX8_words_78 ?_
    refine nq_aload_n hX rfl 3 rfl dX8_words_80 ?_
    refine nq_iload hX 2 rfl dX8_words_81 ?_
    refine nq_iload hX 1 rfl dX8_words_83 ?_
    refine nq_iload hX 0 rfl dX8_words_85 ?_
    obtain ⟨v19, hc18, h⟩ := nq_bE h
    refine nq_callVi hX (tX8_faultOfWord hL hc18) gX8_words_X8_faultOfWord rfl rfl dsX8_faultOfWord (by decide) (nq_Nine_0 hL) rfl rfl (Nat.le_of_ble_eq_true rfl) dX8_words_87 ?_
    refine nq_if_eq hX (tgt := 96) (by decide) dX8_words_90 (fun c20 => ?_) (fun c20 => ?_)
    · rw [if_pos c20] at h
      refine nq_aload_n hX rfl 3 rfl dX8_words_96 ?_
      refine nq_getr (v := .ref (nq_ad E 2)) hX inX8_words_8 (nq_Nine_0 hL) rfl 1 (by decide) lkX8_words_16 _ rfl rfl dX8_words_97 ?_
      refine nq_iload hX 2 rfl dX8_words_100 ?_
      refine nq_iload hX 1 rfl dX8_words_102 ?_
      refine nq_bipush hX (v := 10) (by decide) dX8_words_104 ?_
      obtain ⟨v21, e21, hn21, h⟩ := nq_ifE h
      refine nq_idiv hX hn21 e21 dX8_words_106 ?_
      refine nq_iload hX 1 rfl dX8_words_107 ?_
      refine nq_bipush hX (v := 10) (by decide) dX8_words_109 ?_
      obtain ⟨v22, e22, hn22, h⟩ := nq_ifE h
      refine nq_irem hX hn22 e22 dX8_words_111 ?_
      refine nq_iload hX 0 rfl dX8_words_112 ?_
      obtain ⟨v24, M25, hc23, h⟩ := nq_b2E h
      refine nq_callVi hX (tX7_send (nq_Nine_world hL) hc23) gX8_words_X7_send rfl rfl dsX7_send (by decide) (nq_World_0 (nq_Nine_world hL)) rfl rfl (Nat.le_of_ble_eq_true rfl) dX8_words_114 ?_
      refine nq_pop hX rfl dX8_words_117 ?_
      obtain ⟨v26, e26, h⟩ := nq_ltE h
      refine nq_iinc hX (lv' := [(3, .int v26), (7, .int v17), (6, .int v16), (5, .int v15), (0, .ref (nq_ad E 0)), (2, .ref (nq_ad E q7)), (4, .int x4)]) (j := 5) rfl (e26.trans rfl) (by decide) rfl dX8_words_118 ?_
      obtain ⟨v27, e27, h⟩ := nq_ltE h
      refine nq_iinc hX (lv' := [(4, .int v27), (3, .int v26), (7, .int v17), (6, .int v16), (5, .int v15), (0, .ref (nq_ad E 0)), (2, .ref (nq_ad E q7))]) (j := 6) rfl (e27.trans rfl) (by decide) rfl dX8_words_121 ?_
      refine nq_goto hX (tgt := 38) (by decide) dX8_words_124 ?_
      refine nq_sub (lv' := [(0, .ref (nq_ad E 0)), (2, .ref (nq_ad E q7)), (3, .int v26), (4, .int v27)]) [5, 6, 1, 0] rfl ?_
      exact hc (v26, v27, M25) (nq_sE h).symm
    · rw [if_neg c20] at h
      refine nq_goto hX (tgt := 127) (by decide) dX8_words_93 ?_
      refine nq_sub (lv' := [(3, .int x3)]) [5] rfl ?_
      exact he (x3, M) (nq_sE h).symm
def fX8_words_L127 (x3 : Int32) (M : Mem) : Option (Int32 × Mem) :=
  some (x3, M)
set_option maxHeartbeats 4000000 in
theorem mX8_words_L127 {X : Cx} {E : Ev} {l : Launch} {K : List Sh} {x3 : Int32} {M : Mem} {r : Int32} {M' : Mem} (hL : nq_atNine E K) (hX : nq_OK X E l (nq_rm 6) cX8_words 8 RX8 wsX8_words) (hr : nq_RT X E (some .int) (some (.int r)) K M') (h : fX8_words_L127 x3 M = some (r, M')) : nq_G X E 8 127 [(3, .int x3)] [] K M := by
  unfold fX8_words_L127 at h
  refine nq_iload_n hX rfl 0 rfl dX8_words_127 ?_
  obtain ⟨rfl, rfl⟩ := nq_sE2 h; exact nq_iret hX hr dX8_words_128
def fX8_words_L38 (q7 : Nat) (x3 : Int32) (x4 : Int32) (M : Mem) : Option (Int32 × Mem) :=
  (nq_lp (fun s : Int32 × Int32 × Mem => fX8_words_B38 q7 s.1 s.2.1 s.2.2) nq_fuel (x3, x4, M)).bind (fun e => fX8_words_L127 e.1 e.2)
set_option maxHeartbeats 4000000 in
theorem mX8_words_L38 {X : Cx} {E : Ev} {l : Launch} {K : List Sh} {q7 : Nat} {x3 : Int32} {x4 : Int32} {M : Mem} {r : Int32} {M' : Mem} (hL : nq_atNine E K) (hq7 : nq_atSheet E K q7) (hX : nq_OK X E l (nq_rm 6) cX8_words 8 RX8 wsX8_words) (hr : nq_RT X E (some .int) (some (.int r)) K M') (h : fX8_words_L38 q7 x3 x4 M = some (r, M')) : nq_G X E 8 38 [(0, .ref (nq_ad E 0)), (2, .ref (nq_ad E q7)), (3, .int x3), (4, .int x4)] [] K M := by
  unfold fX8_words_L38 at h
  obtain ⟨e, h1, h⟩ := nq_bE h
  have key : ∀ (ex : Int32 × Mem), nq_lp (fun s : Int32 × Int32 × Mem => fX8_words_B38 q7 s.1 s.2.1 s.2.2) nq_fuel (x3, x4, M) = some ex → (∀ e, ex = e → nq_G X E 8 127 [(3, .int e.1)] [] K e.2) → nq_G X E 8 38 [(0, .ref (nq_ad E 0)), (2, .ref (nq_ad E q7)), (3, .int ((x3, x4, M).1)), (4, .int ((x3, x4, M).2.1))] [] K (x3, x4, M).2.2 := by
    intro ex h1 hE
    refine nq_lpE (P := fun s : Int32 × Int32 × Mem => nq_G X E 8 38 [(0, .ref (nq_ad E 0)), (2, .ref (nq_ad E q7)), (3, .int s.1), (4, .int s.2.1)] [] K s.2.2) (r := ex) ?_ nq_fuel (x3, x4, M) h1
    intro s xx hx1 hc1 he1
    exact mX8_words_B38 hL hq7 hX hc1 (fun e q => hE e (he1 _ q).symm) hx1
  refine key e h1 (fun e q => ?_)
  subst q
  exact mX8_words_L127 hL hX hr h
def fX8_words (x1 : Int32) (M : Mem) : Option (Int32 × Mem) :=
  (fX8_isSheet x1 M).bind fun v2 =>
  if v2 = 0 then
  (nq_b2 (fX8_refuse (1 : Int32) M) fun v5 M6 =>
  some (v5, M6))
  else
  ((nq_ar 87 4 x1).bind fun q7 =>
  nq_lt (M q7 0) fun v8 =>
  if v8 = 0 then
  (nq_b2 (fX8_refuse (2 : Int32) M) fun v11 M12 =>
  some (v11, M12))
  else
  (fX8_words_L38 q7 (0 : Int32) (0 : Int32) M))
set_option maxHeartbeats 4000000 in
theorem mX8_words {X : Cx} {E : Ev} {l : Launch} {K : List Sh} {x1 : Int32} {M : Mem} {r : Int32} {M' : Mem} (hL : nq_atNine E K) (hX : nq_OK X E l (nq_rm 6) cX8_words 8 RX8 wsX8_words) (hr : nq_RT X E (some .int) (some (.int r)) K M') (h : fX8_words x1 M = some (r, M')) : nq_G X E 8 0 [(0, .ref (nq_ad E 0)), (1, .int x1)] [] K M := by
  unfold fX8_words at h
  refine nq_iload_n hX rfl 1 rfl dX8_words_0 ?_
  obtain ⟨v2, hc1, h⟩ := nq_bE h
  refine nq_callSi hX (tX8_isSheet  hc1) gX8_words_X8_isSheet rfl rfl dsX8_isSheet (by decide) rfl (Nat.le_of_ble_eq_true rfl) dX8_words_1 ?_
  refine nq_if_ne hX (tgt := 13) (by decide) dX8_words_4 (fun c3 => ?_) (fun c3 => ?_)
  · rw [if_pos c3] at h
    refine nq_aload_n hX rfl 0 rfl dX8_words_7 ?_
    refine nq_iconst hX (v := 1) (by decide) dX8_words_8 ?_
    obtain ⟨v5, M6, hc4, h⟩ := nq_b2E h
    refine nq_callVi hX (tX8_refuse hL hc4) gX8_words_X8_refuse rfl rfl dsX8_refuse (by decide) (nq_Nine_0 hL) rfl rfl (Nat.le_of_ble_eq_true rfl) dX8_words_9 ?_
    obtain ⟨rfl, rfl⟩ := nq_sE2 h; exact nq_iret hX hr dX8_words_12
  · rw [if_neg c3] at h
    refine nq_aload_n hX rfl 0 rfl dX8_words_13 ?_
    refine nq_getr (v := .ref (nq_ad E 86)) hX inX8_words_8 (nq_Nine_0 hL) rfl 10 (by decide) lkX8_words_65 _ rfl rfl dX8_words_14 ?_
    refine nq_iload_n hX rfl 1 rfl dX8_words_17 ?_
    obtain ⟨q7, e7, hi7, h⟩ := nq_arE h
    have hq7 : nq_atSheet E K q7 := by rw [e7]; exact nq_Nine_sheetsT hL _ (nq_inLt hi7)
    refine nq_aald hX (q := q7) (nq_Nine_sheets hL) rfl hi7 (by rw [e7]; exact nq_Nine_sheetsQ _ (nq_inLt hi7)) dX8_words_18 ?_
    refine nq_astore_n hX (lv' := [(2, .ref (nq_ad E q7)), (0, .ref (nq_ad E 0)), (1, .int x1)]) rfl (by decide) rfl rfl dX8_words_19 ?_
    refine nq_aload_n hX rfl 0 rfl dX8_words_20 ?_
    obtain ⟨v8, e8, h⟩ := nq_ltE h
    refine nq_geti hX inX8_words_3 (nq_Sheet_0 hq7) rfl 0 (by decide) lkX8_words_169 rfl e8 dX8_words_21 ?_
    refine nq_if_ne hX (tgt := 33) (by decide) dX8_words_24 (fun c9 => ?_) (fun c9 => ?_)
    · rw [if_pos c9] at h
      refine nq_aload_n hX rfl 1 rfl dX8_words_27 ?_
      refine nq_iconst hX (v := 2) (by decide) dX8_words_28 ?_
      obtain ⟨v11, M12, hc10, h⟩ := nq_b2E h
      refine nq_callVi hX (tX8_refuse hL hc10) gX8_words_X8_refuse rfl rfl dsX8_refuse (by decide) (nq_Nine_0 hL) rfl rfl (Nat.le_of_ble_eq_true rfl) dX8_words_29 ?_
      obtain ⟨rfl, rfl⟩ := nq_sE2 h; exact nq_iret hX hr dX8_words_32
    · rw [if_neg c9] at h
      refine nq_iconst hX (v := 0) (by decide) dX8_words_33 ?_
      refine nq_istore_n hX (lv' := [(3, .int (0 : Int32)), (2, .ref (nq_ad E q7)), (0, .ref (nq_ad E 0)), (1, .int x1)]) rfl (by decide) rfl rfl dX8_words_34 ?_
      refine nq_iconst hX (v := 0) (by decide) dX8_words_35 ?_
      refine nq_istore hX (lv' := [(4, .int (0 : Int32)), (3, .int (0 : Int32)), (2, .ref (nq_ad E q7)), (0, .ref (nq_ad E 0)), (1, .int x1)]) (by decide) rfl rfl dX8_words_36 ?_
      refine nq_sub (lv' := [(0, .ref (nq_ad E 0)), (2, .ref (nq_ad E q7)), (3, .int (0 : Int32)), (4, .int (0 : Int32))]) [3, 2, 1, 0] rfl ?_
      exact mX8_words_L38 hL hq7 hX hr h
theorem dsX8_words : yX8_words.cls ≠ "java/lang/invoke/MethodHandle" ∧ yX8_words.cls ≠ "java/lang/invoke/VarHandle" ∧ (parseMethodDescriptor yX8_words.desc).map (fun d => d.parameters.length) = some 1 := by decide +kernel
theorem tX8_words {l : Launch} {E : Ev} {K : List Sh} {x1 : Int32} {M : Mem} {r : Int32} {M' : Mem} (hL : nq_atNine E K) (h : fX8_words x1 M = some (r, M')) : nq_MA l E yX8_words wsX8_words (nq_rm 6) [.ref (nq_ad E 0), .int x1] K M (some (.int r)) K M' :=
  nq_met (own := RX8) (cc := cX8_words) (maxL := 8) (ret := (some .int)) (by decide) rfl rfl (Nat.le_of_ble_eq_true rfl) (fun X hX hr => mX8_words hL hX hr h)

theorem inX8_came_8 : ∀ w ∈ u_ws RX8 TX8 11, w ∈ wsX8_came := by
  intro w h; unfold wsX8_came; simp only [List.mem_cons, List.mem_append]; simp only [h, true_or, or_true]
theorem lkX8_came_16 : Cond.fieldLink RX8 16 (TX8 1).1 (TX8 1).2.1 (TX8 1).2.2.1 ∈ wsX8_came := by decide +kernel
theorem inX8_came_7 : ∀ w ∈ u_ws RX7 TX7 17, w ∈ wsX8_came := by
  intro w h; unfold wsX8_came; simp only [List.mem_cons, List.mem_append]; simp only [h, true_or, or_true]
theorem lkX8_came_29 : Cond.fieldLink RX8 29 (TX7 1).1 (TX7 1).2.1 (TX7 1).2.2.1 ∈ wsX8_came := by decide +kernel
def fX8_came (x1 : Int32) (x2 : Int32) (x3 : Int32) (M : Mem) : Option (Int32 × Mem) :=
  (fX8_isPlace x1 M).bind fun v2 =>
  if v2 = 0 then
  (nq_b2 (fX8_refuse (1 : Int32) M) fun v5 M6 =>
  some (v5, M6))
  else
  ((fX8_isPact x2 M).bind fun v8 =>
  if v8 = 0 then
  (nq_b2 (fX8_refuse (1 : Int32) M) fun v11 M12 =>
  some (v11, M12))
  else
  ((fX8_isOutside x3 (0 : Int32) (399 : Int32) M).bind fun v14 =>
  if v14 = 0 then
  ((fX0_arrived 6 x1 x2 x3 M).bind fun v17 =>
  some (v17, M))
  else
  (nq_b2 (fX8_refuse (1 : Int32) M) fun v19 M20 =>
  some (v19, M20))))
set_option maxHeartbeats 4000000 in
theorem mX8_came {X : Cx} {E : Ev} {l : Launch} {K : List Sh} {x1 : Int32} {x2 : Int32} {x3 : Int32} {M : Mem} {r : Int32} {M' : Mem} (hL : nq_atNine E K) (hX : nq_OK X E l (nq_rm 3) cX8_came 4 RX8 wsX8_came) (hr : nq_RT X E (some .int) (some (.int r)) K M') (h : fX8_came x1 x2 x3 M = some (r, M')) : nq_G X E 4 0 [(0, .ref (nq_ad E 0)), (1, .int x1), (2, .int x2), (3, .int x3)] [] K M := by
  unfold fX8_came at h
  refine nq_aload_n hX rfl 0 rfl dX8_came_0 ?_
  refine nq_iload_n hX rfl 1 rfl dX8_came_1 ?_
  obtain ⟨v2, hc1, h⟩ := nq_bE h
  refine nq_callVi hX (tX8_isPlace hL hc1) gX8_came_X8_isPlace rfl rfl dsX8_isPlace (by decide) (nq_Nine_0 hL) rfl rfl (Nat.le_of_ble_eq_true rfl) dX8_came_2 ?_
  refine nq_if_eq hX (tgt := 26) (by decide) dX8_came_5 (fun c3 => ?_) (fun c3 => ?_)
  · rw [if_pos c3] at h
    refine nq_aload_n hX rfl 0 rfl dX8_came_26 ?_
    refine nq_iconst hX (v := 1) (by decide) dX8_came_27 ?_
    obtain ⟨v5, M6, hc4, h⟩ := nq_b2E h
    refine nq_callVi hX (tX8_refuse hL hc4) gX8_came_X8_refuse rfl rfl dsX8_refuse (by decide) (nq_Nine_0 hL) rfl rfl (Nat.le_of_ble_eq_true rfl) dX8_came_28 ?_
    obtain ⟨rfl, rfl⟩ := nq_sE2 h; exact nq_iret hX hr dX8_came_31
  · rw [if_neg c3] at h
    refine nq_iload_n hX rfl 2 rfl dX8_came_8 ?_
    obtain ⟨v8, hc7, h⟩ := nq_bE h
    refine nq_callSi hX (tX8_isPact  hc7) gX8_came_X8_isPact rfl rfl dsX8_isPact (by decide) rfl (Nat.le_of_ble_eq_true rfl) dX8_came_9 ?_
    refine nq_if_eq hX (tgt := 26) (by decide) dX8_came_12 (fun c9 => ?_) (fun c9 => ?_)
    · rw [if_pos c9] at h
      refine nq_aload_n hX rfl 0 rfl dX8_came_26 ?_
      refine nq_iconst hX (v := 1) (by decide) dX8_came_27 ?_
      obtain ⟨v11, M12, hc10, h⟩ := nq_b2E h
      refine nq_callVi hX (tX8_refuse hL hc10) gX8_came_X8_refuse rfl rfl dsX8_refuse (by decide) (nq_Nine_0 hL) rfl rfl (Nat.le_of_ble_eq_true rfl) dX8_came_28 ?_
      obtain ⟨rfl, rfl⟩ := nq_sE2 h; exact nq_iret hX hr dX8_came_31
    · rw [if_neg c9] at h
      refine nq_iload_n hX rfl 3 rfl dX8_came_15 ?_
      refine nq_iconst hX (v := 0) (by decide) dX8_came_16 ?_
      refine nq_sipush hX (v := 399) (by decide) dX8_came_17 ?_
      obtain ⟨v14, hc13, h⟩ := nq_bE h
      refine nq_callSi hX (tX8_isOutside  hc13) gX8_came_X8_isOutside rfl rfl dsX8_isOutside (by decide) rfl (Nat.le_of_ble_eq_true rfl) dX8_came_20 ?_
      refine nq_if_eq hX (tgt := 32) (by decide) dX8_came_23 (fun c15 => ?_) (fun c15 => ?_)
      · rw [if_pos c15] at h
        refine nq_aload_n hX rfl 0 rfl dX8_came_32 ?_
        refine nq_getr (v := .ref (nq_ad E 2)) hX inX8_came_8 (nq_Nine_0 hL) rfl 1 (by decide) lkX8_came_16 _ rfl rfl dX8_came_33 ?_
        refine nq_getr (v := .ref (nq_ad E 6)) hX inX8_came_7 (nq_World_0 (nq_Nine_world hL)) rfl 1 (by decide) lkX8_came_29 _ rfl rfl dX8_came_36 ?_
        refine nq_iload_n hX rfl 1 rfl dX8_came_39 ?_
        refine nq_iload_n hX rfl 2 rfl dX8_came_40 ?_
        refine nq_iload_n hX rfl 3 rfl dX8_came_41 ?_
        obtain ⟨v17, hc16, h⟩ := nq_bE h
        refine nq_callVi hX (tX0_arrived (nq_World_letters (nq_Nine_world hL)) hc16) gX8_came_X0_arrived rfl rfl dsX0_arrived (by decide) (nq_Letters_0 (nq_World_letters (nq_Nine_world hL))) rfl rfl (Nat.le_of_ble_eq_true rfl) dX8_came_42 ?_
        obtain ⟨rfl, rfl⟩ := nq_sE2 h; exact nq_iret hX hr dX8_came_45
      · rw [if_neg c15] at h
        refine nq_aload_n hX rfl 0 rfl dX8_came_26 ?_
        refine nq_iconst hX (v := 1) (by decide) dX8_came_27 ?_
        obtain ⟨v19, M20, hc18, h⟩ := nq_b2E h
        refine nq_callVi hX (tX8_refuse hL hc18) gX8_came_X8_refuse rfl rfl dsX8_refuse (by decide) (nq_Nine_0 hL) rfl rfl (Nat.le_of_ble_eq_true rfl) dX8_came_28 ?_
        obtain ⟨rfl, rfl⟩ := nq_sE2 h; exact nq_iret hX hr dX8_came_31
theorem dsX8_came : yX8_came.cls ≠ "java/lang/invoke/MethodHandle" ∧ yX8_came.cls ≠ "java/lang/invoke/VarHandle" ∧ (parseMethodDescriptor yX8_came.desc).map (fun d => d.parameters.length) = some 3 := by decide +kernel
theorem tX8_came {l : Launch} {E : Ev} {K : List Sh} {x1 : Int32} {x2 : Int32} {x3 : Int32} {M : Mem} {r : Int32} {M' : Mem} (hL : nq_atNine E K) (h : fX8_came x1 x2 x3 M = some (r, M')) : nq_MA l E yX8_came wsX8_came (nq_rm 3) [.ref (nq_ad E 0), .int x1, .int x2, .int x3] K M (some (.int r)) K M' :=
  nq_met (own := RX8) (cc := cX8_came) (maxL := 4) (ret := (some .int)) (by decide) rfl rfl (Nat.le_of_ble_eq_true rfl) (fun X hX hr => mX8_came hL hX hr h)

theorem inX8_stance_8 : ∀ w ∈ u_ws RX8 TX8 11, w ∈ wsX8_stance := by
  intro w h; unfold wsX8_stance; simp only [List.mem_cons, List.mem_append]; simp only [h, true_or, or_true]
theorem lkX8_stance_16 : Cond.fieldLink RX8 16 (TX8 1).1 (TX8 1).2.1 (TX8 1).2.2.1 ∈ wsX8_stance := by decide +kernel
theorem inX8_stance_7 : ∀ w ∈ u_ws RX7 TX7 17, w ∈ wsX8_stance := by
  intro w h; unfold wsX8_stance; simp only [List.mem_cons, List.mem_append]; simp only [h, true_or, or_true]
theorem lkX8_stance_156 : Cond.fieldLink RX8 156 (TX7 9).1 (TX7 9).2.1 (TX7 9).2.2.1 ∈ wsX8_stance := by decide +kernel
theorem lkX8_stance_36 : Cond.fieldLink RX8 36 (TX8 4).1 (TX8 4).2.1 (TX8 4).2.2.1 ∈ wsX8_stance := by decide +kernel
def fX8_stance (x1 : Int32) (x2 : Int32) (x3 : Int32) (M : Mem) : Option (Int32 × Mem) :=
  (fX8_isPlace x1 M).bind fun v2 =>
  if v2 = 0 then
  (nq_b2 (fX8_refuse (1 : Int32) M) fun v5 M6 =>
  some (v5, M6))
  else
  ((fX8_isPact x2 M).bind fun v8 =>
  if v8 = 0 then
  (nq_b2 (fX8_refuse (1 : Int32) M) fun v11 M12 =>
  some (v11, M12))
  else
  (nq_lt (M 2 9) fun v13 =>
  (fX8_isOutside x3 (0 : Int32) v13 M).bind fun v15 =>
  if v15 = 0 then
  (nq_b2 (fX4_standsIn 76 6 x1 x2 x3 M) fun v18 M19 =>
  some (v18, M19))
  else
  (nq_b2 (fX8_refuse (1 : Int32) M) fun v21 M22 =>
  some (v21, M22))))
set_option maxHeartbeats 4000000 in
theorem mX8_stance {X : Cx} {E : Ev} {l : Launch} {K : List Sh} {x1 : Int32} {x2 : Int32} {x3 : Int32} {M : Mem} {r : Int32} {M' : Mem} (hL : nq_atNine E K) (hX : nq_OK X E l (nq_rm 6) cX8_stance 4 RX8 wsX8_stance) (hr : nq_RT X E (some .int) (some (.int r)) K M') (h : fX8_stance x1 x2 x3 M = some (r, M')) : nq_G X E 4 0 [(0, .ref (nq_ad E 0)), (1, .int x1), (2, .int x2), (3, .int x3)] [] K M := by
  unfold fX8_stance at h
  refine nq_aload_n hX rfl 0 rfl dX8_stance_0 ?_
  refine nq_iload_n hX rfl 1 rfl dX8_stance_1 ?_
  obtain ⟨v2, hc1, h⟩ := nq_bE h
  refine nq_callVi hX (tX8_isPlace hL hc1) gX8_stance_X8_isPlace rfl rfl dsX8_isPlace (by decide) (nq_Nine_0 hL) rfl rfl (Nat.le_of_ble_eq_true rfl) dX8_stance_2 ?_
  refine nq_if_eq hX (tgt := 30) (by decide) dX8_stance_5 (fun c3 => ?_) (fun c3 => ?_)
  · rw [if_pos c3] at h
    refine nq_aload_n hX rfl 0 rfl dX8_stance_30 ?_
    refine nq_iconst hX (v := 1) (by decide) dX8_stance_31 ?_
    obtain ⟨v5, M6, hc4, h⟩ := nq_b2E h
    refine nq_callVi hX (tX8_refuse hL hc4) gX8_stance_X8_refuse rfl rfl dsX8_refuse (by decide) (nq_Nine_0 hL) rfl rfl (Nat.le_of_ble_eq_true rfl) dX8_stance_32 ?_
    obtain ⟨rfl, rfl⟩ := nq_sE2 h; exact nq_iret hX hr dX8_stance_35
  · rw [if_neg c3] at h
    refine nq_iload_n hX rfl 2 rfl dX8_stance_8 ?_
    obtain ⟨v8, hc7, h⟩ := nq_bE h
    refine nq_callSi hX (tX8_isPact  hc7) gX8_stance_X8_isPact rfl rfl dsX8_isPact (by decide) rfl (Nat.le_of_ble_eq_true rfl) dX8_stance_9 ?_
    refine nq_if_eq hX (tgt := 30) (by decide) dX8_stance_12 (fun c9 => ?_) (fun c9 => ?_)
    · rw [if_pos c9] at h
      refine nq_aload_n hX rfl 0 rfl dX8_stance_30 ?_
      refine nq_iconst hX (v := 1) (by decide) dX8_stance_31 ?_
      obtain ⟨v11, M12, hc10, h⟩ := nq_b2E h
      refine nq_callVi hX (tX8_refuse hL hc10) gX8_stance_X8_refuse rfl rfl dsX8_refuse (by decide) (nq_Nine_0 hL) rfl rfl (Nat.le_of_ble_eq_true rfl) dX8_stance_32 ?_
      obtain ⟨rfl, rfl⟩ := nq_sE2 h; exact nq_iret hX hr dX8_stance_35
    · rw [if_neg c9] at h
      refine nq_iload_n hX rfl 3 rfl dX8_stance_15 ?_
      refine nq_iconst hX (v := 0) (by decide) dX8_stance_16 ?_
      refine nq_aload_n hX rfl 0 rfl dX8_stance_17 ?_
      refine nq_getr (v := .ref (nq_ad E 2)) hX inX8_stance_8 (nq_Nine_0 hL) rfl 1 (by decide) lkX8_stance_16 _ rfl rfl dX8_stance_18 ?_
      obtain ⟨v13, e13, h⟩ := nq_ltE h
      refine nq_geti hX inX8_stance_7 (nq_World_0 (nq_Nine_world hL)) rfl 9 (by decide) lkX8_stance_156 rfl e13 dX8_stance_21 ?_
      obtain ⟨v15, hc14, h⟩ := nq_bE h
      refine nq_callSi hX (tX8_isOutside  hc14) gX8_stance_X8_isOutside rfl rfl dsX8_isOutside (by decide) rfl (Nat.le_of_ble_eq_true rfl) dX8_stance_24 ?_
      refine nq_if_eq hX (tgt := 36) (by decide) dX8_stance_27 (fun c16 => ?_) (fun c16 => ?_)
      · rw [if_pos c16] at h
        refine nq_aload_n hX rfl 0 rfl dX8_stance_36 ?_
        refine nq_getr (v := .ref (nq_ad E 76)) hX inX8_stance_8 (nq_Nine_0 hL) rfl 4 (by decide) lkX8_stance_36 _ rfl rfl dX8_stance_37 ?_
        refine nq_iload_n hX rfl 1 rfl dX8_stance_40 ?_
        refine nq_iload_n hX rfl 2 rfl dX8_stance_41 ?_
        refine nq_iload_n hX rfl 3 rfl dX8_stance_42 ?_
        obtain ⟨v18, M19, hc17, h⟩ := nq_b2E h
        refine nq_callVi hX (tX4_standsIn (nq_Nine_standing hL) hc17) gX8_stance_X4_standsIn rfl rfl dsX4_standsIn (by decide) (nq_Standing_0 (nq_Nine_standing hL)) rfl rfl (Nat.le_of_ble_eq_true rfl) dX8_stance_43 ?_
        obtain ⟨rfl, rfl⟩ := nq_sE2 h; exact nq_iret hX hr dX8_stance_46
      · rw [if_neg c16] at h
        refine nq_aload_n hX rfl 0 rfl dX8_stance_30 ?_
        refine nq_iconst hX (v := 1) (by decide) dX8_stance_31 ?_
        obtain ⟨v21, M22, hc20, h⟩ := nq_b2E h
        refine nq_callVi hX (tX8_refuse hL hc20) gX8_stance_X8_refuse rfl rfl dsX8_refuse (by decide) (nq_Nine_0 hL) rfl rfl (Nat.le_of_ble_eq_true rfl) dX8_stance_32 ?_
        obtain ⟨rfl, rfl⟩ := nq_sE2 h; exact nq_iret hX hr dX8_stance_35
theorem dsX8_stance : yX8_stance.cls ≠ "java/lang/invoke/MethodHandle" ∧ yX8_stance.cls ≠ "java/lang/invoke/VarHandle" ∧ (parseMethodDescriptor yX8_stance.desc).map (fun d => d.parameters.length) = some 3 := by decide +kernel
theorem tX8_stance {l : Launch} {E : Ev} {K : List Sh} {x1 : Int32} {x2 : Int32} {x3 : Int32} {M : Mem} {r : Int32} {M' : Mem} (hL : nq_atNine E K) (h : fX8_stance x1 x2 x3 M = some (r, M')) : nq_MA l E yX8_stance wsX8_stance (nq_rm 6) [.ref (nq_ad E 0), .int x1, .int x2, .int x3] K M (some (.int r)) K M' :=
  nq_met (own := RX8) (cc := cX8_stance) (maxL := 4) (ret := (some .int)) (by decide) rfl rfl (Nat.le_of_ble_eq_true rfl) (fun X hX hr => mX8_stance hL hX hr h)

theorem inX8_firstBound_8 : ∀ w ∈ u_ws RX8 TX8 11, w ∈ wsX8_firstBound := by
  intro w h; unfold wsX8_firstBound; simp only [List.mem_cons, List.mem_append]; simp only [h, true_or, or_true]
theorem lkX8_firstBound_36 : Cond.fieldLink RX8 36 (TX8 4).1 (TX8 4).2.1 (TX8 4).2.2.1 ∈ wsX8_firstBound := by decide +kernel
theorem lkX8_firstBound_40 : Cond.fieldLink RX8 40 (TX8 5).1 (TX8 5).2.1 (TX8 5).2.2.1 ∈ wsX8_firstBound := by decide +kernel
theorem mmX8_firstBound_k341 : Cond.methodLink RX8 341 Lib.Math.min.name ∈ wsX8_firstBound := by decide +kernel
theorem mmX8_firstBound_stmin : Cond.static Lib.Math.min.name ∈ wsX8_firstBound := by decide +kernel
theorem mmX8_firstBound_im : Cond.initialized "java/lang/Math" ∈ wsX8_firstBound := by decide +kernel
theorem mmX8_firstBound_cdmin : Cond.code Lib.Math.min.name Lib.Math.min.code 2 (some .int) ∈ wsX8_firstBound := by decide +kernel
theorem lkX8_firstBound_16 : Cond.fieldLink RX8 16 (TX8 1).1 (TX8 1).2.1 (TX8 1).2.2.1 ∈ wsX8_firstBound := by decide +kernel
theorem inX8_firstBound_7 : ∀ w ∈ u_ws RX7 TX7 17, w ∈ wsX8_firstBound := by
  intro w h; unfold wsX8_firstBound; simp only [List.mem_cons, List.mem_append]; simp only [h, true_or, or_true]
theorem lkX8_firstBound_156 : Cond.fieldLink RX8 156 (TX7 9).1 (TX7 9).2.1 (TX7 9).2.2.1 ∈ wsX8_firstBound := by decide +kernel
def fX8_firstBound_B21 (x4 : Int32) (M : Mem) : Option ((Int32 × Mem) ⊕ ((Mem) ⊕ (Int32 × Mem))) :=
  if (160 : Int32) < x4 then
  (some (.inr (.inl M)))
  else
  ((fX4_nextYear 76 6 M).bind fun v7 =>
  (fX4_nextYear 78 6 M).bind fun v9 =>
  nq_lt (if v9 < v7 then v9 else v7) fun v10 =>
  nq_lt (M 2 9) fun v11 =>
  if v10 ≤ v11 then
  ((fX4_pass 76 6 v10 M).bind fun M14 =>
  (fX4_pass 78 6 v10 M14).bind fun M16 =>
  (fX4_isBound 76 6 M16).bind fun v18 =>
  if v18 = 0 then
  (nq_lt (x4 + (1 : Int32)) fun v20 =>
  some (.inl (v20, M16)))
  else
  ((fX4_isBound 78 6 M16).bind fun v22 =>
  if v22 = 0 then
  (nq_lt (x4 + (1 : Int32)) fun v24 =>
  some (.inl (v24, M16)))
  else
  (some (.inr (.inr (v10, M16))))))
  else
  (some (.inr (.inr ((-1 : Int32), M)))))
set_option maxHeartbeats 4000000 in
theorem mX8_firstBound_B21 {X : Cx} {E : Ev} {l : Launch} {K : List Sh} {x4 : Int32} {M : Mem} (hL : nq_atNine E K) (hX : nq_OK X E l (nq_rm 5) cX8_firstBound 6 RX8 wsX8_firstBound) {x : (Int32 × Mem) ⊕ ((Mem) ⊕ (Int32 × Mem))} (hc : ∀ s' : Int32 × Mem, x = .inl s' → nq_G X E 6 21 [(0, .ref (nq_ad E 0)), (4, .int s'.1)] [] K s'.2) (he : ∀ s' : Mem, x = .inr (.inl s') → nq_G X E 6 109 [] [] K s') (hret : ∀ r : Int32 × Mem, x = .inr (.inr r) → nq_RT X E (some .int) (some (.int r.1)) K r.2) (h : fX8_firstBound_B21 x4 M = some x) : nq_G X E 6 21 [(0, .ref (nq_ad E 0)), (4, .int x4)] [] K M := by
  unfold fX8_firstBound_B21 at h
  refine nq_iload hX 1 rfl dX8_firstBound_21 ?_
  refine nq_sipush hX (v := 160) (by decide) dX8_firstBound_23 ?_
  refine nq_icmp_gt hX (tgt := 109) (by decide) dX8_firstBound_26 (fun c5 => ?_) (fun c5 => ?_)
  · rw [if_pos c5] at h
    refine nq_sub (lv' := []) [] rfl ?_
    exact he M (nq_sE h).symm
  · rw [if_neg c5] at h
    refine nq_aload_n hX rfl 0 rfl dX8_firstBound_29 ?_
    refine nq_getr (v := .ref (nq_ad E 76)) hX inX8_firstBound_8 (nq_Nine_0 hL) rfl 4 (by decide) lkX8_firstBound_36 _ rfl rfl dX8_firstBound_30 ?_
    obtain ⟨v7, hc6, h⟩ := nq_bE h
    refine nq_callVi hX (tX4_nextYear (nq_Nine_standing hL) hc6) gX8_firstBound_X4_nextYear rfl rfl dsX4_nextYear (by decide) (nq_Standing_0 (nq_Nine_standing hL)) rfl rfl (Nat.le_of_ble_eq_true rfl) dX8_firstBound_33 ?_
    refine nq_aload_n hX rfl 0 rfl dX8_firstBound_36 ?_
    refine nq_getr (v := .ref (nq_ad E 78)) hX inX8_firstBound_8 (nq_Nine_0 hL) rfl 5 (by decide) lkX8_firstBound_40 _ rfl rfl dX8_firstBound_37 ?_
    obtain ⟨v9, hc8, h⟩ := nq_bE h
    refine nq_callVi hX (tX4_nextYear (nq_Nine_otherStanding hL) hc8) gX8_firstBound_X4_nextYear rfl rfl dsX4_nextYear (by decide) (nq_Standing_0 (nq_Nine_otherStanding hL)) rfl rfl (Nat.le_of_ble_eq_true rfl) dX8_firstBound_40 ?_
    refine nq_mmin hX mmX8_firstBound_k341 mmX8_firstBound_stmin mmX8_firstBound_im mmX8_firstBound_cdmin (by decide) (Nat.le_of_ble_eq_true rfl) dX8_firstBound_43 ?_
    obtain ⟨v10, e10, h⟩ := nq_ltE h
    rw [← e10]
    refine nq_istore hX (lv' := [(5, .int v10), (0, .ref (nq_ad E 0)), (4, .int x4)]) (by decide) rfl rfl dX8_firstBound_46 ?_
    refine nq_iload hX 0 rfl dX8_firstBound_48 ?_
    refine nq_aload_n hX rfl 1 rfl dX8_firstBound_50 ?_
    refine nq_getr (v := .ref (nq_ad E 2)) hX inX8_firstBound_8 (nq_Nine_0 hL) rfl 1 (by decide) lkX8_firstBound_16 _ rfl rfl dX8_firstBound_51 ?_
    obtain ⟨v11, e11, h⟩ := nq_ltE h
    refine nq_geti hX inX8_firstBound_7 (nq_World_0 (nq_Nine_world hL)) rfl 9 (by decide) lkX8_firstBound_156 rfl e11 dX8_firstBound_54 ?_
    refine nq_icmp_le hX (tgt := 62) (by decide) dX8_firstBound_57 (fun c12 => ?_) (fun c12 => ?_)
    · rw [if_pos c12] at h
      refine nq_aload_n hX rfl 1 rfl dX8_firstBound_62 ?_
      refine nq_getr (v := .ref (nq_ad E 76)) hX inX8_firstBound_8 (nq_Nine_0 hL) rfl 4 (by decide) lkX8_firstBound_36 _ rfl rfl dX8_firstBound_63 ?_
      refine nq_iload hX 0 rfl dX8_firstBound_66 ?_
      obtain ⟨M14, hc13, h⟩ := nq_bE h
      refine nq_callVv hX (tX4_pass (nq_Nine_standing hL) hc13) gX8_firstBound_X4_pass rfl rfl dsX4_pass (by decide) (nq_Standing_0 (nq_Nine_standing hL)) rfl rfl (Nat.le_of_ble_eq_true rfl) dX8_firstBound_68 ?_
      refine nq_aload_n hX rfl 1 rfl dX8_firstBound_71 ?_
      refine nq_getr (v := .ref (nq_ad E 78)) hX inX8_firstBound_8 (nq_Nine_0 hL) rfl 5 (by decide) lkX8_firstBound_40 _ rfl rfl dX8_firstBound_72 ?_
      refine nq_iload hX 0 rfl dX8_firstBound_75 ?_
      obtain ⟨M16, hc15, h⟩ := nq_bE h
      refine nq_callVv hX (tX4_pass (nq_Nine_otherStanding hL) hc15) gX8_firstBound_X4_pass rfl rfl dsX4_pass (by decide) (nq_Standing_0 (nq_Nine_otherStanding hL)) rfl rfl (Nat.le_of_ble_eq_true rfl) dX8_firstBound_77 ?_
      refine nq_aload_n hX rfl 1 rfl dX8_firstBound_80 ?_
      refine nq_getr (v := .ref (nq_ad E 76)) hX inX8_firstBound_8 (nq_Nine_0 hL) rfl 4 (by decide) lkX8_firstBound_36 _ rfl rfl dX8_firstBound_81 ?_
      obtain ⟨v18, hc17, h⟩ := nq_bE h
      refine nq_callVi hX (tX4_isBound (nq_Nine_standing hL) hc17) gX8_firstBound_X4_isBound rfl rfl dsX4_isBound (by decide) (nq_Standing_0 (nq_Nine_standing hL)) rfl rfl (Nat.le_of_ble_eq_true rfl) dX8_firstBound_84 ?_
      refine nq_if_eq hX (tgt := 103) (by decide) dX8_firstBound_87 (fun c19 => ?_) (fun c19 => ?_)
      · rw [if_pos c19] at h
        obtain ⟨v20, e20, h⟩ := nq_ltE h
        refine nq_iinc hX (lv' := [(4, .int v20), (5, .int v10), (0, .ref (nq_ad E 0))]) (j := 2) rfl (e20.trans rfl) (by decide) rfl dX8_firstBound_103 ?_
        refine nq_goto hX (tgt := 21) (by decide) dX8_firstBound_106 ?_
        refine nq_sub (lv' := [(0, .ref (nq_ad E 0)), (4, .int v20)]) [2, 0] rfl ?_
        exact hc (v20, M16) (nq_sE h).symm
      · rw [if_neg c19] at h
        refine nq_aload_n hX rfl 1 rfl dX8_firstBound_90 ?_
        refine nq_getr (v := .ref (nq_ad E 78)) hX inX8_firstBound_8 (nq_Nine_0 hL) rfl 5 (by decide) lkX8_firstBound_40 _ rfl rfl dX8_firstBound_91 ?_
        obtain ⟨v22, hc21, h⟩ := nq_bE h
        refine nq_callVi hX (tX4_isBound (nq_Nine_otherStanding hL) hc21) gX8_firstBound_X4_isBound rfl rfl dsX4_isBound (by decide) (nq_Standing_0 (nq_Nine_otherStanding hL)) rfl rfl (Nat.le_of_ble_eq_true rfl) dX8_firstBound_94 ?_
        refine nq_if_eq hX (tgt := 103) (by decide) dX8_firstBound_97 (fun c23 => ?_) (fun c23 => ?_)
        · rw [if_pos c23] at h
          obtain ⟨v24, e24, h⟩ := nq_ltE h
          refine nq_iinc hX (lv' := [(4, .int v24), (5, .int v10), (0, .ref (nq_ad E 0))]) (j := 2) rfl (e24.trans rfl) (by decide) rfl dX8_firstBound_103 ?_
          refine nq_goto hX (tgt := 21) (by decide) dX8_firstBound_106 ?_
          refine nq_sub (lv' := [(0, .ref (nq_ad E 0)), (4, .int v24)]) [2, 0] rfl ?_
          exact hc (v24, M16) (nq_sE h).symm
        · rw [if_neg c23] at h
          refine nq_iload hX 0 rfl dX8_firstBound_100 ?_
          exact nq_iret hX (hret (v10, M16) (nq_sE h).symm) dX8_firstBound_102
    · rw [if_neg c12] at h
      refine nq_iconst hX (v := -1) (by decide) dX8_firstBound_60 ?_
      exact nq_iret hX (hret ((-1 : Int32), M) (nq_sE h).symm) dX8_firstBound_61
def fX8_firstBound_L109 (M : Mem) : Option (Int32 × Mem) :=
  some ((-1 : Int32), M)
set_option maxHeartbeats 4000000 in
theorem mX8_firstBound_L109 {X : Cx} {E : Ev} {l : Launch} {K : List Sh} {M : Mem} {r : Int32} {M' : Mem} (hL : nq_atNine E K) (hX : nq_OK X E l (nq_rm 5) cX8_firstBound 6 RX8 wsX8_firstBound) (hr : nq_RT X E (some .int) (some (.int r)) K M') (h : fX8_firstBound_L109 M = some (r, M')) : nq_G X E 6 109 [] [] K M := by
  unfold fX8_firstBound_L109 at h
  refine nq_iconst hX (v := -1) (by decide) dX8_firstBound_109 ?_
  obtain ⟨rfl, rfl⟩ := nq_sE2 h; exact nq_iret hX hr dX8_firstBound_110
def fX8_firstBound_L21 (x4 : Int32) (M : Mem) : Option (Int32 × Mem) :=
  (nq_lp (fun s : Int32 × Mem => fX8_firstBound_B21 s.1 s.2) nq_fuel (x4, M)).bind (Sum.elim (fun e => fX8_firstBound_L109 e) (fun r1 => some r1))
set_option maxHeartbeats 4000000 in
theorem mX8_firstBound_L21 {X : Cx} {E : Ev} {l : Launch} {K : List Sh} {x4 : Int32} {M : Mem} {r : Int32} {M' : Mem} (hL : nq_atNine E K) (hX : nq_OK X E l (nq_rm 5) cX8_firstBound 6 RX8 wsX8_firstBound) (hr : nq_RT X E (some .int) (some (.int r)) K M') (h : fX8_firstBound_L21 x4 M = some (r, M')) : nq_G X E 6 21 [(0, .ref (nq_ad E 0)), (4, .int x4)] [] K M := by
  unfold fX8_firstBound_L21 at h
  obtain ⟨e, h1, h⟩ := nq_bE h
  have key : ∀ (ex : (Mem) ⊕ (Int32 × Mem)), nq_lp (fun s : Int32 × Mem => fX8_firstBound_B21 s.1 s.2) nq_fuel (x4, M) = some ex → (∀ e, ex = .inl e → nq_G X E 6 109 [] [] K e) → (∀ r, ex = .inr r → nq_RT X E (some .int) (some (.int r.1)) K r.2) → nq_G X E 6 21 [(0, .ref (nq_ad E 0)), (4, .int ((x4, M).1))] [] K (x4, M).2 := by
    intro ex h1 hE hR
    refine nq_lpE (P := fun s : Int32 × Mem => nq_G X E 6 21 [(0, .ref (nq_ad E 0)), (4, .int s.1)] [] K s.2) (r := ex) ?_ nq_fuel (x4, M) h1
    intro s xx hx1 hc1 he1
    exact mX8_firstBound_B21 hL hX hc1 (fun e q => hE e (he1 _ q).symm) (fun r q => hR r (he1 _ q).symm) hx1
  refine key e h1 (fun e q => ?_) (fun r1 q => ?_)
  · subst q
    have h : fX8_firstBound_L109 e = some (r, M') := h
    exact mX8_firstBound_L109 hL hX hr h
  · subst q
    have h : some r1 = some (r, M') := h
    obtain rfl := nq_sE1 h; exact hr
def fX8_firstBound (x1 : Int32) (x2 : Int32) (x3 : Int32) (M : Mem) : Option (Int32 × Mem) :=
  (fX4_begin 76 6 x1 x3 M).bind fun M2 =>
  (fX4_begin 78 6 x2 x3 M2).bind fun M4 =>
  fX8_firstBound_L21 (0 : Int32) M4
set_option maxHeartbeats 4000000 in
theorem mX8_firstBound {X : Cx} {E : Ev} {l : Launch} {K : List Sh} {x1 : Int32} {x2 : Int32} {x3 : Int32} {M : Mem} {r : Int32} {M' : Mem} (hL : nq_atNine E K) (hX : nq_OK X E l (nq_rm 5) cX8_firstBound 6 RX8 wsX8_firstBound) (hr : nq_RT X E (some .int) (some (.int r)) K M') (h : fX8_firstBound x1 x2 x3 M = some (r, M')) : nq_G X E 6 0 [(0, .ref (nq_ad E 0)), (1, .int x1), (2, .int x2), (3, .int x3)] [] K M := by
  unfold fX8_firstBound at h
  refine nq_aload_n hX rfl 0 rfl dX8_firstBound_0 ?_
  refine nq_getr (v := .ref (nq_ad E 76)) hX inX8_firstBound_8 (nq_Nine_0 hL) rfl 4 (by decide) lkX8_firstBound_36 _ rfl rfl dX8_firstBound_1 ?_
  refine nq_iload_n hX rfl 1 rfl dX8_firstBound_4 ?_
  refine nq_iload_n hX rfl 3 rfl dX8_firstBound_5 ?_
  obtain ⟨M2, hc1, h⟩ := nq_bE h
  refine nq_callVv hX (tX4_begin (nq_Nine_standing hL) hc1) gX8_firstBound_X4_begin rfl rfl dsX4_begin (by decide) (nq_Standing_0 (nq_Nine_standing hL)) rfl rfl (Nat.le_of_ble_eq_true rfl) dX8_firstBound_6 ?_
  refine nq_aload_n hX rfl 0 rfl dX8_firstBound_9 ?_
  refine nq_getr (v := .ref (nq_ad E 78)) hX inX8_firstBound_8 (nq_Nine_0 hL) rfl 5 (by decide) lkX8_firstBound_40 _ rfl rfl dX8_firstBound_10 ?_
  refine nq_iload_n hX rfl 2 rfl dX8_firstBound_13 ?_
  refine nq_iload_n hX rfl 3 rfl dX8_firstBound_14 ?_
  obtain ⟨M4, hc3, h⟩ := nq_bE h
  refine nq_callVv hX (tX4_begin (nq_Nine_otherStanding hL) hc3) gX8_firstBound_X4_begin rfl rfl dsX4_begin (by decide) (nq_Standing_0 (nq_Nine_otherStanding hL)) rfl rfl (Nat.le_of_ble_eq_true rfl) dX8_firstBound_15 ?_
  refine nq_iconst hX (v := 0) (by decide) dX8_firstBound_18 ?_
  refine nq_istore hX (lv' := [(4, .int (0 : Int32)), (0, .ref (nq_ad E 0)), (1, .int x1), (2, .int x2), (3, .int x3)]) (by decide) rfl rfl dX8_firstBound_19 ?_
  refine nq_sub (lv' := [(0, .ref (nq_ad E 0)), (4, .int (0 : Int32))]) [1, 0] rfl ?_
  exact mX8_firstBound_L21 hL hX hr h
theorem dsX8_firstBound : yX8_firstBound.cls ≠ "java/lang/invoke/MethodHandle" ∧ yX8_firstBound.cls ≠ "java/lang/invoke/VarHandle" ∧ (parseMethodDescriptor yX8_firstBound.desc).map (fun d => d.parameters.length) = some 3 := by decide +kernel
theorem tX8_firstBound {l : Launch} {E : Ev} {K : List Sh} {x1 : Int32} {x2 : Int32} {x3 : Int32} {M : Mem} {r : Int32} {M' : Mem} (hL : nq_atNine E K) (h : fX8_firstBound x1 x2 x3 M = some (r, M')) : nq_MA l E yX8_firstBound wsX8_firstBound (nq_rm 5) [.ref (nq_ad E 0), .int x1, .int x2, .int x3] K M (some (.int r)) K M' :=
  nq_met (own := RX8) (cc := cX8_firstBound) (maxL := 6) (ret := (some .int)) (by decide) rfl rfl (Nat.le_of_ble_eq_true rfl) (fun X hX hr => mX8_firstBound hL hX hr h)

def fX8_made (x1 : Int32) (x2 : Int32) (x3 : Int32) (M : Mem) : Option (Int32 × Mem) :=
  (fX8_areTwo x1 x2 M).bind fun v2 =>
  if v2 = 0 then
  (nq_b2 (fX8_refuse (1 : Int32) M) fun v5 M6 =>
  some (v5, M6))
  else
  ((fX8_isPact x3 M).bind fun v8 =>
  if v8 = 0 then
  (nq_b2 (fX8_refuse (1 : Int32) M) fun v11 M12 =>
  some (v11, M12))
  else
  (nq_b2 (fX8_firstBound x1 x2 x3 M) fun v14 M15 =>
  if 0 ≤ v14 then
  (some (v14, M15))
  else
  (nq_b2 (fX8_refuse (2 : Int32) M15) fun v18 M19 =>
  some (v18, M19))))
set_option maxHeartbeats 4000000 in
theorem mX8_made {X : Cx} {E : Ev} {l : Launch} {K : List Sh} {x1 : Int32} {x2 : Int32} {x3 : Int32} {M : Mem} {r : Int32} {M' : Mem} (hL : nq_atNine E K) (hX : nq_OK X E l (nq_rm 6) cX8_made 5 RX8 wsX8_made) (hr : nq_RT X E (some .int) (some (.int r)) K M') (h : fX8_made x1 x2 x3 M = some (r, M')) : nq_G X E 5 0 [(0, .ref (nq_ad E 0)), (1, .int x1), (2, .int x2), (3, .int x3)] [] K M := by
  unfold fX8_made at h
  refine nq_aload_n hX rfl 0 rfl dX8_made_0 ?_
  refine nq_iload_n hX rfl 1 rfl dX8_made_1 ?_
  refine nq_iload_n hX rfl 2 rfl dX8_made_2 ?_
  obtain ⟨v2, hc1, h⟩ := nq_bE h
  refine nq_callVi hX (tX8_areTwo hL hc1) gX8_made_X8_areTwo rfl rfl dsX8_areTwo (by decide) (nq_Nine_0 hL) rfl rfl (Nat.le_of_ble_eq_true rfl) dX8_made_3 ?_
  refine nq_if_eq hX (tgt := 16) (by decide) dX8_made_6 (fun c3 => ?_) (fun c3 => ?_)
  · rw [if_pos c3] at h
    refine nq_aload_n hX rfl 0 rfl dX8_made_16 ?_
    refine nq_iconst hX (v := 1) (by decide) dX8_made_17 ?_
    obtain ⟨v5, M6, hc4, h⟩ := nq_b2E h
    refine nq_callVi hX (tX8_refuse hL hc4) gX8_made_X8_refuse rfl rfl dsX8_refuse (by decide) (nq_Nine_0 hL) rfl rfl (Nat.le_of_ble_eq_true rfl) dX8_made_18 ?_
    obtain ⟨rfl, rfl⟩ := nq_sE2 h; exact nq_iret hX hr dX8_made_21
  · rw [if_neg c3] at h
    refine nq_iload_n hX rfl 3 rfl dX8_made_9 ?_
    obtain ⟨v8, hc7, h⟩ := nq_bE h
    refine nq_callSi hX (tX8_isPact  hc7) gX8_made_X8_isPact rfl rfl dsX8_isPact (by decide) rfl (Nat.le_of_ble_eq_true rfl) dX8_made_10 ?_
    refine nq_if_ne hX (tgt := 22) (by decide) dX8_made_13 (fun c9 => ?_) (fun c9 => ?_)
    · rw [if_pos c9] at h
      refine nq_aload_n hX rfl 0 rfl dX8_made_16 ?_
      refine nq_iconst hX (v := 1) (by decide) dX8_made_17 ?_
      obtain ⟨v11, M12, hc10, h⟩ := nq_b2E h
      refine nq_callVi hX (tX8_refuse hL hc10) gX8_made_X8_refuse rfl rfl dsX8_refuse (by decide) (nq_Nine_0 hL) rfl rfl (Nat.le_of_ble_eq_true rfl) dX8_made_18 ?_
      obtain ⟨rfl, rfl⟩ := nq_sE2 h; exact nq_iret hX hr dX8_made_21
    · rw [if_neg c9] at h
      refine nq_aload_n hX rfl 0 rfl dX8_made_22 ?_
      refine nq_iload_n hX rfl 1 rfl dX8_made_23 ?_
      refine nq_iload_n hX rfl 2 rfl dX8_made_24 ?_
      refine nq_iload_n hX rfl 3 rfl dX8_made_25 ?_
      obtain ⟨v14, M15, hc13, h⟩ := nq_b2E h
      refine nq_callVi hX (tX8_firstBound hL hc13) gX8_made_X8_firstBound rfl rfl dsX8_firstBound (by decide) (nq_Nine_0 hL) rfl rfl (Nat.le_of_ble_eq_true rfl) dX8_made_26 ?_
      refine nq_istore hX (lv' := [(4, .int v14), (0, .ref (nq_ad E 0)), (1, .int x1), (2, .int x2), (3, .int x3)]) (by decide) rfl rfl dX8_made_29 ?_
      refine nq_iload hX 0 rfl dX8_made_31 ?_
      refine nq_if_ge hX (tgt := 44) (by decide) dX8_made_33 (fun c16 => ?_) (fun c16 => ?_)
      · rw [if_pos c16] at h
        refine nq_iload hX 0 rfl dX8_made_44 ?_
        obtain ⟨rfl, rfl⟩ := nq_sE2 h; exact nq_iret hX hr dX8_made_46
      · rw [if_neg c16] at h
        refine nq_aload_n hX rfl 1 rfl dX8_made_36 ?_
        refine nq_iconst hX (v := 2) (by decide) dX8_made_37 ?_
        obtain ⟨v18, M19, hc17, h⟩ := nq_b2E h
        refine nq_callVi hX (tX8_refuse hL hc17) gX8_made_X8_refuse rfl rfl dsX8_refuse (by decide) (nq_Nine_0 hL) rfl rfl (Nat.le_of_ble_eq_true rfl) dX8_made_38 ?_
        refine nq_goto hX (tgt := 46) (by decide) dX8_made_41 ?_
        obtain ⟨rfl, rfl⟩ := nq_sE2 h; exact nq_iret hX hr dX8_made_46
theorem dsX8_made : yX8_made.cls ≠ "java/lang/invoke/MethodHandle" ∧ yX8_made.cls ≠ "java/lang/invoke/VarHandle" ∧ (parseMethodDescriptor yX8_made.desc).map (fun d => d.parameters.length) = some 3 := by decide +kernel
theorem tX8_made {l : Launch} {E : Ev} {K : List Sh} {x1 : Int32} {x2 : Int32} {x3 : Int32} {M : Mem} {r : Int32} {M' : Mem} (hL : nq_atNine E K) (h : fX8_made x1 x2 x3 M = some (r, M')) : nq_MA l E yX8_made wsX8_made (nq_rm 6) [.ref (nq_ad E 0), .int x1, .int x2, .int x3] K M (some (.int r)) K M' :=
  nq_met (own := RX8) (cc := cX8_made) (maxL := 5) (ret := (some .int)) (by decide) rfl rfl (Nat.le_of_ble_eq_true rfl) (fun X hX hr => mX8_made hL hX hr h)

theorem inX8_knows_8 : ∀ w ∈ u_ws RX8 TX8 11, w ∈ wsX8_knows := by
  intro w h; unfold wsX8_knows; simp only [List.mem_cons, List.mem_append]; simp only [h, true_or, or_true]
theorem lkX8_knows_16 : Cond.fieldLink RX8 16 (TX8 1).1 (TX8 1).2.1 (TX8 1).2.2.1 ∈ wsX8_knows := by decide +kernel
theorem inX8_knows_7 : ∀ w ∈ u_ws RX7 TX7 17, w ∈ wsX8_knows := by
  intro w h; unfold wsX8_knows; simp only [List.mem_cons, List.mem_append]; simp only [h, true_or, or_true]
theorem lkX8_knows_29 : Cond.fieldLink RX8 29 (TX7 1).1 (TX7 1).2.1 (TX7 1).2.2.1 ∈ wsX8_knows := by decide +kernel
def fX8_knows (x1 : Int32) (x2 : Int32) (x3 : Int32) (M : Mem) : Option (Int32 × Mem) :=
  (fX8_isPlace x1 M).bind fun v2 =>
  if v2 = 0 then
  (nq_b2 (fX8_refuse (1 : Int32) M) fun v5 M6 =>
  some (v5, M6))
  else
  ((fX8_isPact x2 M).bind fun v8 =>
  if v8 = 0 then
  (nq_b2 (fX8_refuse (1 : Int32) M) fun v11 M12 =>
  some (v11, M12))
  else
  ((fX8_isOutside x3 (0 : Int32) (399 : Int32) M).bind fun v14 =>
  if v14 = 0 then
  ((fX0_deepest 6 x1 x2 x3 M).bind fun v17 =>
  some (v17, M))
  else
  (nq_b2 (fX8_refuse (1 : Int32) M) fun v19 M20 =>
  some (v19, M20))))
set_option maxHeartbeats 4000000 in
theorem mX8_knows {X : Cx} {E : Ev} {l : Launch} {K : List Sh} {x1 : Int32} {x2 : Int32} {x3 : Int32} {M : Mem} {r : Int32} {M' : Mem} (hL : nq_atNine E K) (hX : nq_OK X E l (nq_rm 3) cX8_knows 4 RX8 wsX8_knows) (hr : nq_RT X E (some .int) (some (.int r)) K M') (h : fX8_knows x1 x2 x3 M = some (r, M')) : nq_G X E 4 0 [(0, .ref (nq_ad E 0)), (1, .int x1), (2, .int x2), (3, .int x3)] [] K M := by
  unfold fX8_knows at h
  refine nq_aload_n hX rfl 0 rfl dX8_knows_0 ?_
  refine nq_iload_n hX rfl 1 rfl dX8_knows_1 ?_
  obtain ⟨v2, hc1, h⟩ := nq_bE h
  refine nq_callVi hX (tX8_isPlace hL hc1) gX8_knows_X8_isPlace rfl rfl dsX8_isPlace (by decide) (nq_Nine_0 hL) rfl rfl (Nat.le_of_ble_eq_true rfl) dX8_knows_2 ?_
  refine nq_if_eq hX (tgt := 26) (by decide) dX8_knows_5 (fun c3 => ?_) (fun c3 => ?_)
  · rw [if_pos c3] at h
    refine nq_aload_n hX rfl 0 rfl dX8_knows_26 ?_
    refine nq_iconst hX (v := 1) (by decide) dX8_knows_27 ?_
    obtain ⟨v5, M6, hc4, h⟩ := nq_b2E h
    refine nq_callVi hX (tX8_refuse hL hc4) gX8_knows_X8_refuse rfl rfl dsX8_refuse (by decide) (nq_Nine_0 hL) rfl rfl (Nat.le_of_ble_eq_true rfl) dX8_knows_28 ?_
    obtain ⟨rfl, rfl⟩ := nq_sE2 h; exact nq_iret hX hr dX8_knows_31
  · rw [if_neg c3] at h
    refine nq_iload_n hX rfl 2 rfl dX8_knows_8 ?_
    obtain ⟨v8, hc7, h⟩ := nq_bE h
    refine nq_callSi hX (tX8_isPact  hc7) gX8_knows_X8_isPact rfl rfl dsX8_isPact (by decide) rfl (Nat.le_of_ble_eq_true rfl) dX8_knows_9 ?_
    refine nq_if_eq hX (tgt := 26) (by decide) dX8_knows_12 (fun c9 => ?_) (fun c9 => ?_)
    · rw [if_pos c9] at h
      refine nq_aload_n hX rfl 0 rfl dX8_knows_26 ?_
      refine nq_iconst hX (v := 1) (by decide) dX8_knows_27 ?_
      obtain ⟨v11, M12, hc10, h⟩ := nq_b2E h
      refine nq_callVi hX (tX8_refuse hL hc10) gX8_knows_X8_refuse rfl rfl dsX8_refuse (by decide) (nq_Nine_0 hL) rfl rfl (Nat.le_of_ble_eq_true rfl) dX8_knows_28 ?_
      obtain ⟨rfl, rfl⟩ := nq_sE2 h; exact nq_iret hX hr dX8_knows_31
    · rw [if_neg c9] at h
      refine nq_iload_n hX rfl 3 rfl dX8_knows_15 ?_
      refine nq_iconst hX (v := 0) (by decide) dX8_knows_16 ?_
      refine nq_sipush hX (v := 399) (by decide) dX8_knows_17 ?_
      obtain ⟨v14, hc13, h⟩ := nq_bE h
      refine nq_callSi hX (tX8_isOutside  hc13) gX8_knows_X8_isOutside rfl rfl dsX8_isOutside (by decide) rfl (Nat.le_of_ble_eq_true rfl) dX8_knows_20 ?_
      refine nq_if_eq hX (tgt := 32) (by decide) dX8_knows_23 (fun c15 => ?_) (fun c15 => ?_)
      · rw [if_pos c15] at h
        refine nq_aload_n hX rfl 0 rfl dX8_knows_32 ?_
        refine nq_getr (v := .ref (nq_ad E 2)) hX inX8_knows_8 (nq_Nine_0 hL) rfl 1 (by decide) lkX8_knows_16 _ rfl rfl dX8_knows_33 ?_
        refine nq_getr (v := .ref (nq_ad E 6)) hX inX8_knows_7 (nq_World_0 (nq_Nine_world hL)) rfl 1 (by decide) lkX8_knows_29 _ rfl rfl dX8_knows_36 ?_
        refine nq_iload_n hX rfl 1 rfl dX8_knows_39 ?_
        refine nq_iload_n hX rfl 2 rfl dX8_knows_40 ?_
        refine nq_iload_n hX rfl 3 rfl dX8_knows_41 ?_
        obtain ⟨v17, hc16, h⟩ := nq_bE h
        refine nq_callVi hX (tX0_deepest (nq_World_letters (nq_Nine_world hL)) hc16) gX8_knows_X0_deepest rfl rfl dsX0_deepest (by decide) (nq_Letters_0 (nq_World_letters (nq_Nine_world hL))) rfl rfl (Nat.le_of_ble_eq_true rfl) dX8_knows_42 ?_
        obtain ⟨rfl, rfl⟩ := nq_sE2 h; exact nq_iret hX hr dX8_knows_45
      · rw [if_neg c15] at h
        refine nq_aload_n hX rfl 0 rfl dX8_knows_26 ?_
        refine nq_iconst hX (v := 1) (by decide) dX8_knows_27 ?_
        obtain ⟨v19, M20, hc18, h⟩ := nq_b2E h
        refine nq_callVi hX (tX8_refuse hL hc18) gX8_knows_X8_refuse rfl rfl dsX8_refuse (by decide) (nq_Nine_0 hL) rfl rfl (Nat.le_of_ble_eq_true rfl) dX8_knows_28 ?_
        obtain ⟨rfl, rfl⟩ := nq_sE2 h; exact nq_iret hX hr dX8_knows_31
theorem dsX8_knows : yX8_knows.cls ≠ "java/lang/invoke/MethodHandle" ∧ yX8_knows.cls ≠ "java/lang/invoke/VarHandle" ∧ (parseMethodDescriptor yX8_knows.desc).map (fun d => d.parameters.length) = some 3 := by decide +kernel
theorem tX8_knows {l : Launch} {E : Ev} {K : List Sh} {x1 : Int32} {x2 : Int32} {x3 : Int32} {M : Mem} {r : Int32} {M' : Mem} (hL : nq_atNine E K) (h : fX8_knows x1 x2 x3 M = some (r, M')) : nq_MA l E yX8_knows wsX8_knows (nq_rm 3) [.ref (nq_ad E 0), .int x1, .int x2, .int x3] K M (some (.int r)) K M' :=
  nq_met (own := RX8) (cc := cX8_knows) (maxL := 4) (ret := (some .int)) (by decide) rfl rfl (Nat.le_of_ble_eq_true rfl) (fun X hX hr => mX8_knows hL hX hr h)

theorem inX8_feed_8 : ∀ w ∈ u_ws RX8 TX8 11, w ∈ wsX8_feed := by
  intro w h; unfold wsX8_feed; simp only [List.mem_cons, List.mem_append]; simp only [h, true_or, or_true]
theorem lkX8_feed_16 : Cond.fieldLink RX8 16 (TX8 1).1 (TX8 1).2.1 (TX8 1).2.2.1 ∈ wsX8_feed := by decide +kernel
theorem inX8_feed_7 : ∀ w ∈ u_ws RX7 TX7 17, w ∈ wsX8_feed := by
  intro w h; unfold wsX8_feed; simp only [List.mem_cons, List.mem_append]; simp only [h, true_or, or_true]
theorem lkX8_feed_193 : Cond.fieldLink RX8 193 (TX7 14).1 (TX7 14).2.1 (TX7 14).2.2.1 ∈ wsX8_feed := by decide +kernel
theorem lkX8_feed_196 : Cond.fieldLink RX8 196 (TX7 3).1 (TX7 3).2.1 (TX7 3).2.2.1 ∈ wsX8_feed := by decide +kernel
def fX8_feed_B39 (x1 : Int64) (x3 : Int32) (x4 : Int32) (M : Mem) : Option ((Int32 × Mem) ⊕ (Mem)) :=
  if x3 ≤ x4 then
  (some (.inr M))
  else
  (nq_lt (M 2 14) fun v7 =>
  (nq_as M 17 50 (v7 + x4) ((((x1.toUInt64 >>> (((8 : Int32) * x4).toInt64.toUInt64 &&& Int64.toUInt64 63)).toInt64).toInt32) &&& (255 : Int32))).bind fun M8 =>
  nq_lt (x4 + (1 : Int32)) fun v9 =>
  some (.inl (v9, M8)))
set_option maxHeartbeats 4000000 in
theorem mX8_feed_B39 {X : Cx} {E : Ev} {l : Launch} {K : List Sh} {x1 : Int64} {x3 : Int32} {x4 : Int32} {M : Mem} (hL : nq_atNine E K) (hX : nq_OK X E l (nq_rm 2) cX8_feed 5 RX8 wsX8_feed) {x : (Int32 × Mem) ⊕ (Mem)} (hc : ∀ s' : Int32 × Mem, x = .inl s' → nq_G X E 5 39 [(0, .ref (nq_ad E 0)), (1, .long x1), (3, .int x3), (4, .int s'.1)] [] K s'.2) (he : ∀ s' : Mem, x = .inr s' → nq_G X E 5 81 [(0, .ref (nq_ad E 0)), (3, .int x3)] [] K s') (h : fX8_feed_B39 x1 x3 x4 M = some x) : nq_G X E 5 39 [(0, .ref (nq_ad E 0)), (1, .long x1), (3, .int x3), (4, .int x4)] [] K M := by
  unfold fX8_feed_B39 at h
  refine nq_iload hX 3 rfl dX8_feed_39 ?_
  refine nq_iload_n hX rfl 2 rfl dX8_feed_41 ?_
  refine nq_icmp_ge hX (tgt := 81) (by decide) dX8_feed_42 (fun c6 => ?_) (fun c6 => ?_)
  · rw [if_pos c6] at h
    refine nq_sub (lv' := [(0, .ref (nq_ad E 0)), (3, .int x3)]) [0, 2] rfl ?_
    exact he M (nq_sE h).symm
  · rw [if_neg c6] at h
    refine nq_aload_n hX rfl 0 rfl dX8_feed_45 ?_
    refine nq_getr (v := .ref (nq_ad E 2)) hX inX8_feed_8 (nq_Nine_0 hL) rfl 1 (by decide) lkX8_feed_16 _ rfl rfl dX8_feed_46 ?_
    refine nq_getr (v := .ref (nq_ad E 17)) hX inX8_feed_7 (nq_World_0 (nq_Nine_world hL)) rfl 3 (by decide) lkX8_feed_196 _ rfl rfl dX8_feed_49 ?_
    refine nq_aload_n hX rfl 0 rfl dX8_feed_52 ?_
    refine nq_getr (v := .ref (nq_ad E 2)) hX inX8_feed_8 (nq_Nine_0 hL) rfl 1 (by decide) lkX8_feed_16 _ rfl rfl dX8_feed_53 ?_
    obtain ⟨v7, e7, h⟩ := nq_ltE h
    refine nq_geti hX inX8_feed_7 (nq_World_0 (nq_Nine_world hL)) rfl 14 (by decide) lkX8_feed_193 rfl e7 dX8_feed_56 ?_
    refine nq_iload hX 3 rfl dX8_feed_59 ?_
    refine nq_iadd hX dX8_feed_61 ?_
    refine nq_lload_n hX rfl 1 rfl dX8_feed_62 ?_
    refine nq_bipush hX (v := 8) (by decide) dX8_feed_63 ?_
    refine nq_iload hX 3 rfl dX8_feed_65 ?_
    refine nq_imul hX dX8_feed_67 ?_
    refine nq_lushr hX dX8_feed_68 ?_
    refine nq_l2i hX dX8_feed_69 ?_
    refine nq_sipush hX (v := 255) (by decide) dX8_feed_70 ?_
    refine nq_iand hX dX8_feed_73 ?_
    obtain ⟨M8, e8, hi8, h⟩ := nq_asE h
    refine nq_iast hX (nq_World_tape (nq_Nine_world hL)) e8 hi8 dX8_feed_74 ?_
    obtain ⟨v9, e9, h⟩ := nq_ltE h
    refine nq_iinc hX (lv' := [(4, .int v9), (0, .ref (nq_ad E 0)), (1, .long x1), (3, .int x3)]) (j := 3) rfl (e9.trans rfl) (by decide) rfl dX8_feed_75 ?_
    refine nq_goto hX (tgt := 39) (by decide) dX8_feed_78 ?_
    refine nq_sub (lv' := [(0, .ref (nq_ad E 0)), (1, .long x1), (3, .int x3), (4, .int v9)]) [1, 2, 3, 0] rfl ?_
    exact hc (v9, M8) (nq_sE h).symm
def fX8_feed_L81 (x3 : Int32) (M : Mem) : Option (Int32 × Mem) :=
  nq_lt (M 2 14) fun v10 =>
  nq_lt (nq_wr M 2 14 (v10 + x3)) fun M11 =>
  nq_lt (M11 2 14) fun v12 =>
  some (v12, M11)
set_option maxHeartbeats 4000000 in
theorem mX8_feed_L81 {X : Cx} {E : Ev} {l : Launch} {K : List Sh} {x3 : Int32} {M : Mem} {r : Int32} {M' : Mem} (hL : nq_atNine E K) (hX : nq_OK X E l (nq_rm 2) cX8_feed 5 RX8 wsX8_feed) (hr : nq_RT X E (some .int) (some (.int r)) K M') (h : fX8_feed_L81 x3 M = some (r, M')) : nq_G X E 5 81 [(0, .ref (nq_ad E 0)), (3, .int x3)] [] K M := by
  unfold fX8_feed_L81 at h
  refine nq_aload_n hX rfl 0 rfl dX8_feed_81 ?_
  refine nq_getr (v := .ref (nq_ad E 2)) hX inX8_feed_8 (nq_Nine_0 hL) rfl 1 (by decide) lkX8_feed_16 _ rfl rfl dX8_feed_82 ?_
  refine nq_dup hX rfl dX8_feed_85 ?_
  obtain ⟨v10, e10, h⟩ := nq_ltE h
  refine nq_geti hX inX8_feed_7 (nq_World_0 (nq_Nine_world hL)) rfl 14 (by decide) lkX8_feed_193 rfl e10 dX8_feed_86 ?_
  refine nq_iload_n hX rfl 1 rfl dX8_feed_89 ?_
  refine nq_iadd hX dX8_feed_90 ?_
  obtain ⟨M11, eM11, h⟩ := nq_ltE h
  refine nq_puti hX inX8_feed_7 tyX7 tyX7_ok nmX7 (nq_World_0 (nq_Nine_world hL)) rfl 14 (by decide) lkX8_feed_193 rfl rfl rfl rfl rfl eM11 dX8_feed_91 ?_
  refine nq_aload_n hX rfl 0 rfl dX8_feed_94 ?_
  refine nq_getr (v := .ref (nq_ad E 2)) hX inX8_feed_8 (nq_Nine_0 hL) rfl 1 (by decide) lkX8_feed_16 _ rfl rfl dX8_feed_95 ?_
  obtain ⟨v12, e12, h⟩ := nq_ltE h
  refine nq_geti hX inX8_feed_7 (nq_World_0 (nq_Nine_world hL)) rfl 14 (by decide) lkX8_feed_193 rfl e12 dX8_feed_98 ?_
  obtain ⟨rfl, rfl⟩ := nq_sE2 h; exact nq_iret hX hr dX8_feed_101
def fX8_feed_L39 (x1 : Int64) (x3 : Int32) (x4 : Int32) (M : Mem) : Option (Int32 × Mem) :=
  (nq_lp (fun s : Int32 × Mem => fX8_feed_B39 x1 x3 s.1 s.2) nq_fuel (x4, M)).bind (fun e => fX8_feed_L81 x3 e)
set_option maxHeartbeats 4000000 in
theorem mX8_feed_L39 {X : Cx} {E : Ev} {l : Launch} {K : List Sh} {x1 : Int64} {x3 : Int32} {x4 : Int32} {M : Mem} {r : Int32} {M' : Mem} (hL : nq_atNine E K) (hX : nq_OK X E l (nq_rm 2) cX8_feed 5 RX8 wsX8_feed) (hr : nq_RT X E (some .int) (some (.int r)) K M') (h : fX8_feed_L39 x1 x3 x4 M = some (r, M')) : nq_G X E 5 39 [(0, .ref (nq_ad E 0)), (1, .long x1), (3, .int x3), (4, .int x4)] [] K M := by
  unfold fX8_feed_L39 at h
  obtain ⟨e, h1, h⟩ := nq_bE h
  have key : ∀ (ex : Mem), nq_lp (fun s : Int32 × Mem => fX8_feed_B39 x1 x3 s.1 s.2) nq_fuel (x4, M) = some ex → (∀ e, ex = e → nq_G X E 5 81 [(0, .ref (nq_ad E 0)), (3, .int x3)] [] K e) → nq_G X E 5 39 [(0, .ref (nq_ad E 0)), (1, .long x1), (3, .int x3), (4, .int ((x4, M).1))] [] K (x4, M).2 := by
    intro ex h1 hE
    refine nq_lpE (P := fun s : Int32 × Mem => nq_G X E 5 39 [(0, .ref (nq_ad E 0)), (1, .long x1), (3, .int x3), (4, .int s.1)] [] K s.2) (r := ex) ?_ nq_fuel (x4, M) h1
    intro s xx hx1 hc1 he1
    exact mX8_feed_B39 hL hX hc1 (fun e q => hE e (he1 _ q).symm) hx1
  refine key e h1 (fun e q => ?_)
  subst q
  exact mX8_feed_L81 hL hX hr h
def fX8_feed (x1 : Int64) (x3 : Int32) (M : Mem) : Option (Int32 × Mem) :=
  (fX8_isOutside x3 (1 : Int32) (8 : Int32) M).bind fun v2 =>
  if v2 = 0 then
  (nq_lt (M 2 14) fun v4 =>
  if (v4 + x3) ≤ (50 : Int32) then
  (fX8_feed_L39 x1 x3 (0 : Int32) M)
  else
  (nq_b2 (fX8_refuse (4 : Int32) M) fun v14 M15 =>
  some (v14, M15)))
  else
  (nq_b2 (fX8_refuse (1 : Int32) M) fun v17 M18 =>
  some (v17, M18))
set_option maxHeartbeats 4000000 in
theorem mX8_feed {X : Cx} {E : Ev} {l : Launch} {K : List Sh} {x1 : Int64} {x3 : Int32} {M : Mem} {r : Int32} {M' : Mem} (hL : nq_atNine E K) (hX : nq_OK X E l (nq_rm 2) cX8_feed 5 RX8 wsX8_feed) (hr : nq_RT X E (some .int) (some (.int r)) K M') (h : fX8_feed x1 x3 M = some (r, M')) : nq_G X E 5 0 [(0, .ref (nq_ad E 0)), (1, .long x1), (3, .int x3)] [] K M := by
  unfold fX8_feed at h
  refine nq_iload_n hX rfl 2 rfl dX8_feed_0 ?_
  refine nq_iconst hX (v := 1) (by decide) dX8_feed_1 ?_
  refine nq_bipush hX (v := 8) (by decide) dX8_feed_2 ?_
  obtain ⟨v2, hc1, h⟩ := nq_bE h
  refine nq_callSi hX (tX8_isOutside  hc1) gX8_feed_X8_isOutside rfl rfl dsX8_isOutside (by decide) rfl (Nat.le_of_ble_eq_true rfl) dX8_feed_4 ?_
  refine nq_if_eq hX (tgt := 16) (by decide) dX8_feed_7 (fun c3 => ?_) (fun c3 => ?_)
  · rw [if_pos c3] at h
    refine nq_aload_n hX rfl 0 rfl dX8_feed_16 ?_
    refine nq_getr (v := .ref (nq_ad E 2)) hX inX8_feed_8 (nq_Nine_0 hL) rfl 1 (by decide) lkX8_feed_16 _ rfl rfl dX8_feed_17 ?_
    obtain ⟨v4, e4, h⟩ := nq_ltE h
    refine nq_geti hX inX8_feed_7 (nq_World_0 (nq_Nine_world hL)) rfl 14 (by decide) lkX8_feed_193 rfl e4 dX8_feed_20 ?_
    refine nq_iload_n hX rfl 2 rfl dX8_feed_23 ?_
    refine nq_iadd hX dX8_feed_24 ?_
    refine nq_bipush hX (v := 50) (by decide) dX8_feed_25 ?_
    refine nq_icmp_le hX (tgt := 36) (by decide) dX8_feed_27 (fun c5 => ?_) (fun c5 => ?_)
    · rw [if_pos c5] at h
      refine nq_iconst hX (v := 0) (by decide) dX8_feed_36 ?_
      refine nq_istore hX (lv' := [(4, .int (0 : Int32)), (0, .ref (nq_ad E 0)), (1, .long x1), (3, .int x3)]) (by decide) rfl rfl dX8_feed_37 ?_
      refine nq_sub (lv' := [(0, .ref (nq_ad E 0)), (1, .long x1), (3, .int x3), (4, .int (0 : Int32))]) [1, 2, 3, 0] rfl ?_
      exact mX8_feed_L39 hL hX hr h
    · rw [if_neg c5] at h
      refine nq_aload_n hX rfl 0 rfl dX8_feed_30 ?_
      refine nq_iconst hX (v := 4) (by decide) dX8_feed_31 ?_
      obtain ⟨v14, M15, hc13, h⟩ := nq_b2E h
      refine nq_callVi hX (tX8_refuse hL hc13) gX8_feed_X8_refuse rfl rfl dsX8_refuse (by decide) (nq_Nine_0 hL) rfl rfl (Nat.le_of_ble_eq_true rfl) dX8_feed_32 ?_
      obtain ⟨rfl, rfl⟩ := nq_sE2 h; exact nq_iret hX hr dX8_feed_35
  · rw [if_neg c3] at h
    refine nq_aload_n hX rfl 0 rfl dX8_feed_10 ?_
    refine nq_iconst hX (v := 1) (by decide) dX8_feed_11 ?_
    obtain ⟨v17, M18, hc16, h⟩ := nq_b2E h
    refine nq_callVi hX (tX8_refuse hL hc16) gX8_feed_X8_refuse rfl rfl dsX8_refuse (by decide) (nq_Nine_0 hL) rfl rfl (Nat.le_of_ble_eq_true rfl) dX8_feed_12 ?_
    obtain ⟨rfl, rfl⟩ := nq_sE2 h; exact nq_iret hX hr dX8_feed_15
theorem dsX8_feed : yX8_feed.cls ≠ "java/lang/invoke/MethodHandle" ∧ yX8_feed.cls ≠ "java/lang/invoke/VarHandle" ∧ (parseMethodDescriptor yX8_feed.desc).map (fun d => d.parameters.length) = some 2 := by decide +kernel
theorem tX8_feed {l : Launch} {E : Ev} {K : List Sh} {x1 : Int64} {x3 : Int32} {M : Mem} {r : Int32} {M' : Mem} (hL : nq_atNine E K) (h : fX8_feed x1 x3 M = some (r, M')) : nq_MA l E yX8_feed wsX8_feed (nq_rm 2) [.ref (nq_ad E 0), .long x1, .int x3] K M (some (.int r)) K M' :=
  nq_met (own := RX8) (cc := cX8_feed) (maxL := 5) (ret := (some .int)) (by decide) rfl rfl (Nat.le_of_ble_eq_true rfl) (fun X hX hr => mX8_feed hL hX hr h)

theorem inX8_text_8 : ∀ w ∈ u_ws RX8 TX8 11, w ∈ wsX8_text := by
  intro w h; unfold wsX8_text; simp only [List.mem_cons, List.mem_append]; simp only [h, true_or, or_true]
theorem lkX8_text_46 : Cond.fieldLink RX8 46 (TX8 6).1 (TX8 6).2.1 (TX8 6).2.2.1 ∈ wsX8_text := by decide +kernel
theorem lkX8_text_16 : Cond.fieldLink RX8 16 (TX8 1).1 (TX8 1).2.1 (TX8 1).2.2.1 ∈ wsX8_text := by decide +kernel
theorem inX8_text_7 : ∀ w ∈ u_ws RX7 TX7 17, w ∈ wsX8_text := by
  intro w h; unfold wsX8_text; simp only [List.mem_cons, List.mem_append]; simp only [h, true_or, or_true]
theorem lkX8_text_196 : Cond.fieldLink RX8 196 (TX7 3).1 (TX7 3).2.1 (TX7 3).2.2.1 ∈ wsX8_text := by decide +kernel
theorem lkX8_text_193 : Cond.fieldLink RX8 193 (TX7 14).1 (TX7 14).2.1 (TX7 14).2.2.1 ∈ wsX8_text := by decide +kernel
theorem lkX8_text_207 : Cond.fieldLink RX8 207 (TX7 2).1 (TX7 2).2.1 (TX7 2).2.2.1 ∈ wsX8_text := by decide +kernel
theorem inX8_text_1 : ∀ w ∈ u_ws RX1 TX1 6, w ∈ wsX8_text := by
  intro w h; unfold wsX8_text; simp only [List.mem_cons, List.mem_append]; simp only [h, true_or, or_true]
theorem lkX8_text_211 : Cond.fieldLink RX8 211 (TX1 0).1 (TX1 0).2.1 (TX1 0).2.2.1 ∈ wsX8_text := by decide +kernel
theorem lkX8_text_214 : Cond.fieldLink RX8 214 (TX1 1).1 (TX1 1).2.1 (TX1 1).2.2.1 ∈ wsX8_text := by decide +kernel
def fX8_text_L47 (x1 : Int32) (s0 : Int32) (s1 : Int32) (M : Mem) : Option (Int32 × Mem) :=
  nq_b2 (fX1_read 80 17 s1 s0 M) fun v7 M8 =>
  nq_lt (nq_wr M8 2 14 (0 : Int32)) fun M9 =>
  if v7 < 0 then
  ((nq_ar 23 8 x1).bind fun q11 =>
  nq_lt (M9 80 1) fun v12 =>
  (fX5_become q11 81 v12 M9).bind fun M14 =>
  some ((1 : Int32), M14))
  else
  (some (((-10 : Int32) - v7), M9))
set_option maxHeartbeats 4000000 in
theorem mX8_text_L47 {X : Cx} {E : Ev} {l : Launch} {K : List Sh} {x1 : Int32} {s0 : Int32} {s1 : Int32} {M : Mem} {r : Int32} {M' : Mem} (hL : nq_atNine E K) (hX : nq_OK X E l (nq_rm 110) cX8_text 3 RX8 wsX8_text) (hr : nq_RT X E (some .int) (some (.int r)) K M') (h : fX8_text_L47 x1 s0 s1 M = some (r, M')) : nq_G X E 3 47 [(0, .ref (nq_ad E 0)), (1, .int x1)] [.ref (nq_xa E s0.toNatClampNeg), .int s1, .ref (nq_ad E 17), .ref (nq_ad E 80)] K M := by
  unfold fX8_text_L47 at h
  obtain ⟨v7, M8, hc6, h⟩ := nq_b2E h
  refine nq_callVi hX (tX1_read (nq_Nine_reader hL) hc6) gX8_text_X1_read rfl rfl dsX1_read (by decide) (nq_Reader_0 (nq_Nine_reader hL)) rfl rfl (Nat.le_of_ble_eq_true rfl) dX8_text_47 ?_
  refine nq_istore_n hX (lv' := [(2, .int v7), (0, .ref (nq_ad E 0)), (1, .int x1)]) rfl (by decide) rfl rfl dX8_text_50 ?_
  refine nq_aload_n hX rfl 1 rfl dX8_text_51 ?_
  refine nq_getr (v := .ref (nq_ad E 2)) hX inX8_text_8 (nq_Nine_0 hL) rfl 1 (by decide) lkX8_text_16 _ rfl rfl dX8_text_52 ?_
  refine nq_iconst hX (v := 0) (by decide) dX8_text_55 ?_
  obtain ⟨M9, eM9, h⟩ := nq_ltE h
  refine nq_puti hX inX8_text_7 tyX7 tyX7_ok nmX7 (nq_World_0 (nq_Nine_world hL)) rfl 14 (by decide) lkX8_text_193 rfl rfl rfl rfl rfl eM9 dX8_text_56 ?_
  refine nq_iload_n hX rfl 0 rfl dX8_text_59 ?_
  refine nq_if_lt hX (tgt := 68) (by decide) dX8_text_60 (fun c10 => ?_) (fun c10 => ?_)
  · rw [if_pos c10] at h
    refine nq_aload_n hX rfl 1 rfl dX8_text_68 ?_
    refine nq_getr (v := .ref (nq_ad E 2)) hX inX8_text_8 (nq_Nine_0 hL) rfl 1 (by decide) lkX8_text_16 _ rfl rfl dX8_text_69 ?_
    refine nq_getr (v := .ref (nq_ad E 16)) hX inX8_text_7 (nq_World_0 (nq_Nine_world hL)) rfl 2 (by decide) lkX8_text_207 _ rfl rfl dX8_text_72 ?_
    refine nq_iload_n hX rfl 2 rfl dX8_text_75 ?_
    obtain ⟨q11, e11, hi11, h⟩ := nq_arE h
    have hq11 : nq_atText E K q11 := by rw [e11]; exact nq_World_textsT (nq_Nine_world hL) _ (nq_inLt hi11)
    refine nq_aald hX (q := q11) (nq_World_texts (nq_Nine_world hL)) rfl hi11 (by rw [e11]; exact nq_World_textsQ _ (nq_inLt hi11)) dX8_text_76 ?_
    refine nq_aload_n hX rfl 1 rfl dX8_text_77 ?_
    refine nq_getr (v := .ref (nq_ad E 80)) hX inX8_text_8 (nq_Nine_0 hL) rfl 6 (by decide) lkX8_text_46 _ rfl rfl dX8_text_78 ?_
    refine nq_getr (v := .ref (nq_ad E 81)) hX inX8_text_1 (nq_Reader_0 (nq_Nine_reader hL)) rfl 0 (by decide) lkX8_text_211 _ rfl rfl dX8_text_81 ?_
    refine nq_aload_n hX rfl 1 rfl dX8_text_84 ?_
    refine nq_getr (v := .ref (nq_ad E 80)) hX inX8_text_8 (nq_Nine_0 hL) rfl 6 (by decide) lkX8_text_46 _ rfl rfl dX8_text_85 ?_
    obtain ⟨v12, e12, h⟩ := nq_ltE h
    refine nq_geti hX inX8_text_1 (nq_Reader_0 (nq_Nine_reader hL)) rfl 1 (by decide) lkX8_text_214 rfl e12 dX8_text_88 ?_
    obtain ⟨M14, hc13, h⟩ := nq_bE h
    refine nq_callVv hX (tX5_become hq11 (nq_Reader_codes (nq_Nine_reader hL)) hc13) gX8_text_X5_become rfl rfl dsX5_become (by decide) (nq_Text_0 hq11) rfl rfl (Nat.le_of_ble_eq_true rfl) dX8_text_91 ?_
    refine nq_iconst hX (v := 1) (by decide) dX8_text_94 ?_
    obtain ⟨rfl, rfl⟩ := nq_sE2 h; exact nq_iret hX hr dX8_text_95
  · rw [if_neg c10] at h
    refine nq_bipush hX (v := -10) (by decide) dX8_text_63 ?_
    refine nq_iload_n hX rfl 0 rfl dX8_text_65 ?_
    refine nq_isub hX dX8_text_66 ?_
    obtain ⟨rfl, rfl⟩ := nq_sE2 h; exact nq_iret hX hr dX8_text_67
def fX8_text (x1 : Int32) (M : Mem) : Option (Int32 × Mem) :=
  (fX8_isOutside x1 (0 : Int32) (7 : Int32) M).bind fun v2 =>
  if v2 = 0 then
  (nq_lt (M 2 14) fun v4 =>
  if (6 : Int32) ≤ x1 then
  (fX8_text_L47 x1 (2 : Int32) v4 M)
  else
  (fX8_text_L47 x1 (1 : Int32) v4 M))
  else
  (nq_b2 (fX8_refuse (1 : Int32) M) fun v16 M17 =>
  some (v16, M17))
set_option maxHeartbeats 4000000 in
theorem mX8_text {X : Cx} {E : Ev} {l : Launch} {K : List Sh} {x1 : Int32} {M : Mem} {r : Int32} {M' : Mem} (hL : nq_atNine E K) (hX : nq_OK X E l (nq_rm 110) cX8_text 3 RX8 wsX8_text) (hr : nq_RT X E (some .int) (some (.int r)) K M') (h : fX8_text x1 M = some (r, M')) : nq_G X E 3 0 [(0, .ref (nq_ad E 0)), (1, .int x1)] [] K M := by
  unfold fX8_text at h
  refine nq_iload_n hX rfl 1 rfl dX8_text_0 ?_
  refine nq_iconst hX (v := 0) (by decide) dX8_text_1 ?_
  refine nq_bipush hX (v := 7) (by decide) dX8_text_2 ?_
  obtain ⟨v2, hc1, h⟩ := nq_bE h
  refine nq_callSi hX (tX8_isOutside  hc1) gX8_text_X8_isOutside rfl rfl dsX8_isOutside (by decide) rfl (Nat.le_of_ble_eq_true rfl) dX8_text_4 ?_
  refine nq_if_eq hX (tgt := 16) (by decide) dX8_text_7 (fun c3 => ?_) (fun c3 => ?_)
  · rw [if_pos c3] at h
    refine nq_aload_n hX rfl 0 rfl dX8_text_16 ?_
    refine nq_getr (v := .ref (nq_ad E 80)) hX inX8_text_8 (nq_Nine_0 hL) rfl 6 (by decide) lkX8_text_46 _ rfl rfl dX8_text_17 ?_
    refine nq_aload_n hX rfl 0 rfl dX8_text_20 ?_
    refine nq_getr (v := .ref (nq_ad E 2)) hX inX8_text_8 (nq_Nine_0 hL) rfl 1 (by decide) lkX8_text_16 _ rfl rfl dX8_text_21 ?_
    refine nq_getr (v := .ref (nq_ad E 17)) hX inX8_text_7 (nq_World_0 (nq_Nine_world hL)) rfl 3 (by decide) lkX8_text_196 _ rfl rfl dX8_text_24 ?_
    refine nq_aload_n hX rfl 0 rfl dX8_text_27 ?_
    refine nq_getr (v := .ref (nq_ad E 2)) hX inX8_text_8 (nq_Nine_0 hL) rfl 1 (by decide) lkX8_text_16 _ rfl rfl dX8_text_28 ?_
    obtain ⟨v4, e4, h⟩ := nq_ltE h
    refine nq_geti hX inX8_text_7 (nq_World_0 (nq_Nine_world hL)) rfl 14 (by decide) lkX8_text_193 rfl e4 dX8_text_31 ?_
    refine nq_iload_n hX rfl 1 rfl dX8_text_34 ?_
    refine nq_bipush hX (v := 6) (by decide) dX8_text_35 ?_
    refine nq_icmp_ge hX (tgt := 45) (by decide) dX8_text_37 (fun c5 => ?_) (fun c5 => ?_)
    · rw [if_pos c5] at h
      refine nq_ldcs hX (t := 2) (i := 2) (by decide) rfl rfl rfl dX8_text_45 ?_
      exact mX8_text_L47 hL hX hr h
    · rw [if_neg c5] at h
      refine nq_ldcs hX (t := 1) (i := 1) (by decide) rfl rfl rfl dX8_text_40 ?_
      refine nq_goto hX (tgt := 47) (by decide) dX8_text_42 ?_
      exact mX8_text_L47 hL hX hr h
  · rw [if_neg c3] at h
    refine nq_aload_n hX rfl 0 rfl dX8_text_10 ?_
    refine nq_iconst hX (v := 1) (by decide) dX8_text_11 ?_
    obtain ⟨v16, M17, hc15, h⟩ := nq_b2E h
    refine nq_callVi hX (tX8_refuse hL hc15) gX8_text_X8_refuse rfl rfl dsX8_refuse (by decide) (nq_Nine_0 hL) rfl rfl (Nat.le_of_ble_eq_true rfl) dX8_text_12 ?_
    obtain ⟨rfl, rfl⟩ := nq_sE2 h; exact nq_iret hX hr dX8_text_15
theorem dsX8_text : yX8_text.cls ≠ "java/lang/invoke/MethodHandle" ∧ yX8_text.cls ≠ "java/lang/invoke/VarHandle" ∧ (parseMethodDescriptor yX8_text.desc).map (fun d => d.parameters.length) = some 1 := by decide +kernel
theorem tX8_text {l : Launch} {E : Ev} {K : List Sh} {x1 : Int32} {M : Mem} {r : Int32} {M' : Mem} (hL : nq_atNine E K) (h : fX8_text x1 M = some (r, M')) : nq_MA l E yX8_text wsX8_text (nq_rm 110) [.ref (nq_ad E 0), .int x1] K M (some (.int r)) K M' :=
  nq_met (own := RX8) (cc := cX8_text) (maxL := 3) (ret := (some .int)) (by decide) rfl rfl (Nat.le_of_ble_eq_true rfl) (fun X hX hr => mX8_text hL hX hr h)

theorem inX8_nameAll_8 : ∀ w ∈ u_ws RX8 TX8 11, w ∈ wsX8_nameAll := by
  intro w h; unfold wsX8_nameAll; simp only [List.mem_cons, List.mem_append]; simp only [h, true_or, or_true]
theorem lkX8_nameAll_50 : Cond.fieldLink RX8 50 (TX8 7).1 (TX8 7).2.1 (TX8 7).2.2.1 ∈ wsX8_nameAll := by decide +kernel
def fX8_nameAll (x1 : Int32) (x2 : Int32) (x3 : Int32) (x4 : Int32) (x5 : Int32) (M : Mem) : Option (Mem) :=
  (nq_as M 82 5 (0 : Int32) x1).bind fun M1 =>
  (nq_as M1 82 5 (1 : Int32) x2).bind fun M2 =>
  (nq_as M2 82 5 (2 : Int32) x3).bind fun M3 =>
  (nq_as M3 82 5 (3 : Int32) x4).bind fun M4 =>
  (nq_as M4 82 5 (4 : Int32) x5).bind fun M5 =>
  some M5
set_option maxHeartbeats 4000000 in
theorem mX8_nameAll {X : Cx} {E : Ev} {l : Launch} {K : List Sh} {x1 : Int32} {x2 : Int32} {x3 : Int32} {x4 : Int32} {x5 : Int32} {M : Mem} {M' : Mem} (hL : nq_atNine E K) (hX : nq_OK X E l (nq_rm 1) cX8_nameAll 6 RX8 wsX8_nameAll) (hr : nq_RT X E none none K M') (h : fX8_nameAll x1 x2 x3 x4 x5 M = some M') : nq_G X E 6 0 [(0, .ref (nq_ad E 0)), (1, .int x1), (2, .int x2), (3, .int x3), (4, .int x4), (5, .int x5)] [] K M := by
  unfold fX8_nameAll at h
  refine nq_aload_n hX rfl 0 rfl dX8_nameAll_0 ?_
  refine nq_getr (v := .ref (nq_ad E 82)) hX inX8_nameAll_8 (nq_Nine_0 hL) rfl 7 (by decide) lkX8_nameAll_50 _ rfl rfl dX8_nameAll_1 ?_
  refine nq_iconst hX (v := 0) (by decide) dX8_nameAll_4 ?_
  refine nq_iload_n hX rfl 1 rfl dX8_nameAll_5 ?_
  obtain ⟨M1, e1, hi1, h⟩ := nq_asE h
  refine nq_iast hX (nq_Nine_names hL) e1 hi1 dX8_nameAll_6 ?_
  refine nq_aload_n hX rfl 0 rfl dX8_nameAll_7 ?_
  refine nq_getr (v := .ref (nq_ad E 82)) hX inX8_nameAll_8 (nq_Nine_0 hL) rfl 7 (by decide) lkX8_nameAll_50 _ rfl rfl dX8_nameAll_8 ?_
  refine nq_iconst hX (v := 1) (by decide) dX8_nameAll_11 ?_
  refine nq_iload_n hX rfl 2 rfl dX8_nameAll_12 ?_
  obtain ⟨M2, e2, hi2, h⟩ := nq_asE h
  refine nq_iast hX (nq_Nine_names hL) e2 hi2 dX8_nameAll_13 ?_
  refine nq_aload_n hX rfl 0 rfl dX8_nameAll_14 ?_
  refine nq_getr (v := .ref (nq_ad E 82)) hX inX8_nameAll_8 (nq_Nine_0 hL) rfl 7 (by decide) lkX8_nameAll_50 _ rfl rfl dX8_nameAll_15 ?_
  refine nq_iconst hX (v := 2) (by decide) dX8_nameAll_18 ?_
  refine nq_iload_n hX rfl 3 rfl dX8_nameAll_19 ?_
  obtain ⟨M3, e3, hi3, h⟩ := nq_asE h
  refine nq_iast hX (nq_Nine_names hL) e3 hi3 dX8_nameAll_20 ?_
  refine nq_aload_n hX rfl 0 rfl dX8_nameAll_21 ?_
  refine nq_getr (v := .ref (nq_ad E 82)) hX inX8_nameAll_8 (nq_Nine_0 hL) rfl 7 (by decide) lkX8_nameAll_50 _ rfl rfl dX8_nameAll_22 ?_
  refine nq_iconst hX (v := 3) (by decide) dX8_nameAll_25 ?_
  refine nq_iload hX 4 rfl dX8_nameAll_26 ?_
  obtain ⟨M4, e4, hi4, h⟩ := nq_asE h
  refine nq_iast hX (nq_Nine_names hL) e4 hi4 dX8_nameAll_28 ?_
  refine nq_aload_n hX rfl 0 rfl dX8_nameAll_29 ?_
  refine nq_getr (v := .ref (nq_ad E 82)) hX inX8_nameAll_8 (nq_Nine_0 hL) rfl 7 (by decide) lkX8_nameAll_50 _ rfl rfl dX8_nameAll_30 ?_
  refine nq_iconst hX (v := 4) (by decide) dX8_nameAll_33 ?_
  refine nq_iload hX 5 rfl dX8_nameAll_34 ?_
  obtain ⟨M5, e5, hi5, h⟩ := nq_asE h
  refine nq_iast hX (nq_Nine_names hL) e5 hi5 dX8_nameAll_36 ?_
  obtain rfl := nq_sE1 h; exact nq_vret hX hr dX8_nameAll_37
theorem dsX8_nameAll : yX8_nameAll.cls ≠ "java/lang/invoke/MethodHandle" ∧ yX8_nameAll.cls ≠ "java/lang/invoke/VarHandle" ∧ (parseMethodDescriptor yX8_nameAll.desc).map (fun d => d.parameters.length) = some 5 := by decide +kernel
theorem tX8_nameAll {l : Launch} {E : Ev} {K : List Sh} {x1 : Int32} {x2 : Int32} {x3 : Int32} {x4 : Int32} {x5 : Int32} {M : Mem} {M' : Mem} (hL : nq_atNine E K) (h : fX8_nameAll x1 x2 x3 x4 x5 M = some M') : nq_MA l E yX8_nameAll wsX8_nameAll (nq_rm 1) [.ref (nq_ad E 0), .int x1, .int x2, .int x3, .int x4, .int x5] K M none K M' :=
  nq_met (own := RX8) (cc := cX8_nameAll) (maxL := 6) (ret := none) (by decide) rfl rfl (Nat.le_of_ble_eq_true rfl) (fun X hX hr => mX8_nameAll hL hX hr h)

