/-! printed by dec.py: Nine 0 -/
theorem inX8_refuse_8 : ∀ w ∈ u_ws RX8 TX8 11, w ∈ wsX8_refuse := by
  intro w h; unfold wsX8_refuse; simp only [List.mem_cons, List.mem_append]; simp only [h, true_or, or_true]
theorem lkX8_refuse_9 : Cond.fieldLink RX8 9 (TX8 0).1 (TX8 0).2.1 (TX8 0).2.2.1 ∈ wsX8_refuse := by decide +kernel
theorem mmX8_refuse_c331 : Cond.constant RX8 331 (-1000000) ∈ wsX8_refuse := by decide +kernel
def fX8_refuse (x1 : Int32) (M : Mem) : Option (Int32 × Mem) :=
  (nq_ag (M 1) 6 x1).bind fun v1 =>
  (nq_as M 1 6 x1 (v1 + (1 : Int32))).bind fun M2 =>
  some (((-1000000 : Int32) - x1), M2)
set_option maxHeartbeats 4000000 in
theorem mX8_refuse {X : Cx} {E : Ev} {l : Launch} {K : List Sh} {x1 : Int32} {M : Mem} {r : Int32} {M' : Mem} (hL : nq_atNine E K) (hX : nq_OK X E l (nq_rm 1) cX8_refuse 2 RX8 wsX8_refuse) (hr : nq_RT X E (some .int) (some (.int r)) K M') (h : fX8_refuse x1 M = some (r, M')) : nq_G X E 2 0 [(0, .ref (nq_ad E 0)), (1, .int x1)] [] K M := by
  unfold fX8_refuse at h
  refine nq_aload_n hX rfl 0 rfl dX8_refuse_0 ?_
  refine nq_getr (v := .ref (nq_ad E 1)) hX inX8_refuse_8 (nq_Nine_0 hL) rfl 0 (by decide) lkX8_refuse_9 _ rfl rfl dX8_refuse_1 ?_
  refine nq_iload_n hX rfl 1 rfl dX8_refuse_4 ?_
  refine nq_dup2 hX rfl rfl dX8_refuse_5 ?_
  obtain ⟨v1, e1, hi1, h⟩ := nq_agE h
  refine nq_iald hX (nq_Nine_refused hL) e1 hi1 dX8_refuse_6 ?_
  refine nq_iconst hX (v := 1) (by decide) dX8_refuse_7 ?_
  refine nq_iadd hX dX8_refuse_8 ?_
  obtain ⟨M2, e2, hi2, h⟩ := nq_asE h
  refine nq_iast hX (nq_Nine_refused hL) e2 hi2 dX8_refuse_9 ?_
  refine nq_ldcw hX (v := -1000000) mmX8_refuse_c331 dX8_refuse_10 ?_
  refine nq_iload_n hX rfl 1 rfl dX8_refuse_13 ?_
  refine nq_isub hX dX8_refuse_14 ?_
  obtain ⟨rfl, rfl⟩ := nq_sE2 h; exact nq_iret hX hr dX8_refuse_15
theorem dsX8_refuse : yX8_refuse.cls ≠ "java/lang/invoke/MethodHandle" ∧ yX8_refuse.cls ≠ "java/lang/invoke/VarHandle" ∧ (parseMethodDescriptor yX8_refuse.desc).map (fun d => d.parameters.length) = some 1 := by decide +kernel
theorem tX8_refuse {l : Launch} {E : Ev} {K : List Sh} {x1 : Int32} {M : Mem} {r : Int32} {M' : Mem} (hL : nq_atNine E K) (h : fX8_refuse x1 M = some (r, M')) : nq_MA l E yX8_refuse wsX8_refuse (nq_rm 1) [.ref (nq_ad E 0), .int x1] K M (some (.int r)) K M' :=
  nq_met (own := RX8) (cc := cX8_refuse) (maxL := 2) (ret := (some .int)) (by decide) rfl rfl (Nat.le_of_ble_eq_true rfl) (fun X hX hr => mX8_refuse hL hX hr h)

theorem inX8_place_8 : ∀ w ∈ u_ws RX8 TX8 11, w ∈ wsX8_place := by
  intro w h; unfold wsX8_place; simp only [List.mem_cons, List.mem_append]; simp only [h, true_or, or_true]
theorem lkX8_place_16 : Cond.fieldLink RX8 16 (TX8 1).1 (TX8 1).2.1 (TX8 1).2.2.1 ∈ wsX8_place := by decide +kernel
theorem inX8_place_7 : ∀ w ∈ u_ws RX7 TX7 17, w ∈ wsX8_place := by
  intro w h; unfold wsX8_place; simp only [List.mem_cons, List.mem_append]; simp only [h, true_or, or_true]
theorem lkX8_place_70 : Cond.fieldLink RX8 70 (TX7 0).1 (TX7 0).2.1 (TX7 0).2.2.1 ∈ wsX8_place := by decide +kernel
theorem inX8_place_2 : ∀ w ∈ u_ws RX2 TX2 3, w ∈ wsX8_place := by
  intro w h; unfold wsX8_place; simp only [List.mem_cons, List.mem_append]; simp only [h, true_or, or_true]
theorem lkX8_place_74 : Cond.fieldLink RX8 74 (TX2 0).1 (TX2 0).2.1 (TX2 0).2.2.1 ∈ wsX8_place := by decide +kernel
def fX8_place (M : Mem) : Option (Int32 × Mem) :=
  nq_lt (M 3 0) fun v1 =>
  if v1 < (6 : Int32) then
  (nq_lt (M 3 0) fun v3 =>
  nq_lt (nq_wr M 3 0 (v3 + (1 : Int32))) fun M4 =>
  nq_lt (M4 3 0) fun v5 =>
  some ((v5 - (1 : Int32)), M4))
  else
  (nq_b2 (fX8_refuse (4 : Int32) M) fun v7 M8 =>
  some (v7, M8))
set_option maxHeartbeats 4000000 in
theorem mX8_place {X : Cx} {E : Ev} {l : Launch} {K : List Sh} {M : Mem} {r : Int32} {M' : Mem} (hL : nq_atNine E K) (hX : nq_OK X E l (nq_rm 2) cX8_place 2 RX8 wsX8_place) (hr : nq_RT X E (some .int) (some (.int r)) K M') (h : fX8_place M = some (r, M')) : nq_G X E 2 0 [(0, .ref (nq_ad E 0))] [] K M := by
  unfold fX8_place at h
  refine nq_aload_n hX rfl 0 rfl dX8_place_0 ?_
  refine nq_getr (v := .ref (nq_ad E 2)) hX inX8_place_8 (nq_Nine_0 hL) rfl 1 (by decide) lkX8_place_16 _ rfl rfl dX8_place_1 ?_
  refine nq_getr (v := .ref (nq_ad E 3)) hX inX8_place_7 (nq_World_0 (nq_Nine_world hL)) rfl 0 (by decide) lkX8_place_70 _ rfl rfl dX8_place_4 ?_
  refine nq_astore_n hX (lv' := [(1, .ref (nq_ad E 3)), (0, .ref (nq_ad E 0))]) rfl (by decide) rfl rfl dX8_place_7 ?_
  refine nq_aload_n hX rfl 0 rfl dX8_place_8 ?_
  obtain ⟨v1, e1, h⟩ := nq_ltE h
  refine nq_geti hX inX8_place_2 (nq_Roads_0 (nq_World_roads (nq_Nine_world hL))) rfl 0 (by decide) lkX8_place_74 rfl e1 dX8_place_9 ?_
  refine nq_bipush hX (v := 6) (by decide) dX8_place_12 ?_
  refine nq_icmp_lt hX (tgt := 23) (by decide) dX8_place_14 (fun c2 => ?_) (fun c2 => ?_)
  · rw [if_pos c2] at h
    refine nq_aload_n hX rfl 0 rfl dX8_place_23 ?_
    refine nq_dup hX rfl dX8_place_24 ?_
    obtain ⟨v3, e3, h⟩ := nq_ltE h
    refine nq_geti hX inX8_place_2 (nq_Roads_0 (nq_World_roads (nq_Nine_world hL))) rfl 0 (by decide) lkX8_place_74 rfl e3 dX8_place_25 ?_
    refine nq_iconst hX (v := 1) (by decide) dX8_place_28 ?_
    refine nq_iadd hX dX8_place_29 ?_
    obtain ⟨M4, eM4, h⟩ := nq_ltE h
    refine nq_puti hX inX8_place_2 tyX2 tyX2_ok nmX2 (nq_Roads_0 (nq_World_roads (nq_Nine_world hL))) rfl 0 (by decide) lkX8_place_74 rfl rfl rfl rfl rfl eM4 dX8_place_30 ?_
    refine nq_aload_n hX rfl 0 rfl dX8_place_33 ?_
    obtain ⟨v5, e5, h⟩ := nq_ltE h
    refine nq_geti hX inX8_place_2 (nq_Roads_0 (nq_World_roads (nq_Nine_world hL))) rfl 0 (by decide) lkX8_place_74 rfl e5 dX8_place_34 ?_
    refine nq_iconst hX (v := 1) (by decide) dX8_place_37 ?_
    refine nq_isub hX dX8_place_38 ?_
    obtain ⟨rfl, rfl⟩ := nq_sE2 h; exact nq_iret hX hr dX8_place_39
  · rw [if_neg c2] at h
    refine nq_aload_n hX rfl 1 rfl dX8_place_17 ?_
    refine nq_iconst hX (v := 4) (by decide) dX8_place_18 ?_
    obtain ⟨v7, M8, hc6, h⟩ := nq_b2E h
    refine nq_callVi hX (tX8_refuse hL hc6) gX8_place_X8_refuse rfl rfl dsX8_refuse (by decide) (nq_Nine_0 hL) rfl rfl (Nat.le_of_ble_eq_true rfl) dX8_place_19 ?_
    obtain ⟨rfl, rfl⟩ := nq_sE2 h; exact nq_iret hX hr dX8_place_22
theorem dsX8_place : yX8_place.cls ≠ "java/lang/invoke/MethodHandle" ∧ yX8_place.cls ≠ "java/lang/invoke/VarHandle" ∧ (parseMethodDescriptor yX8_place.desc).map (fun d => d.parameters.length) = some 0 := by decide +kernel
theorem tX8_place {l : Launch} {E : Ev} {K : List Sh} {M : Mem} {r : Int32} {M' : Mem} (hL : nq_atNine E K) (h : fX8_place M = some (r, M')) : nq_MA l E yX8_place wsX8_place (nq_rm 2) [.ref (nq_ad E 0)] K M (some (.int r)) K M' :=
  nq_met (own := RX8) (cc := cX8_place) (maxL := 2) (ret := (some .int)) (by decide) rfl rfl (Nat.le_of_ble_eq_true rfl) (fun X hX hr => mX8_place hL hX hr h)

def fX8_isOutside (x0 : Int32) (x1 : Int32) (x2 : Int32) (M : Mem) : Option (Int32) :=
  if x0 < x1 then
  (some (1 : Int32))
  else
  (if x0 ≤ x2 then
  (some (0 : Int32))
  else
  (some (1 : Int32)))
set_option maxHeartbeats 4000000 in
theorem mX8_isOutside {X : Cx} {E : Ev} {l : Launch} {K : List Sh} {x0 : Int32} {x1 : Int32} {x2 : Int32} {M : Mem} {r : Int32}  (hX : nq_OK X E l (nq_rm 1) cX8_isOutside 3 RX8 wsX8_isOutside) (hr : nq_RT X E (some .boolean) (some (.int r)) K M) (h : fX8_isOutside x0 x1 x2 M = some r) : nq_G X E 3 0 [(0, .int x0), (1, .int x1), (2, .int x2)] [] K M := by
  unfold fX8_isOutside at h
  refine nq_iload_n hX rfl 0 rfl dX8_isOutside_0 ?_
  refine nq_iload_n hX rfl 1 rfl dX8_isOutside_1 ?_
  refine nq_icmp_lt hX (tgt := 10) (by decide) dX8_isOutside_2 (fun c1 => ?_) (fun c1 => ?_)
  · rw [if_pos c1] at h
    refine nq_iconst hX (v := 1) (by decide) dX8_isOutside_10 ?_
    refine nq_goto hX (tgt := 15) (by decide) dX8_isOutside_11 ?_
    obtain rfl := nq_sE1 h; exact nq_zret hX hr rfl dX8_isOutside_15
  · rw [if_neg c1] at h
    refine nq_iload_n hX rfl 0 rfl dX8_isOutside_5 ?_
    refine nq_iload_n hX rfl 2 rfl dX8_isOutside_6 ?_
    refine nq_icmp_le hX (tgt := 14) (by decide) dX8_isOutside_7 (fun c2 => ?_) (fun c2 => ?_)
    · rw [if_pos c2] at h
      refine nq_iconst hX (v := 0) (by decide) dX8_isOutside_14 ?_
      obtain rfl := nq_sE1 h; exact nq_zret hX hr rfl dX8_isOutside_15
    · rw [if_neg c2] at h
      refine nq_iconst hX (v := 1) (by decide) dX8_isOutside_10 ?_
      refine nq_goto hX (tgt := 15) (by decide) dX8_isOutside_11 ?_
      obtain rfl := nq_sE1 h; exact nq_zret hX hr rfl dX8_isOutside_15
theorem dsX8_isOutside : yX8_isOutside.cls ≠ "java/lang/invoke/MethodHandle" ∧ yX8_isOutside.cls ≠ "java/lang/invoke/VarHandle" ∧ (parseMethodDescriptor yX8_isOutside.desc).map (fun d => d.parameters.length) = some 3 := by decide +kernel
theorem tX8_isOutside {l : Launch} {E : Ev} {K : List Sh} {x0 : Int32} {x1 : Int32} {x2 : Int32} {M : Mem} {r : Int32}  (h : fX8_isOutside x0 x1 x2 M = some r) : nq_MA l E yX8_isOutside wsX8_isOutside (nq_rm 1) [.int x0, .int x1, .int x2] K M (some (.int r)) K M :=
  nq_met (own := RX8) (cc := cX8_isOutside) (maxL := 3) (ret := (some .boolean)) (by decide) rfl rfl (Nat.le_of_ble_eq_true rfl) (fun X hX hr => mX8_isOutside  hX hr h)

theorem inX8_isPlace_8 : ∀ w ∈ u_ws RX8 TX8 11, w ∈ wsX8_isPlace := by
  intro w h; unfold wsX8_isPlace; simp only [List.mem_cons, List.mem_append]; simp only [h, true_or, or_true]
theorem lkX8_isPlace_16 : Cond.fieldLink RX8 16 (TX8 1).1 (TX8 1).2.1 (TX8 1).2.2.1 ∈ wsX8_isPlace := by decide +kernel
theorem inX8_isPlace_7 : ∀ w ∈ u_ws RX7 TX7 17, w ∈ wsX8_isPlace := by
  intro w h; unfold wsX8_isPlace; simp only [List.mem_cons, List.mem_append]; simp only [h, true_or, or_true]
theorem lkX8_isPlace_70 : Cond.fieldLink RX8 70 (TX7 0).1 (TX7 0).2.1 (TX7 0).2.2.1 ∈ wsX8_isPlace := by decide +kernel
theorem inX8_isPlace_2 : ∀ w ∈ u_ws RX2 TX2 3, w ∈ wsX8_isPlace := by
  intro w h; unfold wsX8_isPlace; simp only [List.mem_cons, List.mem_append]; simp only [h, true_or, or_true]
theorem lkX8_isPlace_74 : Cond.fieldLink RX8 74 (TX2 0).1 (TX2 0).2.1 (TX2 0).2.2.1 ∈ wsX8_isPlace := by decide +kernel
def fX8_isPlace (x1 : Int32) (M : Mem) : Option (Int32) :=
  nq_lt (M 3 0) fun v1 =>
  (fX8_isOutside x1 (0 : Int32) (v1 - (1 : Int32)) M).bind fun v3 =>
  if v3 = 0 then
  (some (1 : Int32))
  else
  (some (0 : Int32))
set_option maxHeartbeats 4000000 in
theorem mX8_isPlace {X : Cx} {E : Ev} {l : Launch} {K : List Sh} {x1 : Int32} {M : Mem} {r : Int32} (hL : nq_atNine E K) (hX : nq_OK X E l (nq_rm 2) cX8_isPlace 2 RX8 wsX8_isPlace) (hr : nq_RT X E (some .boolean) (some (.int r)) K M) (h : fX8_isPlace x1 M = some r) : nq_G X E 2 0 [(0, .ref (nq_ad E 0)), (1, .int x1)] [] K M := by
  unfold fX8_isPlace at h
  refine nq_iload_n hX rfl 1 rfl dX8_isPlace_0 ?_
  refine nq_iconst hX (v := 0) (by decide) dX8_isPlace_1 ?_
  refine nq_aload_n hX rfl 0 rfl dX8_isPlace_2 ?_
  refine nq_getr (v := .ref (nq_ad E 2)) hX inX8_isPlace_8 (nq_Nine_0 hL) rfl 1 (by decide) lkX8_isPlace_16 _ rfl rfl dX8_isPlace_3 ?_
  refine nq_getr (v := .ref (nq_ad E 3)) hX inX8_isPlace_7 (nq_World_0 (nq_Nine_world hL)) rfl 0 (by decide) lkX8_isPlace_70 _ rfl rfl dX8_isPlace_6 ?_
  obtain ⟨v1, e1, h⟩ := nq_ltE h
  refine nq_geti hX inX8_isPlace_2 (nq_Roads_0 (nq_World_roads (nq_Nine_world hL))) rfl 0 (by decide) lkX8_isPlace_74 rfl e1 dX8_isPlace_9 ?_
  refine nq_iconst hX (v := 1) (by decide) dX8_isPlace_12 ?_
  refine nq_isub hX dX8_isPlace_13 ?_
  obtain ⟨v3, hc2, h⟩ := nq_bE h
  refine nq_callSi hX (tX8_isOutside  hc2) gX8_isPlace_X8_isOutside rfl rfl dsX8_isOutside (by decide) rfl (Nat.le_of_ble_eq_true rfl) dX8_isPlace_14 ?_
  refine nq_if_ne hX (tgt := 24) (by decide) dX8_isPlace_17 (fun c4 => ?_) (fun c4 => ?_)
  · rw [if_pos c4] at h
    refine nq_iconst hX (v := 1) (by decide) dX8_isPlace_20 ?_
    refine nq_goto hX (tgt := 25) (by decide) dX8_isPlace_21 ?_
    obtain rfl := nq_sE1 h; exact nq_zret hX hr rfl dX8_isPlace_25
  · rw [if_neg c4] at h
    refine nq_iconst hX (v := 0) (by decide) dX8_isPlace_24 ?_
    obtain rfl := nq_sE1 h; exact nq_zret hX hr rfl dX8_isPlace_25
theorem dsX8_isPlace : yX8_isPlace.cls ≠ "java/lang/invoke/MethodHandle" ∧ yX8_isPlace.cls ≠ "java/lang/invoke/VarHandle" ∧ (parseMethodDescriptor yX8_isPlace.desc).map (fun d => d.parameters.length) = some 1 := by decide +kernel
theorem tX8_isPlace {l : Launch} {E : Ev} {K : List Sh} {x1 : Int32} {M : Mem} {r : Int32} (hL : nq_atNine E K) (h : fX8_isPlace x1 M = some r) : nq_MA l E yX8_isPlace wsX8_isPlace (nq_rm 2) [.ref (nq_ad E 0), .int x1] K M (some (.int r)) K M :=
  nq_met (own := RX8) (cc := cX8_isPlace) (maxL := 2) (ret := (some .boolean)) (by decide) rfl rfl (Nat.le_of_ble_eq_true rfl) (fun X hX hr => mX8_isPlace hL hX hr h)

def fX8_areTwo (x1 : Int32) (x2 : Int32) (M : Mem) : Option (Int32) :=
  (fX8_isPlace x1 M).bind fun v2 =>
  if v2 = 0 then
  (some (0 : Int32))
  else
  ((fX8_isPlace x2 M).bind fun v5 =>
  if v5 = 0 then
  (some (0 : Int32))
  else
  (if x1 = x2 then
  (some (0 : Int32))
  else
  (some (1 : Int32))))
set_option maxHeartbeats 4000000 in
theorem mX8_areTwo {X : Cx} {E : Ev} {l : Launch} {K : List Sh} {x1 : Int32} {x2 : Int32} {M : Mem} {r : Int32} (hL : nq_atNine E K) (hX : nq_OK X E l (nq_rm 3) cX8_areTwo 3 RX8 wsX8_areTwo) (hr : nq_RT X E (some .boolean) (some (.int r)) K M) (h : fX8_areTwo x1 x2 M = some r) : nq_G X E 3 0 [(0, .ref (nq_ad E 0)), (1, .int x1), (2, .int x2)] [] K M := by
  unfold fX8_areTwo at h
  refine nq_aload_n hX rfl 0 rfl dX8_areTwo_0 ?_
  refine nq_iload_n hX rfl 1 rfl dX8_areTwo_1 ?_
  obtain ⟨v2, hc1, h⟩ := nq_bE h
  refine nq_callVi hX (tX8_isPlace hL hc1) gX8_areTwo_X8_isPlace rfl rfl dsX8_isPlace (by decide) (nq_Nine_0 hL) rfl rfl (Nat.le_of_ble_eq_true rfl) dX8_areTwo_2 ?_
  refine nq_if_eq hX (tgt := 25) (by decide) dX8_areTwo_5 (fun c3 => ?_) (fun c3 => ?_)
  · rw [if_pos c3] at h
    refine nq_iconst hX (v := 0) (by decide) dX8_areTwo_25 ?_
    obtain rfl := nq_sE1 h; exact nq_zret hX hr rfl dX8_areTwo_26
  · rw [if_neg c3] at h
    refine nq_aload_n hX rfl 0 rfl dX8_areTwo_8 ?_
    refine nq_iload_n hX rfl 2 rfl dX8_areTwo_9 ?_
    obtain ⟨v5, hc4, h⟩ := nq_bE h
    refine nq_callVi hX (tX8_isPlace hL hc4) gX8_areTwo_X8_isPlace rfl rfl dsX8_isPlace (by decide) (nq_Nine_0 hL) rfl rfl (Nat.le_of_ble_eq_true rfl) dX8_areTwo_10 ?_
    refine nq_if_eq hX (tgt := 25) (by decide) dX8_areTwo_13 (fun c6 => ?_) (fun c6 => ?_)
    · rw [if_pos c6] at h
      refine nq_iconst hX (v := 0) (by decide) dX8_areTwo_25 ?_
      obtain rfl := nq_sE1 h; exact nq_zret hX hr rfl dX8_areTwo_26
    · rw [if_neg c6] at h
      refine nq_iload_n hX rfl 1 rfl dX8_areTwo_16 ?_
      refine nq_iload_n hX rfl 2 rfl dX8_areTwo_17 ?_
      refine nq_icmp_eq hX (tgt := 25) (by decide) dX8_areTwo_18 (fun c7 => ?_) (fun c7 => ?_)
      · rw [if_pos c7] at h
        refine nq_iconst hX (v := 0) (by decide) dX8_areTwo_25 ?_
        obtain rfl := nq_sE1 h; exact nq_zret hX hr rfl dX8_areTwo_26
      · rw [if_neg c7] at h
        refine nq_iconst hX (v := 1) (by decide) dX8_areTwo_21 ?_
        refine nq_goto hX (tgt := 26) (by decide) dX8_areTwo_22 ?_
        obtain rfl := nq_sE1 h; exact nq_zret hX hr rfl dX8_areTwo_26
theorem dsX8_areTwo : yX8_areTwo.cls ≠ "java/lang/invoke/MethodHandle" ∧ yX8_areTwo.cls ≠ "java/lang/invoke/VarHandle" ∧ (parseMethodDescriptor yX8_areTwo.desc).map (fun d => d.parameters.length) = some 2 := by decide +kernel
theorem tX8_areTwo {l : Launch} {E : Ev} {K : List Sh} {x1 : Int32} {x2 : Int32} {M : Mem} {r : Int32} (hL : nq_atNine E K) (h : fX8_areTwo x1 x2 M = some r) : nq_MA l E yX8_areTwo wsX8_areTwo (nq_rm 3) [.ref (nq_ad E 0), .int x1, .int x2] K M (some (.int r)) K M :=
  nq_met (own := RX8) (cc := cX8_areTwo) (maxL := 3) (ret := (some .boolean)) (by decide) rfl rfl (Nat.le_of_ble_eq_true rfl) (fun X hX hr => mX8_areTwo hL hX hr h)

theorem inX8_near_8 : ∀ w ∈ u_ws RX8 TX8 11, w ∈ wsX8_near := by
  intro w h; unfold wsX8_near; simp only [List.mem_cons, List.mem_append]; simp only [h, true_or, or_true]
theorem lkX8_near_16 : Cond.fieldLink RX8 16 (TX8 1).1 (TX8 1).2.1 (TX8 1).2.2.1 ∈ wsX8_near := by decide +kernel
theorem inX8_near_7 : ∀ w ∈ u_ws RX7 TX7 17, w ∈ wsX8_near := by
  intro w h; unfold wsX8_near; simp only [List.mem_cons, List.mem_append]; simp only [h, true_or, or_true]
theorem lkX8_near_70 : Cond.fieldLink RX8 70 (TX7 0).1 (TX7 0).2.1 (TX7 0).2.2.1 ∈ wsX8_near := by decide +kernel
def fX8_near (x1 : Int32) (x2 : Int32) (x3 : Int32) (M : Mem) : Option (Int32 × Mem) :=
  (fX8_areTwo x1 x2 M).bind fun v2 =>
  if v2 = 0 then
  (nq_b2 (fX8_refuse (1 : Int32) M) fun v5 M6 =>
  some (v5, M6))
  else
  ((fX8_isOutside x3 (0 : Int32) (30 : Int32) M).bind fun v8 =>
  if v8 = 0 then
  (nq_b2 (fX2_join 3 x1 x2 x3 M) fun v11 M12 =>
  some (v11, M12))
  else
  (nq_b2 (fX8_refuse (1 : Int32) M) fun v14 M15 =>
  some (v14, M15)))
set_option maxHeartbeats 4000000 in
theorem mX8_near {X : Cx} {E : Ev} {l : Launch} {K : List Sh} {x1 : Int32} {x2 : Int32} {x3 : Int32} {M : Mem} {r : Int32} {M' : Mem} (hL : nq_atNine E K) (hX : nq_OK X E l (nq_rm 4) cX8_near 4 RX8 wsX8_near) (hr : nq_RT X E (some .int) (some (.int r)) K M') (h : fX8_near x1 x2 x3 M = some (r, M')) : nq_G X E 4 0 [(0, .ref (nq_ad E 0)), (1, .int x1), (2, .int x2), (3, .int x3)] [] K M := by
  unfold fX8_near at h
  refine nq_aload_n hX rfl 0 rfl dX8_near_0 ?_
  refine nq_iload_n hX rfl 1 rfl dX8_near_1 ?_
  refine nq_iload_n hX rfl 2 rfl dX8_near_2 ?_
  obtain ⟨v2, hc1, h⟩ := nq_bE h
  refine nq_callVi hX (tX8_areTwo hL hc1) gX8_near_X8_areTwo rfl rfl dsX8_areTwo (by decide) (nq_Nine_0 hL) rfl rfl (Nat.le_of_ble_eq_true rfl) dX8_near_3 ?_
  refine nq_if_eq hX (tgt := 19) (by decide) dX8_near_6 (fun c3 => ?_) (fun c3 => ?_)
  · rw [if_pos c3] at h
    refine nq_aload_n hX rfl 0 rfl dX8_near_19 ?_
    refine nq_iconst hX (v := 1) (by decide) dX8_near_20 ?_
    obtain ⟨v5, M6, hc4, h⟩ := nq_b2E h
    refine nq_callVi hX (tX8_refuse hL hc4) gX8_near_X8_refuse rfl rfl dsX8_refuse (by decide) (nq_Nine_0 hL) rfl rfl (Nat.le_of_ble_eq_true rfl) dX8_near_21 ?_
    obtain ⟨rfl, rfl⟩ := nq_sE2 h; exact nq_iret hX hr dX8_near_24
  · rw [if_neg c3] at h
    refine nq_iload_n hX rfl 3 rfl dX8_near_9 ?_
    refine nq_iconst hX (v := 0) (by decide) dX8_near_10 ?_
    refine nq_bipush hX (v := 30) (by decide) dX8_near_11 ?_
    obtain ⟨v8, hc7, h⟩ := nq_bE h
    refine nq_callSi hX (tX8_isOutside  hc7) gX8_near_X8_isOutside rfl rfl dsX8_isOutside (by decide) rfl (Nat.le_of_ble_eq_true rfl) dX8_near_13 ?_
    refine nq_if_eq hX (tgt := 25) (by decide) dX8_near_16 (fun c9 => ?_) (fun c9 => ?_)
    · rw [if_pos c9] at h
      refine nq_aload_n hX rfl 0 rfl dX8_near_25 ?_
      refine nq_getr (v := .ref (nq_ad E 2)) hX inX8_near_8 (nq_Nine_0 hL) rfl 1 (by decide) lkX8_near_16 _ rfl rfl dX8_near_26 ?_
      refine nq_getr (v := .ref (nq_ad E 3)) hX inX8_near_7 (nq_World_0 (nq_Nine_world hL)) rfl 0 (by decide) lkX8_near_70 _ rfl rfl dX8_near_29 ?_
      refine nq_iload_n hX rfl 1 rfl dX8_near_32 ?_
      refine nq_iload_n hX rfl 2 rfl dX8_near_33 ?_
      refine nq_iload_n hX rfl 3 rfl dX8_near_34 ?_
      obtain ⟨v11, M12, hc10, h⟩ := nq_b2E h
      refine nq_callVi hX (tX2_join (nq_World_roads (nq_Nine_world hL)) hc10) gX8_near_X2_join rfl rfl dsX2_join (by decide) (nq_Roads_0 (nq_World_roads (nq_Nine_world hL))) rfl rfl (Nat.le_of_ble_eq_true rfl) dX8_near_35 ?_
      obtain ⟨rfl, rfl⟩ := nq_sE2 h; exact nq_iret hX hr dX8_near_38
    · rw [if_neg c9] at h
      refine nq_aload_n hX rfl 0 rfl dX8_near_19 ?_
      refine nq_iconst hX (v := 1) (by decide) dX8_near_20 ?_
      obtain ⟨v14, M15, hc13, h⟩ := nq_b2E h
      refine nq_callVi hX (tX8_refuse hL hc13) gX8_near_X8_refuse rfl rfl dsX8_refuse (by decide) (nq_Nine_0 hL) rfl rfl (Nat.le_of_ble_eq_true rfl) dX8_near_21 ?_
      obtain ⟨rfl, rfl⟩ := nq_sE2 h; exact nq_iret hX hr dX8_near_24
theorem dsX8_near : yX8_near.cls ≠ "java/lang/invoke/MethodHandle" ∧ yX8_near.cls ≠ "java/lang/invoke/VarHandle" ∧ (parseMethodDescriptor yX8_near.desc).map (fun d => d.parameters.length) = some 3 := by decide +kernel
theorem tX8_near {l : Launch} {E : Ev} {K : List Sh} {x1 : Int32} {x2 : Int32} {x3 : Int32} {M : Mem} {r : Int32} {M' : Mem} (hL : nq_atNine E K) (h : fX8_near x1 x2 x3 M = some (r, M')) : nq_MA l E yX8_near wsX8_near (nq_rm 4) [.ref (nq_ad E 0), .int x1, .int x2, .int x3] K M (some (.int r)) K M' :=
  nq_met (own := RX8) (cc := cX8_near) (maxL := 4) (ret := (some .int)) (by decide) rfl rfl (Nat.le_of_ble_eq_true rfl) (fun X hX hr => mX8_near hL hX hr h)

theorem inX8_way_8 : ∀ w ∈ u_ws RX8 TX8 11, w ∈ wsX8_way := by
  intro w h; unfold wsX8_way; simp only [List.mem_cons, List.mem_append]; simp only [h, true_or, or_true]
theorem lkX8_way_16 : Cond.fieldLink RX8 16 (TX8 1).1 (TX8 1).2.1 (TX8 1).2.2.1 ∈ wsX8_way := by decide +kernel
theorem inX8_way_7 : ∀ w ∈ u_ws RX7 TX7 17, w ∈ wsX8_way := by
  intro w h; unfold wsX8_way; simp only [List.mem_cons, List.mem_append]; simp only [h, true_or, or_true]
theorem lkX8_way_70 : Cond.fieldLink RX8 70 (TX7 0).1 (TX7 0).2.1 (TX7 0).2.2.1 ∈ wsX8_way := by decide +kernel
def fX8_way (x1 : Int32) (x2 : Int32) (M : Mem) : Option (Int32 × Mem) :=
  (fX8_isPlace x1 M).bind fun v2 =>
  if v2 = 0 then
  (nq_b2 (fX8_refuse (1 : Int32) M) fun v5 M6 =>
  some (v5, M6))
  else
  ((fX8_isPlace x2 M).bind fun v8 =>
  if v8 = 0 then
  (nq_b2 (fX8_refuse (1 : Int32) M) fun v11 M12 =>
  some (v11, M12))
  else
  ((fX2_years 3 x1 x2 M).bind fun v14 =>
  if 0 ≤ v14 then
  (some (v14, M))
  else
  (nq_b2 (fX8_refuse (2 : Int32) M) fun v17 M18 =>
  some (v17, M18))))
set_option maxHeartbeats 4000000 in
theorem mX8_way {X : Cx} {E : Ev} {l : Launch} {K : List Sh} {x1 : Int32} {x2 : Int32} {M : Mem} {r : Int32} {M' : Mem} (hL : nq_atNine E K) (hX : nq_OK X E l (nq_rm 3) cX8_way 4 RX8 wsX8_way) (hr : nq_RT X E (some .int) (some (.int r)) K M') (h : fX8_way x1 x2 M = some (r, M')) : nq_G X E 4 0 [(0, .ref (nq_ad E 0)), (1, .int x1), (2, .int x2)] [] K M := by
  unfold fX8_way at h
  refine nq_aload_n hX rfl 0 rfl dX8_way_0 ?_
  refine nq_iload_n hX rfl 1 rfl dX8_way_1 ?_
  obtain ⟨v2, hc1, h⟩ := nq_bE h
  refine nq_callVi hX (tX8_isPlace hL hc1) gX8_way_X8_isPlace rfl rfl dsX8_isPlace (by decide) (nq_Nine_0 hL) rfl rfl (Nat.le_of_ble_eq_true rfl) dX8_way_2 ?_
  refine nq_if_eq hX (tgt := 16) (by decide) dX8_way_5 (fun c3 => ?_) (fun c3 => ?_)
  · rw [if_pos c3] at h
    refine nq_aload_n hX rfl 0 rfl dX8_way_16 ?_
    refine nq_iconst hX (v := 1) (by decide) dX8_way_17 ?_
    obtain ⟨v5, M6, hc4, h⟩ := nq_b2E h
    refine nq_callVi hX (tX8_refuse hL hc4) gX8_way_X8_refuse rfl rfl dsX8_refuse (by decide) (nq_Nine_0 hL) rfl rfl (Nat.le_of_ble_eq_true rfl) dX8_way_18 ?_
    obtain ⟨rfl, rfl⟩ := nq_sE2 h; exact nq_iret hX hr dX8_way_21
  · rw [if_neg c3] at h
    refine nq_aload_n hX rfl 0 rfl dX8_way_8 ?_
    refine nq_iload_n hX rfl 2 rfl dX8_way_9 ?_
    obtain ⟨v8, hc7, h⟩ := nq_bE h
    refine nq_callVi hX (tX8_isPlace hL hc7) gX8_way_X8_isPlace rfl rfl dsX8_isPlace (by decide) (nq_Nine_0 hL) rfl rfl (Nat.le_of_ble_eq_true rfl) dX8_way_10 ?_
    refine nq_if_ne hX (tgt := 22) (by decide) dX8_way_13 (fun c9 => ?_) (fun c9 => ?_)
    · rw [if_pos c9] at h
      refine nq_aload_n hX rfl 0 rfl dX8_way_16 ?_
      refine nq_iconst hX (v := 1) (by decide) dX8_way_17 ?_
      obtain ⟨v11, M12, hc10, h⟩ := nq_b2E h
      refine nq_callVi hX (tX8_refuse hL hc10) gX8_way_X8_refuse rfl rfl dsX8_refuse (by decide) (nq_Nine_0 hL) rfl rfl (Nat.le_of_ble_eq_true rfl) dX8_way_18 ?_
      obtain ⟨rfl, rfl⟩ := nq_sE2 h; exact nq_iret hX hr dX8_way_21
    · rw [if_neg c9] at h
      refine nq_aload_n hX rfl 0 rfl dX8_way_22 ?_
      refine nq_getr (v := .ref (nq_ad E 2)) hX inX8_way_8 (nq_Nine_0 hL) rfl 1 (by decide) lkX8_way_16 _ rfl rfl dX8_way_23 ?_
      refine nq_getr (v := .ref (nq_ad E 3)) hX inX8_way_7 (nq_World_0 (nq_Nine_world hL)) rfl 0 (by decide) lkX8_way_70 _ rfl rfl dX8_way_26 ?_
      refine nq_iload_n hX rfl 1 rfl dX8_way_29 ?_
      refine nq_iload_n hX rfl 2 rfl dX8_way_30 ?_
      obtain ⟨v14, hc13, h⟩ := nq_bE h
      refine nq_callVi hX (tX2_years (nq_World_roads (nq_Nine_world hL)) hc13) gX8_way_X2_years rfl rfl dsX2_years (by decide) (nq_Roads_0 (nq_World_roads (nq_Nine_world hL))) rfl rfl (Nat.le_of_ble_eq_true rfl) dX8_way_31 ?_
      refine nq_istore_n hX (lv' := [(3, .int v14), (0, .ref (nq_ad E 0)), (1, .int x1), (2, .int x2)]) rfl (by decide) rfl rfl dX8_way_34 ?_
      refine nq_iload_n hX rfl 0 rfl dX8_way_35 ?_
      refine nq_if_ge hX (tgt := 47) (by decide) dX8_way_36 (fun c15 => ?_) (fun c15 => ?_)
      · rw [if_pos c15] at h
        refine nq_iload_n hX rfl 0 rfl dX8_way_47 ?_
        obtain ⟨rfl, rfl⟩ := nq_sE2 h; exact nq_iret hX hr dX8_way_48
      · rw [if_neg c15] at h
        refine nq_aload_n hX rfl 1 rfl dX8_way_39 ?_
        refine nq_iconst hX (v := 2) (by decide) dX8_way_40 ?_
        obtain ⟨v17, M18, hc16, h⟩ := nq_b2E h
        refine nq_callVi hX (tX8_refuse hL hc16) gX8_way_X8_refuse rfl rfl dsX8_refuse (by decide) (nq_Nine_0 hL) rfl rfl (Nat.le_of_ble_eq_true rfl) dX8_way_41 ?_
        refine nq_goto hX (tgt := 48) (by decide) dX8_way_44 ?_
        obtain ⟨rfl, rfl⟩ := nq_sE2 h; exact nq_iret hX hr dX8_way_48
theorem dsX8_way : yX8_way.cls ≠ "java/lang/invoke/MethodHandle" ∧ yX8_way.cls ≠ "java/lang/invoke/VarHandle" ∧ (parseMethodDescriptor yX8_way.desc).map (fun d => d.parameters.length) = some 2 := by decide +kernel
theorem tX8_way {l : Launch} {E : Ev} {K : List Sh} {x1 : Int32} {x2 : Int32} {M : Mem} {r : Int32} {M' : Mem} (hL : nq_atNine E K) (h : fX8_way x1 x2 M = some (r, M')) : nq_MA l E yX8_way wsX8_way (nq_rm 3) [.ref (nq_ad E 0), .int x1, .int x2] K M (some (.int r)) K M' :=
  nq_met (own := RX8) (cc := cX8_way) (maxL := 4) (ret := (some .int)) (by decide) rfl rfl (Nat.le_of_ble_eq_true rfl) (fun X hX hr => mX8_way hL hX hr h)

theorem inX8_route_8 : ∀ w ∈ u_ws RX8 TX8 11, w ∈ wsX8_route := by
  intro w h; unfold wsX8_route; simp only [List.mem_cons, List.mem_append]; simp only [h, true_or, or_true]
theorem lkX8_route_16 : Cond.fieldLink RX8 16 (TX8 1).1 (TX8 1).2.1 (TX8 1).2.2.1 ∈ wsX8_route := by decide +kernel
theorem inX8_route_7 : ∀ w ∈ u_ws RX7 TX7 17, w ∈ wsX8_route := by
  intro w h; unfold wsX8_route; simp only [List.mem_cons, List.mem_append]; simp only [h, true_or, or_true]
theorem lkX8_route_70 : Cond.fieldLink RX8 70 (TX7 0).1 (TX7 0).2.1 (TX7 0).2.2.1 ∈ wsX8_route := by decide +kernel
def fX8_route (x1 : Int32) (x2 : Int32) (x3 : Int32) (M : Mem) : Option (Int32 × Mem) :=
  (fX8_isPlace x1 M).bind fun v2 =>
  if v2 = 0 then
  (nq_b2 (fX8_refuse (1 : Int32) M) fun v5 M6 =>
  some (v5, M6))
  else
  ((fX8_isPlace x2 M).bind fun v8 =>
  if v8 = 0 then
  (nq_b2 (fX8_refuse (1 : Int32) M) fun v11 M12 =>
  some (v11, M12))
  else
  (if (-1 : Int32) ≤ x3 then
  ((fX2_years 3 x1 x2 M).bind fun v15 =>
  if v15 < 0 then
  (nq_b2 (fX8_refuse (2 : Int32) M) fun v18 M19 =>
  some (v18, M19))
  else
  ((fX2_stops 3 x1 x2 M).bind fun v21 =>
  if x3 < v21 then
  (if 0 ≤ x3 then
  ((fX2_stop 3 x1 x2 x3 M).bind fun v25 =>
  some (v25, M))
  else
  ((fX2_stops 3 x1 x2 M).bind fun v27 =>
  some (v27, M)))
  else
  (nq_b2 (fX8_refuse (2 : Int32) M) fun v29 M30 =>
  some (v29, M30))))
  else
  (nq_b2 (fX8_refuse (1 : Int32) M) fun v32 M33 =>
  some (v32, M33))))
set_option maxHeartbeats 4000000 in
theorem mX8_route {X : Cx} {E : Ev} {l : Launch} {K : List Sh} {x1 : Int32} {x2 : Int32} {x3 : Int32} {M : Mem} {r : Int32} {M' : Mem} (hL : nq_atNine E K) (hX : nq_OK X E l (nq_rm 4) cX8_route 5 RX8 wsX8_route) (hr : nq_RT X E (some .int) (some (.int r)) K M') (h : fX8_route x1 x2 x3 M = some (r, M')) : nq_G X E 5 0 [(0, .ref (nq_ad E 0)), (1, .int x1), (2, .int x2), (3, .int x3)] [] K M := by
  unfold fX8_route at h
  refine nq_aload_n hX rfl 0 rfl dX8_route_0 ?_
  refine nq_iload_n hX rfl 1 rfl dX8_route_1 ?_
  obtain ⟨v2, hc1, h⟩ := nq_bE h
  refine nq_callVi hX (tX8_isPlace hL hc1) gX8_route_X8_isPlace rfl rfl dsX8_isPlace (by decide) (nq_Nine_0 hL) rfl rfl (Nat.le_of_ble_eq_true rfl) dX8_route_2 ?_
  refine nq_if_eq hX (tgt := 21) (by decide) dX8_route_5 (fun c3 => ?_) (fun c3 => ?_)
  · rw [if_pos c3] at h
    refine nq_aload_n hX rfl 0 rfl dX8_route_21 ?_
    refine nq_iconst hX (v := 1) (by decide) dX8_route_22 ?_
    obtain ⟨v5, M6, hc4, h⟩ := nq_b2E h
    refine nq_callVi hX (tX8_refuse hL hc4) gX8_route_X8_refuse rfl rfl dsX8_refuse (by decide) (nq_Nine_0 hL) rfl rfl (Nat.le_of_ble_eq_true rfl) dX8_route_23 ?_
    obtain ⟨rfl, rfl⟩ := nq_sE2 h; exact nq_iret hX hr dX8_route_26
  · rw [if_neg c3] at h
    refine nq_aload_n hX rfl 0 rfl dX8_route_8 ?_
    refine nq_iload_n hX rfl 2 rfl dX8_route_9 ?_
    obtain ⟨v8, hc7, h⟩ := nq_bE h
    refine nq_callVi hX (tX8_isPlace hL hc7) gX8_route_X8_isPlace rfl rfl dsX8_isPlace (by decide) (nq_Nine_0 hL) rfl rfl (Nat.le_of_ble_eq_true rfl) dX8_route_10 ?_
    refine nq_if_eq hX (tgt := 21) (by decide) dX8_route_13 (fun c9 => ?_) (fun c9 => ?_)
    · rw [if_pos c9] at h
      refine nq_aload_n hX rfl 0 rfl dX8_route_21 ?_
      refine nq_iconst hX (v := 1) (by decide) dX8_route_22 ?_
      obtain ⟨v11, M12, hc10, h⟩ := nq_b2E h
      refine nq_callVi hX (tX8_refuse hL hc10) gX8_route_X8_refuse rfl rfl dsX8_refuse (by decide) (nq_Nine_0 hL) rfl rfl (Nat.le_of_ble_eq_true rfl) dX8_route_23 ?_
      obtain ⟨rfl, rfl⟩ := nq_sE2 h; exact nq_iret hX hr dX8_route_26
    · rw [if_neg c9] at h
      refine nq_iload_n hX rfl 3 rfl dX8_route_16 ?_
      refine nq_iconst hX (v := -1) (by decide) dX8_route_17 ?_
      refine nq_icmp_ge hX (tgt := 27) (by decide) dX8_route_18 (fun c13 => ?_) (fun c13 => ?_)
      · rw [if_pos c13] at h
        refine nq_aload_n hX rfl 0 rfl dX8_route_27 ?_
        refine nq_getr (v := .ref (nq_ad E 2)) hX inX8_route_8 (nq_Nine_0 hL) rfl 1 (by decide) lkX8_route_16 _ rfl rfl dX8_route_28 ?_
        refine nq_getr (v := .ref (nq_ad E 3)) hX inX8_route_7 (nq_World_0 (nq_Nine_world hL)) rfl 0 (by decide) lkX8_route_70 _ rfl rfl dX8_route_31 ?_
        refine nq_astore hX (lv' := [(4, .ref (nq_ad E 3)), (0, .ref (nq_ad E 0)), (1, .int x1), (2, .int x2), (3, .int x3)]) (by decide) rfl rfl dX8_route_34 ?_
        refine nq_aload hX 0 rfl dX8_route_36 ?_
        refine nq_iload_n hX rfl 2 rfl dX8_route_38 ?_
        refine nq_iload_n hX rfl 3 rfl dX8_route_39 ?_
        obtain ⟨v15, hc14, h⟩ := nq_bE h
        refine nq_callVi hX (tX2_years (nq_World_roads (nq_Nine_world hL)) hc14) gX8_route_X2_years rfl rfl dsX2_years (by decide) (nq_Roads_0 (nq_World_roads (nq_Nine_world hL))) rfl rfl (Nat.le_of_ble_eq_true rfl) dX8_route_40 ?_
        refine nq_if_lt hX (tgt := 57) (by decide) dX8_route_43 (fun c16 => ?_) (fun c16 => ?_)
        · rw [if_pos c16] at h
          refine nq_aload_n hX rfl 1 rfl dX8_route_57 ?_
          refine nq_iconst hX (v := 2) (by decide) dX8_route_58 ?_
          obtain ⟨v18, M19, hc17, h⟩ := nq_b2E h
          refine nq_callVi hX (tX8_refuse hL hc17) gX8_route_X8_refuse rfl rfl dsX8_refuse (by decide) (nq_Nine_0 hL) rfl rfl (Nat.le_of_ble_eq_true rfl) dX8_route_59 ?_
          obtain ⟨rfl, rfl⟩ := nq_sE2 h; exact nq_iret hX hr dX8_route_62
        · rw [if_neg c16] at h
          refine nq_iload_n hX rfl 4 rfl dX8_route_46 ?_
          refine nq_aload hX 0 rfl dX8_route_47 ?_
          refine nq_iload_n hX rfl 2 rfl dX8_route_49 ?_
          refine nq_iload_n hX rfl 3 rfl dX8_route_50 ?_
          obtain ⟨v21, hc20, h⟩ := nq_bE h
          refine nq_callVi hX (tX2_stops (nq_World_roads (nq_Nine_world hL)) hc20) gX8_route_X2_stops rfl rfl dsX2_stops (by decide) (nq_Roads_0 (nq_World_roads (nq_Nine_world hL))) rfl rfl (Nat.le_of_ble_eq_true rfl) dX8_route_51 ?_
          refine nq_icmp_lt hX (tgt := 63) (by decide) dX8_route_54 (fun c22 => ?_) (fun c22 => ?_)
          · rw [if_pos c22] at h
            refine nq_iload_n hX rfl 4 rfl dX8_route_63 ?_
            refine nq_if_ge hX (tgt := 77) (by decide) dX8_route_64 (fun c23 => ?_) (fun c23 => ?_)
            · rw [if_pos c23] at h
              refine nq_aload hX 0 rfl dX8_route_77 ?_
              refine nq_iload_n hX rfl 2 rfl dX8_route_79 ?_
              refine nq_iload_n hX rfl 3 rfl dX8_route_80 ?_
              refine nq_iload_n hX rfl 4 rfl dX8_route_81 ?_
              obtain ⟨v25, hc24, h⟩ := nq_bE h
              refine nq_callVi hX (tX2_stop (nq_World_roads (nq_Nine_world hL)) hc24) gX8_route_X2_stop rfl rfl dsX2_stop (by decide) (nq_Roads_0 (nq_World_roads (nq_Nine_world hL))) rfl rfl (Nat.le_of_ble_eq_true rfl) dX8_route_82 ?_
              obtain ⟨rfl, rfl⟩ := nq_sE2 h; exact nq_iret hX hr dX8_route_85
            · rw [if_neg c23] at h
              refine nq_aload hX 0 rfl dX8_route_67 ?_
              refine nq_iload_n hX rfl 2 rfl dX8_route_69 ?_
              refine nq_iload_n hX rfl 3 rfl dX8_route_70 ?_
              obtain ⟨v27, hc26, h⟩ := nq_bE h
              refine nq_callVi hX (tX2_stops (nq_World_roads (nq_Nine_world hL)) hc26) gX8_route_X2_stops rfl rfl dsX2_stops (by decide) (nq_Roads_0 (nq_World_roads (nq_Nine_world hL))) rfl rfl (Nat.le_of_ble_eq_true rfl) dX8_route_71 ?_
              refine nq_goto hX (tgt := 85) (by decide) dX8_route_74 ?_
              obtain ⟨rfl, rfl⟩ := nq_sE2 h; exact nq_iret hX hr dX8_route_85
          · rw [if_neg c22] at h
            refine nq_aload_n hX rfl 1 rfl dX8_route_57 ?_
            refine nq_iconst hX (v := 2) (by decide) dX8_route_58 ?_
            obtain ⟨v29, M30, hc28, h⟩ := nq_b2E h
            refine nq_callVi hX (tX8_refuse hL hc28) gX8_route_X8_refuse rfl rfl dsX8_refuse (by decide) (nq_Nine_0 hL) rfl rfl (Nat.le_of_ble_eq_true rfl) dX8_route_59 ?_
            obtain ⟨rfl, rfl⟩ := nq_sE2 h; exact nq_iret hX hr dX8_route_62
      · rw [if_neg c13] at h
        refine nq_aload_n hX rfl 0 rfl dX8_route_21 ?_
        refine nq_iconst hX (v := 1) (by decide) dX8_route_22 ?_
        obtain ⟨v32, M33, hc31, h⟩ := nq_b2E h
        refine nq_callVi hX (tX8_refuse hL hc31) gX8_route_X8_refuse rfl rfl dsX8_refuse (by decide) (nq_Nine_0 hL) rfl rfl (Nat.le_of_ble_eq_true rfl) dX8_route_23 ?_
        obtain ⟨rfl, rfl⟩ := nq_sE2 h; exact nq_iret hX hr dX8_route_26
theorem dsX8_route : yX8_route.cls ≠ "java/lang/invoke/MethodHandle" ∧ yX8_route.cls ≠ "java/lang/invoke/VarHandle" ∧ (parseMethodDescriptor yX8_route.desc).map (fun d => d.parameters.length) = some 3 := by decide +kernel
theorem tX8_route {l : Launch} {E : Ev} {K : List Sh} {x1 : Int32} {x2 : Int32} {x3 : Int32} {M : Mem} {r : Int32} {M' : Mem} (hL : nq_atNine E K) (h : fX8_route x1 x2 x3 M = some (r, M')) : nq_MA l E yX8_route wsX8_route (nq_rm 4) [.ref (nq_ad E 0), .int x1, .int x2, .int x3] K M (some (.int r)) K M' :=
  nq_met (own := RX8) (cc := cX8_route) (maxL := 5) (ret := (some .int)) (by decide) rfl rfl (Nat.le_of_ble_eq_true rfl) (fun X hX hr => mX8_route hL hX hr h)

theorem inX8_rule_8 : ∀ w ∈ u_ws RX8 TX8 11, w ∈ wsX8_rule := by
  intro w h; unfold wsX8_rule; simp only [List.mem_cons, List.mem_append]; simp only [h, true_or, or_true]
theorem lkX8_rule_16 : Cond.fieldLink RX8 16 (TX8 1).1 (TX8 1).2.1 (TX8 1).2.2.1 ∈ wsX8_rule := by decide +kernel
theorem inX8_rule_7 : ∀ w ∈ u_ws RX7 TX7 17, w ∈ wsX8_rule := by
  intro w h; unfold wsX8_rule; simp only [List.mem_cons, List.mem_append]; simp only [h, true_or, or_true]
theorem lkX8_rule_109 : Cond.fieldLink RX8 109 (TX7 10).1 (TX7 10).2.1 (TX7 10).2.2.1 ∈ wsX8_rule := by decide +kernel
theorem lkX8_rule_112 : Cond.fieldLink RX8 112 (TX7 11).1 (TX7 11).2.1 (TX7 11).2.2.1 ∈ wsX8_rule := by decide +kernel
def fX8_rule_L32 (x1 : Int32) (x2 : Int32) (M : Mem) : Option (Int32 × Mem) :=
  if x1 = (1 : Int32) then
  ((fX8_isOutside x2 (2 : Int32) (9 : Int32) M).bind fun v9 =>
  if v9 = 0 then
  (nq_lt (M 2 11) fun v11 =>
  nq_lt (nq_wr M 2 11 x2) fun M12 =>
  some (v11, M12))
  else
  (nq_b2 (fX8_refuse (1 : Int32) M) fun v14 M15 =>
  some (v14, M15)))
  else
  (nq_b2 (fX8_refuse (1 : Int32) M) fun v17 M18 =>
  some (v17, M18))
set_option maxHeartbeats 4000000 in
theorem mX8_rule_L32 {X : Cx} {E : Ev} {l : Launch} {K : List Sh} {x1 : Int32} {x2 : Int32} {M : Mem} {r : Int32} {M' : Mem} (hL : nq_atNine E K) (hX : nq_OK X E l (nq_rm 2) cX8_rule 4 RX8 wsX8_rule) (hr : nq_RT X E (some .int) (some (.int r)) K M') (h : fX8_rule_L32 x1 x2 M = some (r, M')) : nq_G X E 4 32 [(0, .ref (nq_ad E 0)), (1, .int x1), (2, .int x2)] [] K M := by
  unfold fX8_rule_L32 at h
  refine nq_iload_n hX rfl 1 rfl dX8_rule_32 ?_
  refine nq_iconst hX (v := 1) (by decide) dX8_rule_33 ?_
  refine nq_icmp_ne hX (tgt := 65) (by decide) dX8_rule_34 (fun c7 => ?_) (fun c7 => ?_)
  · rw [if_pos c7] at h
    refine nq_iload_n hX rfl 2 rfl dX8_rule_37 ?_
    refine nq_iconst hX (v := 2) (by decide) dX8_rule_38 ?_
    refine nq_bipush hX (v := 9) (by decide) dX8_rule_39 ?_
    obtain ⟨v9, hc8, h⟩ := nq_bE h
    refine nq_callSi hX (tX8_isOutside  hc8) gX8_rule_X8_isOutside rfl rfl dsX8_isOutside (by decide) rfl (Nat.le_of_ble_eq_true rfl) dX8_rule_41 ?_
    refine nq_if_ne hX (tgt := 65) (by decide) dX8_rule_44 (fun c10 => ?_) (fun c10 => ?_)
    · rw [if_pos c10] at h
      refine nq_aload_n hX rfl 0 rfl dX8_rule_47 ?_
      refine nq_getr (v := .ref (nq_ad E 2)) hX inX8_rule_8 (nq_Nine_0 hL) rfl 1 (by decide) lkX8_rule_16 _ rfl rfl dX8_rule_48 ?_
      obtain ⟨v11, e11, h⟩ := nq_ltE h
      refine nq_geti hX inX8_rule_7 (nq_World_0 (nq_Nine_world hL)) rfl 11 (by decide) lkX8_rule_112 rfl e11 dX8_rule_51 ?_
      refine nq_istore_n hX (lv' := [(3, .int v11), (0, .ref (nq_ad E 0)), (1, .int x1), (2, .int x2)]) rfl (by decide) rfl rfl dX8_rule_54 ?_
      refine nq_aload_n hX rfl 1 rfl dX8_rule_55 ?_
      refine nq_getr (v := .ref (nq_ad E 2)) hX inX8_rule_8 (nq_Nine_0 hL) rfl 1 (by decide) lkX8_rule_16 _ rfl rfl dX8_rule_56 ?_
      refine nq_iload_n hX rfl 3 rfl dX8_rule_59 ?_
      obtain ⟨M12, eM12, h⟩ := nq_ltE h
      refine nq_puti hX inX8_rule_7 tyX7 tyX7_ok nmX7 (nq_World_0 (nq_Nine_world hL)) rfl 11 (by decide) lkX8_rule_112 rfl rfl rfl rfl rfl eM12 dX8_rule_60 ?_
      refine nq_iload_n hX rfl 0 rfl dX8_rule_63 ?_
      obtain ⟨rfl, rfl⟩ := nq_sE2 h; exact nq_iret hX hr dX8_rule_64
    · rw [if_neg c10] at h
      refine nq_aload_n hX rfl 0 rfl dX8_rule_65 ?_
      refine nq_iconst hX (v := 1) (by decide) dX8_rule_66 ?_
      obtain ⟨v14, M15, hc13, h⟩ := nq_b2E h
      refine nq_callVi hX (tX8_refuse hL hc13) gX8_rule_X8_refuse rfl rfl dsX8_refuse (by decide) (nq_Nine_0 hL) rfl rfl (Nat.le_of_ble_eq_true rfl) dX8_rule_67 ?_
      obtain ⟨rfl, rfl⟩ := nq_sE2 h; exact nq_iret hX hr dX8_rule_70
  · rw [if_neg c7] at h
    refine nq_aload_n hX rfl 0 rfl dX8_rule_65 ?_
    refine nq_iconst hX (v := 1) (by decide) dX8_rule_66 ?_
    obtain ⟨v17, M18, hc16, h⟩ := nq_b2E h
    refine nq_callVi hX (tX8_refuse hL hc16) gX8_rule_X8_refuse rfl rfl dsX8_refuse (by decide) (nq_Nine_0 hL) rfl rfl (Nat.le_of_ble_eq_true rfl) dX8_rule_67 ?_
    obtain ⟨rfl, rfl⟩ := nq_sE2 h; exact nq_iret hX hr dX8_rule_70
def fX8_rule (x1 : Int32) (x2 : Int32) (M : Mem) : Option (Int32 × Mem) :=
  if x1 = 0 then
  ((fX8_isOutside x2 (0 : Int32) (99 : Int32) M).bind fun v3 =>
  if v3 = 0 then
  (nq_lt (M 2 10) fun v5 =>
  nq_lt (nq_wr M 2 10 x2) fun M6 =>
  some (v5, M6))
  else
  (fX8_rule_L32 x1 x2 M))
  else
  (fX8_rule_L32 x1 x2 M)
set_option maxHeartbeats 4000000 in
theorem mX8_rule {X : Cx} {E : Ev} {l : Launch} {K : List Sh} {x1 : Int32} {x2 : Int32} {M : Mem} {r : Int32} {M' : Mem} (hL : nq_atNine E K) (hX : nq_OK X E l (nq_rm 2) cX8_rule 4 RX8 wsX8_rule) (hr : nq_RT X E (some .int) (some (.int r)) K M') (h : fX8_rule x1 x2 M = some (r, M')) : nq_G X E 4 0 [(0, .ref (nq_ad E 0)), (1, .int x1), (2, .int x2)] [] K M := by
  unfold fX8_rule at h
  refine nq_iload_n hX rfl 1 rfl dX8_rule_0 ?_
  refine nq_if_ne hX (tgt := 32) (by decide) dX8_rule_1 (fun c1 => ?_) (fun c1 => ?_)
  · rw [if_pos c1] at h
    refine nq_iload_n hX rfl 2 rfl dX8_rule_4 ?_
    refine nq_iconst hX (v := 0) (by decide) dX8_rule_5 ?_
    refine nq_bipush hX (v := 99) (by decide) dX8_rule_6 ?_
    obtain ⟨v3, hc2, h⟩ := nq_bE h
    refine nq_callSi hX (tX8_isOutside  hc2) gX8_rule_X8_isOutside rfl rfl dsX8_isOutside (by decide) rfl (Nat.le_of_ble_eq_true rfl) dX8_rule_8 ?_
    refine nq_if_ne hX (tgt := 32) (by decide) dX8_rule_11 (fun c4 => ?_) (fun c4 => ?_)
    · rw [if_pos c4] at h
      refine nq_aload_n hX rfl 0 rfl dX8_rule_14 ?_
      refine nq_getr (v := .ref (nq_ad E 2)) hX inX8_rule_8 (nq_Nine_0 hL) rfl 1 (by decide) lkX8_rule_16 _ rfl rfl dX8_rule_15 ?_
      obtain ⟨v5, e5, h⟩ := nq_ltE h
      refine nq_geti hX inX8_rule_7 (nq_World_0 (nq_Nine_world hL)) rfl 10 (by decide) lkX8_rule_109 rfl e5 dX8_rule_18 ?_
      refine nq_istore_n hX (lv' := [(3, .int v5), (0, .ref (nq_ad E 0)), (1, .int x1), (2, .int x2)]) rfl (by decide) rfl rfl dX8_rule_21 ?_
      refine nq_aload_n hX rfl 1 rfl dX8_rule_22 ?_
      refine nq_getr (v := .ref (nq_ad E 2)) hX inX8_rule_8 (nq_Nine_0 hL) rfl 1 (by decide) lkX8_rule_16 _ rfl rfl dX8_rule_23 ?_
      refine nq_iload_n hX rfl 3 rfl dX8_rule_26 ?_
      obtain ⟨M6, eM6, h⟩ := nq_ltE h
      refine nq_puti hX inX8_rule_7 tyX7 tyX7_ok nmX7 (nq_World_0 (nq_Nine_world hL)) rfl 10 (by decide) lkX8_rule_109 rfl rfl rfl rfl rfl eM6 dX8_rule_27 ?_
      refine nq_iload_n hX rfl 0 rfl dX8_rule_30 ?_
      obtain ⟨rfl, rfl⟩ := nq_sE2 h; exact nq_iret hX hr dX8_rule_31
    · rw [if_neg c4] at h
      exact mX8_rule_L32 hL hX hr h
  · rw [if_neg c1] at h
    exact mX8_rule_L32 hL hX hr h
theorem dsX8_rule : yX8_rule.cls ≠ "java/lang/invoke/MethodHandle" ∧ yX8_rule.cls ≠ "java/lang/invoke/VarHandle" ∧ (parseMethodDescriptor yX8_rule.desc).map (fun d => d.parameters.length) = some 2 := by decide +kernel
theorem tX8_rule {l : Launch} {E : Ev} {K : List Sh} {x1 : Int32} {x2 : Int32} {M : Mem} {r : Int32} {M' : Mem} (hL : nq_atNine E K) (h : fX8_rule x1 x2 M = some (r, M')) : nq_MA l E yX8_rule wsX8_rule (nq_rm 2) [.ref (nq_ad E 0), .int x1, .int x2] K M (some (.int r)) K M' :=
  nq_met (own := RX8) (cc := cX8_rule) (maxL := 4) (ret := (some .int)) (by decide) rfl rfl (Nat.le_of_ble_eq_true rfl) (fun X hX hr => mX8_rule hL hX hr h)

def fX8_isPart (x0 : Int32) (x1 : Int32) (M : Mem) : Option (Int32) :=
  if x0 < 0 then
  (some (0 : Int32))
  else
  ((nq_rem x0 (10 : Int32)).bind fun v2 =>
  (fX8_isOutside v2 (1 : Int32) x1 M).bind fun v4 =>
  if v4 = 0 then
  ((nq_dv x0 (10 : Int32)).bind fun v6 =>
  (nq_rem x0 (10 : Int32)).bind fun v7 =>
  if v7 < v6 then
  (some (0 : Int32))
  else
  (some (1 : Int32)))
  else
  (some (0 : Int32)))
set_option maxHeartbeats 4000000 in
theorem mX8_isPart {X : Cx} {E : Ev} {l : Launch} {K : List Sh} {x0 : Int32} {x1 : Int32} {M : Mem} {r : Int32}  (hX : nq_OK X E l (nq_rm 2) cX8_isPart 2 RX8 wsX8_isPart) (hr : nq_RT X E (some .boolean) (some (.int r)) K M) (h : fX8_isPart x0 x1 M = some r) : nq_G X E 2 0 [(0, .int x0), (1, .int x1)] [] K M := by
  unfold fX8_isPart at h
  refine nq_iload_n hX rfl 0 rfl dX8_isPart_0 ?_
  refine nq_if_lt hX (tgt := 31) (by decide) dX8_isPart_1 (fun c1 => ?_) (fun c1 => ?_)
  · rw [if_pos c1] at h
    refine nq_iconst hX (v := 0) (by decide) dX8_isPart_31 ?_
    obtain rfl := nq_sE1 h; exact nq_zret hX hr rfl dX8_isPart_32
  · rw [if_neg c1] at h
    refine nq_iload_n hX rfl 0 rfl dX8_isPart_4 ?_
    refine nq_bipush hX (v := 10) (by decide) dX8_isPart_5 ?_
    obtain ⟨v2, e2, hn2, h⟩ := nq_ifE h
    refine nq_irem hX hn2 e2 dX8_isPart_7 ?_
    refine nq_iconst hX (v := 1) (by decide) dX8_isPart_8 ?_
    refine nq_iload_n hX rfl 1 rfl dX8_isPart_9 ?_
    obtain ⟨v4, hc3, h⟩ := nq_bE h
    refine nq_callSi hX (tX8_isOutside  hc3) gX8_isPart_X8_isOutside rfl rfl dsX8_isOutside (by decide) rfl (Nat.le_of_ble_eq_true rfl) dX8_isPart_10 ?_
    refine nq_if_ne hX (tgt := 31) (by decide) dX8_isPart_13 (fun c5 => ?_) (fun c5 => ?_)
    · rw [if_pos c5] at h
      refine nq_iload_n hX rfl 0 rfl dX8_isPart_16 ?_
      refine nq_bipush hX (v := 10) (by decide) dX8_isPart_17 ?_
      obtain ⟨v6, e6, hn6, h⟩ := nq_ifE h
      refine nq_idiv hX hn6 e6 dX8_isPart_19 ?_
      refine nq_iload_n hX rfl 0 rfl dX8_isPart_20 ?_
      refine nq_bipush hX (v := 10) (by decide) dX8_isPart_21 ?_
      obtain ⟨v7, e7, hn7, h⟩ := nq_ifE h
      refine nq_irem hX hn7 e7 dX8_isPart_23 ?_
      refine nq_icmp_gt hX (tgt := 31) (by decide) dX8_isPart_24 (fun c8 => ?_) (fun c8 => ?_)
      · rw [if_pos c8] at h
        refine nq_iconst hX (v := 0) (by decide) dX8_isPart_31 ?_
        obtain rfl := nq_sE1 h; exact nq_zret hX hr rfl dX8_isPart_32
      · rw [if_neg c8] at h
        refine nq_iconst hX (v := 1) (by decide) dX8_isPart_27 ?_
        refine nq_goto hX (tgt := 32) (by decide) dX8_isPart_28 ?_
        obtain rfl := nq_sE1 h; exact nq_zret hX hr rfl dX8_isPart_32
    · rw [if_neg c5] at h
      refine nq_iconst hX (v := 0) (by decide) dX8_isPart_31 ?_
      obtain rfl := nq_sE1 h; exact nq_zret hX hr rfl dX8_isPart_32
theorem dsX8_isPart : yX8_isPart.cls ≠ "java/lang/invoke/MethodHandle" ∧ yX8_isPart.cls ≠ "java/lang/invoke/VarHandle" ∧ (parseMethodDescriptor yX8_isPart.desc).map (fun d => d.parameters.length) = some 2 := by decide +kernel
theorem tX8_isPart {l : Launch} {E : Ev} {K : List Sh} {x0 : Int32} {x1 : Int32} {M : Mem} {r : Int32}  (h : fX8_isPart x0 x1 M = some r) : nq_MA l E yX8_isPart wsX8_isPart (nq_rm 2) [.int x0, .int x1] K M (some (.int r)) K M :=
  nq_met (own := RX8) (cc := cX8_isPart) (maxL := 2) (ret := (some .boolean)) (by decide) rfl rfl (Nat.le_of_ble_eq_true rfl) (fun X hX hr => mX8_isPart  hX hr h)

theorem inX8_loss_8 : ∀ w ∈ u_ws RX8 TX8 11, w ∈ wsX8_loss := by
  intro w h; unfold wsX8_loss; simp only [List.mem_cons, List.mem_append]; simp only [h, true_or, or_true]
theorem lkX8_loss_16 : Cond.fieldLink RX8 16 (TX8 1).1 (TX8 1).2.1 (TX8 1).2.2.1 ∈ wsX8_loss := by decide +kernel
theorem inX8_loss_7 : ∀ w ∈ u_ws RX7 TX7 17, w ∈ wsX8_loss := by
  intro w h; unfold wsX8_loss; simp only [List.mem_cons, List.mem_append]; simp only [h, true_or, or_true]
theorem lkX8_loss_118 : Cond.fieldLink RX8 118 (TX7 12).1 (TX7 12).2.1 (TX7 12).2.2.1 ∈ wsX8_loss := by decide +kernel
def fX8_loss (x1 : Int32) (M : Mem) : Option (Int32 × Mem) :=
  (fX8_isPart x1 (9 : Int32) M).bind fun v2 =>
  if v2 = 0 then
  (nq_b2 (fX8_refuse (1 : Int32) M) fun v5 M6 =>
  some (v5, M6))
  else
  (nq_lt (M 2 12) fun v7 =>
  nq_lt (nq_wr M 2 12 x1) fun M8 =>
  some (v7, M8))
set_option maxHeartbeats 4000000 in
theorem mX8_loss {X : Cx} {E : Ev} {l : Launch} {K : List Sh} {x1 : Int32} {M : Mem} {r : Int32} {M' : Mem} (hL : nq_atNine E K) (hX : nq_OK X E l (nq_rm 3) cX8_loss 3 RX8 wsX8_loss) (hr : nq_RT X E (some .int) (some (.int r)) K M') (h : fX8_loss x1 M = some (r, M')) : nq_G X E 3 0 [(0, .ref (nq_ad E 0)), (1, .int x1)] [] K M := by
  unfold fX8_loss at h
  refine nq_iload_n hX rfl 1 rfl dX8_loss_0 ?_
  refine nq_bipush hX (v := 9) (by decide) dX8_loss_1 ?_
  obtain ⟨v2, hc1, h⟩ := nq_bE h
  refine nq_callSi hX (tX8_isPart  hc1) gX8_loss_X8_isPart rfl rfl dsX8_isPart (by decide) rfl (Nat.le_of_ble_eq_true rfl) dX8_loss_3 ?_
  refine nq_if_ne hX (tgt := 15) (by decide) dX8_loss_6 (fun c3 => ?_) (fun c3 => ?_)
  · rw [if_pos c3] at h
    refine nq_aload_n hX rfl 0 rfl dX8_loss_9 ?_
    refine nq_iconst hX (v := 1) (by decide) dX8_loss_10 ?_
    obtain ⟨v5, M6, hc4, h⟩ := nq_b2E h
    refine nq_callVi hX (tX8_refuse hL hc4) gX8_loss_X8_refuse rfl rfl dsX8_refuse (by decide) (nq_Nine_0 hL) rfl rfl (Nat.le_of_ble_eq_true rfl) dX8_loss_11 ?_
    obtain ⟨rfl, rfl⟩ := nq_sE2 h; exact nq_iret hX hr dX8_loss_14
  · rw [if_neg c3] at h
    refine nq_aload_n hX rfl 0 rfl dX8_loss_15 ?_
    refine nq_getr (v := .ref (nq_ad E 2)) hX inX8_loss_8 (nq_Nine_0 hL) rfl 1 (by decide) lkX8_loss_16 _ rfl rfl dX8_loss_16 ?_
    obtain ⟨v7, e7, h⟩ := nq_ltE h
    refine nq_geti hX inX8_loss_7 (nq_World_0 (nq_Nine_world hL)) rfl 12 (by decide) lkX8_loss_118 rfl e7 dX8_loss_19 ?_
    refine nq_istore_n hX (lv' := [(2, .int v7), (0, .ref (nq_ad E 0)), (1, .int x1)]) rfl (by decide) rfl rfl dX8_loss_22 ?_
    refine nq_aload_n hX rfl 1 rfl dX8_loss_23 ?_
    refine nq_getr (v := .ref (nq_ad E 2)) hX inX8_loss_8 (nq_Nine_0 hL) rfl 1 (by decide) lkX8_loss_16 _ rfl rfl dX8_loss_24 ?_
    refine nq_iload_n hX rfl 2 rfl dX8_loss_27 ?_
    obtain ⟨M8, eM8, h⟩ := nq_ltE h
    refine nq_puti hX inX8_loss_7 tyX7 tyX7_ok nmX7 (nq_World_0 (nq_Nine_world hL)) rfl 12 (by decide) lkX8_loss_118 rfl rfl rfl rfl rfl eM8 dX8_loss_28 ?_
    refine nq_iload_n hX rfl 0 rfl dX8_loss_31 ?_
    obtain ⟨rfl, rfl⟩ := nq_sE2 h; exact nq_iret hX hr dX8_loss_32
theorem dsX8_loss : yX8_loss.cls ≠ "java/lang/invoke/MethodHandle" ∧ yX8_loss.cls ≠ "java/lang/invoke/VarHandle" ∧ (parseMethodDescriptor yX8_loss.desc).map (fun d => d.parameters.length) = some 1 := by decide +kernel
theorem tX8_loss {l : Launch} {E : Ev} {K : List Sh} {x1 : Int32} {M : Mem} {r : Int32} {M' : Mem} (hL : nq_atNine E K) (h : fX8_loss x1 M = some (r, M')) : nq_MA l E yX8_loss wsX8_loss (nq_rm 3) [.ref (nq_ad E 0), .int x1] K M (some (.int r)) K M' :=
  nq_met (own := RX8) (cc := cX8_loss) (maxL := 3) (ret := (some .int)) (by decide) rfl rfl (Nat.le_of_ble_eq_true rfl) (fun X hX hr => mX8_loss hL hX hr h)

def fX8_isPair (x1 : Int32) (M : Mem) : Option (Int32) :=
  if x1 < 0 then
  (some (0 : Int32))
  else
  ((nq_dv x1 (10 : Int32)).bind fun v2 =>
  (nq_rem x1 (10 : Int32)).bind fun v3 =>
  (fX8_areTwo v2 v3 M).bind fun v5 =>
  if v5 = 0 then
  (some (0 : Int32))
  else
  (some (1 : Int32)))
set_option maxHeartbeats 4000000 in
theorem mX8_isPair {X : Cx} {E : Ev} {l : Launch} {K : List Sh} {x1 : Int32} {M : Mem} {r : Int32} (hL : nq_atNine E K) (hX : nq_OK X E l (nq_rm 4) cX8_isPair 2 RX8 wsX8_isPair) (hr : nq_RT X E (some .boolean) (some (.int r)) K M) (h : fX8_isPair x1 M = some r) : nq_G X E 2 0 [(0, .ref (nq_ad E 0)), (1, .int x1)] [] K M := by
  unfold fX8_isPair at h
  refine nq_iload_n hX rfl 1 rfl dX8_isPair_0 ?_
  refine nq_if_lt hX (tgt := 23) (by decide) dX8_isPair_1 (fun c1 => ?_) (fun c1 => ?_)
  · rw [if_pos c1] at h
    refine nq_iconst hX (v := 0) (by decide) dX8_isPair_23 ?_
    obtain rfl := nq_sE1 h; exact nq_zret hX hr rfl dX8_isPair_24
  · rw [if_neg c1] at h
    refine nq_aload_n hX rfl 0 rfl dX8_isPair_4 ?_
    refine nq_iload_n hX rfl 1 rfl dX8_isPair_5 ?_
    refine nq_bipush hX (v := 10) (by decide) dX8_isPair_6 ?_
    obtain ⟨v2, e2, hn2, h⟩ := nq_ifE h
    refine nq_idiv hX hn2 e2 dX8_isPair_8 ?_
    refine nq_iload_n hX rfl 1 rfl dX8_isPair_9 ?_
    refine nq_bipush hX (v := 10) (by decide) dX8_isPair_10 ?_
    obtain ⟨v3, e3, hn3, h⟩ := nq_ifE h
    refine nq_irem hX hn3 e3 dX8_isPair_12 ?_
    obtain ⟨v5, hc4, h⟩ := nq_bE h
    refine nq_callVi hX (tX8_areTwo hL hc4) gX8_isPair_X8_areTwo rfl rfl dsX8_areTwo (by decide) (nq_Nine_0 hL) rfl rfl (Nat.le_of_ble_eq_true rfl) dX8_isPair_13 ?_
    refine nq_if_eq hX (tgt := 23) (by decide) dX8_isPair_16 (fun c6 => ?_) (fun c6 => ?_)
    · rw [if_pos c6] at h
      refine nq_iconst hX (v := 0) (by decide) dX8_isPair_23 ?_
      obtain rfl := nq_sE1 h; exact nq_zret hX hr rfl dX8_isPair_24
    · rw [if_neg c6] at h
      refine nq_iconst hX (v := 1) (by decide) dX8_isPair_19 ?_
      refine nq_goto hX (tgt := 24) (by decide) dX8_isPair_20 ?_
      obtain rfl := nq_sE1 h; exact nq_zret hX hr rfl dX8_isPair_24
theorem dsX8_isPair : yX8_isPair.cls ≠ "java/lang/invoke/MethodHandle" ∧ yX8_isPair.cls ≠ "java/lang/invoke/VarHandle" ∧ (parseMethodDescriptor yX8_isPair.desc).map (fun d => d.parameters.length) = some 1 := by decide +kernel
theorem tX8_isPair {l : Launch} {E : Ev} {K : List Sh} {x1 : Int32} {M : Mem} {r : Int32} (hL : nq_atNine E K) (h : fX8_isPair x1 M = some r) : nq_MA l E yX8_isPair wsX8_isPair (nq_rm 4) [.ref (nq_ad E 0), .int x1] K M (some (.int r)) K M :=
  nq_met (own := RX8) (cc := cX8_isPair) (maxL := 2) (ret := (some .boolean)) (by decide) rfl rfl (Nat.le_of_ble_eq_true rfl) (fun X hX hr => mX8_isPair hL hX hr h)

def fX8_isPact (x0 : Int32) (M : Mem) : Option (Int32) :=
  (fX8_isOutside x0 (0 : Int32) (3 : Int32) M).bind fun v2 =>
  if v2 = 0 then
  (some (1 : Int32))
  else
  (some (0 : Int32))
set_option maxHeartbeats 4000000 in
theorem mX8_isPact {X : Cx} {E : Ev} {l : Launch} {K : List Sh} {x0 : Int32} {M : Mem} {r : Int32}  (hX : nq_OK X E l (nq_rm 2) cX8_isPact 1 RX8 wsX8_isPact) (hr : nq_RT X E (some .boolean) (some (.int r)) K M) (h : fX8_isPact x0 M = some r) : nq_G X E 1 0 [(0, .int x0)] [] K M := by
  unfold fX8_isPact at h
  refine nq_iload_n hX rfl 0 rfl dX8_isPact_0 ?_
  refine nq_iconst hX (v := 0) (by decide) dX8_isPact_1 ?_
  refine nq_iconst hX (v := 3) (by decide) dX8_isPact_2 ?_
  obtain ⟨v2, hc1, h⟩ := nq_bE h
  refine nq_callSi hX (tX8_isOutside  hc1) gX8_isPact_X8_isOutside rfl rfl dsX8_isOutside (by decide) rfl (Nat.le_of_ble_eq_true rfl) dX8_isPact_3 ?_
  refine nq_if_ne hX (tgt := 13) (by decide) dX8_isPact_6 (fun c3 => ?_) (fun c3 => ?_)
  · rw [if_pos c3] at h
    refine nq_iconst hX (v := 1) (by decide) dX8_isPact_9 ?_
    refine nq_goto hX (tgt := 14) (by decide) dX8_isPact_10 ?_
    obtain rfl := nq_sE1 h; exact nq_zret hX hr rfl dX8_isPact_14
  · rw [if_neg c3] at h
    refine nq_iconst hX (v := 0) (by decide) dX8_isPact_13 ?_
    obtain rfl := nq_sE1 h; exact nq_zret hX hr rfl dX8_isPact_14
theorem dsX8_isPact : yX8_isPact.cls ≠ "java/lang/invoke/MethodHandle" ∧ yX8_isPact.cls ≠ "java/lang/invoke/VarHandle" ∧ (parseMethodDescriptor yX8_isPact.desc).map (fun d => d.parameters.length) = some 1 := by decide +kernel
theorem tX8_isPact {l : Launch} {E : Ev} {K : List Sh} {x0 : Int32} {M : Mem} {r : Int32}  (h : fX8_isPact x0 M = some r) : nq_MA l E yX8_isPact wsX8_isPact (nq_rm 2) [.int x0] K M (some (.int r)) K M :=
  nq_met (own := RX8) (cc := cX8_isPact) (maxL := 1) (ret := (some .boolean)) (by decide) rfl rfl (Nat.le_of_ble_eq_true rfl) (fun X hX hr => mX8_isPact  hX hr h)

theorem inX8_faultOfWord_8 : ∀ w ∈ u_ws RX8 TX8 11, w ∈ wsX8_faultOfWord := by
  intro w h; unfold wsX8_faultOfWord; simp only [List.mem_cons, List.mem_append]; simp only [h, true_or, or_true]
theorem lkX8_faultOfWord_16 : Cond.fieldLink RX8 16 (TX8 1).1 (TX8 1).2.1 (TX8 1).2.2.1 ∈ wsX8_faultOfWord := by decide +kernel
theorem inX8_faultOfWord_7 : ∀ w ∈ u_ws RX7 TX7 17, w ∈ wsX8_faultOfWord := by
  intro w h; unfold wsX8_faultOfWord; simp only [List.mem_cons, List.mem_append]; simp only [h, true_or, or_true]
theorem lkX8_faultOfWord_70 : Cond.fieldLink RX8 70 (TX7 0).1 (TX7 0).2.1 (TX7 0).2.2.1 ∈ wsX8_faultOfWord := by decide +kernel
theorem lkX8_faultOfWord_29 : Cond.fieldLink RX8 29 (TX7 1).1 (TX7 1).2.1 (TX7 1).2.2.1 ∈ wsX8_faultOfWord := by decide +kernel
theorem inX8_faultOfWord_0 : ∀ w ∈ u_ws RX0 TX0 11, w ∈ wsX8_faultOfWord := by
  intro w h; unfold wsX8_faultOfWord; simp only [List.mem_cons, List.mem_append]; simp only [h, true_or, or_true]
theorem lkX8_faultOfWord_325 : Cond.fieldLink RX8 325 (TX0 0).1 (TX0 0).2.1 (TX0 0).2.2.1 ∈ wsX8_faultOfWord := by decide +kernel
def fX8_faultOfWord (x1 : Int32) (x2 : Int32) (x3 : Int32) (M : Mem) : Option (Int32) :=
  (fX8_isOutside x1 (0 : Int32) (6 : Int32) M).bind fun v2 =>
  if v2 = 0 then
  ((fX8_isPair x2 M).bind fun v5 =>
  if v5 = 0 then
  (some (1 : Int32))
  else
  ((fX8_isPact x3 M).bind fun v8 =>
  if v8 = 0 then
  (some (1 : Int32))
  else
  ((nq_dv x2 (10 : Int32)).bind fun v10 =>
  (nq_rem x2 (10 : Int32)).bind fun v11 =>
  (fX2_years 3 v10 v11 M).bind fun v13 =>
  if 0 ≤ v13 then
  (nq_lt (M 6 0) fun v15 =>
  if v15 < (80 : Int32) then
  (some (0 : Int32))
  else
  (some (4 : Int32)))
  else
  (some (2 : Int32)))))
  else
  (some (1 : Int32))
set_option maxHeartbeats 4000000 in
theorem mX8_faultOfWord {X : Cx} {E : Ev} {l : Launch} {K : List Sh} {x1 : Int32} {x2 : Int32} {x3 : Int32} {M : Mem} {r : Int32} (hL : nq_atNine E K) (hX : nq_OK X E l (nq_rm 5) cX8_faultOfWord 4 RX8 wsX8_faultOfWord) (hr : nq_RT X E (some .int) (some (.int r)) K M) (h : fX8_faultOfWord x1 x2 x3 M = some r) : nq_G X E 4 0 [(0, .ref (nq_ad E 0)), (1, .int x1), (2, .int x2), (3, .int x3)] [] K M := by
  unfold fX8_faultOfWord at h
  refine nq_iload_n hX rfl 1 rfl dX8_faultOfWord_0 ?_
  refine nq_iconst hX (v := 0) (by decide) dX8_faultOfWord_1 ?_
  refine nq_bipush hX (v := 6) (by decide) dX8_faultOfWord_2 ?_
  obtain ⟨v2, hc1, h⟩ := nq_bE h
  refine nq_callSi hX (tX8_isOutside  hc1) gX8_faultOfWord_X8_isOutside rfl rfl dsX8_isOutside (by decide) rfl (Nat.le_of_ble_eq_true rfl) dX8_faultOfWord_4 ?_
  refine nq_if_ne hX (tgt := 25) (by decide) dX8_faultOfWord_7 (fun c3 => ?_) (fun c3 => ?_)
  · rw [if_pos c3] at h
    refine nq_aload_n hX rfl 0 rfl dX8_faultOfWord_10 ?_
    refine nq_iload_n hX rfl 2 rfl dX8_faultOfWord_11 ?_
    obtain ⟨v5, hc4, h⟩ := nq_bE h
    refine nq_callVi hX (tX8_isPair hL hc4) gX8_faultOfWord_X8_isPair rfl rfl dsX8_isPair (by decide) (nq_Nine_0 hL) rfl rfl (Nat.le_of_ble_eq_true rfl) dX8_faultOfWord_12 ?_
    refine nq_if_eq hX (tgt := 25) (by decide) dX8_faultOfWord_15 (fun c6 => ?_) (fun c6 => ?_)
    · rw [if_pos c6] at h
      refine nq_iconst hX (v := 1) (by decide) dX8_faultOfWord_25 ?_
      obtain rfl := nq_sE1 h; exact nq_iret hX hr dX8_faultOfWord_26
    · rw [if_neg c6] at h
      refine nq_iload_n hX rfl 3 rfl dX8_faultOfWord_18 ?_
      obtain ⟨v8, hc7, h⟩ := nq_bE h
      refine nq_callSi hX (tX8_isPact  hc7) gX8_faultOfWord_X8_isPact rfl rfl dsX8_isPact (by decide) rfl (Nat.le_of_ble_eq_true rfl) dX8_faultOfWord_19 ?_
      refine nq_if_ne hX (tgt := 27) (by decide) dX8_faultOfWord_22 (fun c9 => ?_) (fun c9 => ?_)
      · rw [if_pos c9] at h
        refine nq_iconst hX (v := 1) (by decide) dX8_faultOfWord_25 ?_
        obtain rfl := nq_sE1 h; exact nq_iret hX hr dX8_faultOfWord_26
      · rw [if_neg c9] at h
        refine nq_aload_n hX rfl 0 rfl dX8_faultOfWord_27 ?_
        refine nq_getr (v := .ref (nq_ad E 2)) hX inX8_faultOfWord_8 (nq_Nine_0 hL) rfl 1 (by decide) lkX8_faultOfWord_16 _ rfl rfl dX8_faultOfWord_28 ?_
        refine nq_getr (v := .ref (nq_ad E 3)) hX inX8_faultOfWord_7 (nq_World_0 (nq_Nine_world hL)) rfl 0 (by decide) lkX8_faultOfWord_70 _ rfl rfl dX8_faultOfWord_31 ?_
        refine nq_iload_n hX rfl 2 rfl dX8_faultOfWord_34 ?_
        refine nq_bipush hX (v := 10) (by decide) dX8_faultOfWord_35 ?_
        obtain ⟨v10, e10, hn10, h⟩ := nq_ifE h
        refine nq_idiv hX hn10 e10 dX8_faultOfWord_37 ?_
        refine nq_iload_n hX rfl 2 rfl dX8_faultOfWord_38 ?_
        refine nq_bipush hX (v := 10) (by decide) dX8_faultOfWord_39 ?_
        obtain ⟨v11, e11, hn11, h⟩ := nq_ifE h
        refine nq_irem hX hn11 e11 dX8_faultOfWord_41 ?_
        obtain ⟨v13, hc12, h⟩ := nq_bE h
        refine nq_callVi hX (tX2_years (nq_World_roads (nq_Nine_world hL)) hc12) gX8_faultOfWord_X2_years rfl rfl dsX2_years (by decide) (nq_Roads_0 (nq_World_roads (nq_Nine_world hL))) rfl rfl (Nat.le_of_ble_eq_true rfl) dX8_faultOfWord_42 ?_
        refine nq_if_ge hX (tgt := 50) (by decide) dX8_faultOfWord_45 (fun c14 => ?_) (fun c14 => ?_)
        · rw [if_pos c14] at h
          refine nq_aload_n hX rfl 0 rfl dX8_faultOfWord_50 ?_
          refine nq_getr (v := .ref (nq_ad E 2)) hX inX8_faultOfWord_8 (nq_Nine_0 hL) rfl 1 (by decide) lkX8_faultOfWord_16 _ rfl rfl dX8_faultOfWord_51 ?_
          refine nq_getr (v := .ref (nq_ad E 6)) hX inX8_faultOfWord_7 (nq_World_0 (nq_Nine_world hL)) rfl 1 (by decide) lkX8_faultOfWord_29 _ rfl rfl dX8_faultOfWord_54 ?_
          obtain ⟨v15, e15, h⟩ := nq_ltE h
          refine nq_geti hX inX8_faultOfWord_0 (nq_Letters_0 (nq_World_letters (nq_Nine_world hL))) rfl 0 (by decide) lkX8_faultOfWord_325 rfl e15 dX8_faultOfWord_57 ?_
          refine nq_bipush hX (v := 80) (by decide) dX8_faultOfWord_60 ?_
          refine nq_icmp_lt hX (tgt := 69) (by decide) dX8_faultOfWord_62 (fun c16 => ?_) (fun c16 => ?_)
          · rw [if_pos c16] at h
            refine nq_iconst hX (v := 0) (by decide) dX8_faultOfWord_69 ?_
            obtain rfl := nq_sE1 h; exact nq_iret hX hr dX8_faultOfWord_70
          · rw [if_neg c16] at h
            refine nq_iconst hX (v := 4) (by decide) dX8_faultOfWord_65 ?_
            refine nq_goto hX (tgt := 70) (by decide) dX8_faultOfWord_66 ?_
            obtain rfl := nq_sE1 h; exact nq_iret hX hr dX8_faultOfWord_70
        · rw [if_neg c14] at h
          refine nq_iconst hX (v := 2) (by decide) dX8_faultOfWord_48 ?_
          obtain rfl := nq_sE1 h; exact nq_iret hX hr dX8_faultOfWord_49
  · rw [if_neg c3] at h
    refine nq_iconst hX (v := 1) (by decide) dX8_faultOfWord_25 ?_
    obtain rfl := nq_sE1 h; exact nq_iret hX hr dX8_faultOfWord_26
theorem dsX8_faultOfWord : yX8_faultOfWord.cls ≠ "java/lang/invoke/MethodHandle" ∧ yX8_faultOfWord.cls ≠ "java/lang/invoke/VarHandle" ∧ (parseMethodDescriptor yX8_faultOfWord.desc).map (fun d => d.parameters.length) = some 3 := by decide +kernel
theorem tX8_faultOfWord {l : Launch} {E : Ev} {K : List Sh} {x1 : Int32} {x2 : Int32} {x3 : Int32} {M : Mem} {r : Int32} (hL : nq_atNine E K) (h : fX8_faultOfWord x1 x2 x3 M = some r) : nq_MA l E yX8_faultOfWord wsX8_faultOfWord (nq_rm 5) [.ref (nq_ad E 0), .int x1, .int x2, .int x3] K M (some (.int r)) K M :=
  nq_met (own := RX8) (cc := cX8_faultOfWord) (maxL := 4) (ret := (some .int)) (by decide) rfl rfl (Nat.le_of_ble_eq_true rfl) (fun X hX hr => mX8_faultOfWord hL hX hr h)

theorem inX8_word_8 : ∀ w ∈ u_ws RX8 TX8 11, w ∈ wsX8_word := by
  intro w h; unfold wsX8_word; simp only [List.mem_cons, List.mem_append]; simp only [h, true_or, or_true]
theorem lkX8_word_16 : Cond.fieldLink RX8 16 (TX8 1).1 (TX8 1).2.1 (TX8 1).2.2.1 ∈ wsX8_word := by decide +kernel
def fX8_word (x1 : Int32) (x2 : Int32) (x3 : Int32) (M : Mem) : Option (Int32 × Mem) :=
  (fX8_faultOfWord x1 x2 x3 M).bind fun v2 =>
  if v2 = 0 then
  ((nq_dv x2 (10 : Int32)).bind fun v4 =>
  (nq_rem x2 (10 : Int32)).bind fun v5 =>
  nq_b2 (fX7_send 2 x1 v4 v5 x3 M) fun v7 M8 =>
  some (v7, M8))
  else
  (nq_b2 (fX8_refuse v2 M) fun v10 M11 =>
  some (v10, M11))
set_option maxHeartbeats 4000000 in
theorem mX8_word {X : Cx} {E : Ev} {l : Launch} {K : List Sh} {x1 : Int32} {x2 : Int32} {x3 : Int32} {M : Mem} {r : Int32} {M' : Mem} (hL : nq_atNine E K) (hX : nq_OK X E l (nq_rm 6) cX8_word 5 RX8 wsX8_word) (hr : nq_RT X E (some .int) (some (.int r)) K M') (h : fX8_word x1 x2 x3 M = some (r, M')) : nq_G X E 5 0 [(0, .ref (nq_ad E 0)), (1, .int x1), (2, .int x2), (3, .int x3)] [] K M := by
  unfold fX8_word at h
  refine nq_aload_n hX rfl 0 rfl dX8_word_0 ?_
  refine nq_iload_n hX rfl 1 rfl dX8_word_1 ?_
  refine nq_iload_n hX rfl 2 rfl dX8_word_2 ?_
  refine nq_iload_n hX rfl 3 rfl dX8_word_3 ?_
  obtain ⟨v2, hc1, h⟩ := nq_bE h
  refine nq_callVi hX (tX8_faultOfWord hL hc1) gX8_word_X8_faultOfWord rfl rfl dsX8_faultOfWord (by decide) (nq_Nine_0 hL) rfl rfl (Nat.le_of_ble_eq_true rfl) dX8_word_4 ?_
  refine nq_istore hX (lv' := [(4, .int v2), (0, .ref (nq_ad E 0)), (1, .int x1), (2, .int x2), (3, .int x3)]) (by decide) rfl rfl dX8_word_7 ?_
  refine nq_iload hX 0 rfl dX8_word_9 ?_
  refine nq_if_eq hX (tgt := 23) (by decide) dX8_word_11 (fun c3 => ?_) (fun c3 => ?_)
  · rw [if_pos c3] at h
    refine nq_aload_n hX rfl 1 rfl dX8_word_23 ?_
    refine nq_getr (v := .ref (nq_ad E 2)) hX inX8_word_8 (nq_Nine_0 hL) rfl 1 (by decide) lkX8_word_16 _ rfl rfl dX8_word_24 ?_
    refine nq_iload_n hX rfl 2 rfl dX8_word_27 ?_
    refine nq_iload_n hX rfl 3 rfl dX8_word_28 ?_
    refine nq_bipush hX (v := 10) (by decide) dX8_word_29 ?_
    obtain ⟨v4, e4, hn4, h⟩ := nq_ifE h
    refine nq_idiv hX hn4 e4 dX8_word_31 ?_
    refine nq_iload_n hX rfl 3 rfl dX8_word_32 ?_
    refine nq_bipush hX (v := 10) (by decide) dX8_word_33 ?_
    obtain ⟨v5, e5, hn5, h⟩ := nq_ifE h
    refine nq_irem hX hn5 e5 dX8_word_35 ?_
    refine nq_iload_n hX rfl 4 rfl dX8_word_36 ?_
    obtain ⟨v7, M8, hc6, h⟩ := nq_b2E h
    refine nq_callVi hX (tX7_send (nq_Nine_world hL) hc6) gX8_word_X7_send rfl rfl dsX7_send (by decide) (nq_World_0 (nq_Nine_world hL)) rfl rfl (Nat.le_of_ble_eq_true rfl) dX8_word_37 ?_
    obtain ⟨rfl, rfl⟩ := nq_sE2 h; exact nq_iret hX hr dX8_word_40
  · rw [if_neg c3] at h
    refine nq_aload_n hX rfl 1 rfl dX8_word_14 ?_
    refine nq_iload hX 0 rfl dX8_word_15 ?_
    obtain ⟨v10, M11, hc9, h⟩ := nq_b2E h
    refine nq_callVi hX (tX8_refuse hL hc9) gX8_word_X8_refuse rfl rfl dsX8_refuse (by decide) (nq_Nine_0 hL) rfl rfl (Nat.le_of_ble_eq_true rfl) dX8_word_17 ?_
    refine nq_goto hX (tgt := 40) (by decide) dX8_word_20 ?_
    obtain ⟨rfl, rfl⟩ := nq_sE2 h; exact nq_iret hX hr dX8_word_40
theorem dsX8_word : yX8_word.cls ≠ "java/lang/invoke/MethodHandle" ∧ yX8_word.cls ≠ "java/lang/invoke/VarHandle" ∧ (parseMethodDescriptor yX8_word.desc).map (fun d => d.parameters.length) = some 3 := by decide +kernel
theorem tX8_word {l : Launch} {E : Ev} {K : List Sh} {x1 : Int32} {x2 : Int32} {x3 : Int32} {M : Mem} {r : Int32} {M' : Mem} (hL : nq_atNine E K) (h : fX8_word x1 x2 x3 M = some (r, M')) : nq_MA l E yX8_word wsX8_word (nq_rm 6) [.ref (nq_ad E 0), .int x1, .int x2, .int x3] K M (some (.int r)) K M' :=
  nq_met (own := RX8) (cc := cX8_word) (maxL := 5) (ret := (some .int)) (by decide) rfl rfl (Nat.le_of_ble_eq_true rfl) (fun X hX hr => mX8_word hL hX hr h)

theorem inX8_isWord_8 : ∀ w ∈ u_ws RX8 TX8 11, w ∈ wsX8_isWord := by
  intro w h; unfold wsX8_isWord; simp only [List.mem_cons, List.mem_append]; simp only [h, true_or, or_true]
theorem lkX8_isWord_16 : Cond.fieldLink RX8 16 (TX8 1).1 (TX8 1).2.1 (TX8 1).2.2.1 ∈ wsX8_isWord := by decide +kernel
theorem inX8_isWord_7 : ∀ w ∈ u_ws RX7 TX7 17, w ∈ wsX8_isWord := by
  intro w h; unfold wsX8_isWord; simp only [List.mem_cons, List.mem_append]; simp only [h, true_or, or_true]
theorem lkX8_isWord_29 : Cond.fieldLink RX8 29 (TX7 1).1 (TX7 1).2.1 (TX7 1).2.2.1 ∈ wsX8_isWord := by decide +kernel
theorem inX8_isWord_0 : ∀ w ∈ u_ws RX0 TX0 11, w ∈ wsX8_isWord := by
  intro w h; unfold wsX8_isWord; simp only [List.mem_cons, List.mem_append]; simp only [h, true_or, or_true]
theorem lkX8_isWord_325 : Cond.fieldLink RX8 325 (TX0 0).1 (TX0 0).2.1 (TX0 0).2.2.1 ∈ wsX8_isWord := by decide +kernel
def fX8_isWord (x1 : Int32) (M : Mem) : Option (Int32) :=
  nq_lt (M 6 0) fun v1 =>
  (fX8_isOutside x1 (0 : Int32) (v1 - (1 : Int32)) M).bind fun v3 =>
  if v3 = 0 then
  (some (1 : Int32))
  else
  (some (0 : Int32))
set_option maxHeartbeats 4000000 in
theorem mX8_isWord {X : Cx} {E : Ev} {l : Launch} {K : List Sh} {x1 : Int32} {M : Mem} {r : Int32} (hL : nq_atNine E K) (hX : nq_OK X E l (nq_rm 2) cX8_isWord 2 RX8 wsX8_isWord) (hr : nq_RT X E (some .boolean) (some (.int r)) K M) (h : fX8_isWord x1 M = some r) : nq_G X E 2 0 [(0, .ref (nq_ad E 0)), (1, .int x1)] [] K M := by
  unfold fX8_isWord at h
  refine nq_iload_n hX rfl 1 rfl dX8_isWord_0 ?_
  refine nq_iconst hX (v := 0) (by decide) dX8_isWord_1 ?_
  refine nq_aload_n hX rfl 0 rfl dX8_isWord_2 ?_
  refine nq_getr (v := .ref (nq_ad E 2)) hX inX8_isWord_8 (nq_Nine_0 hL) rfl 1 (by decide) lkX8_isWord_16 _ rfl rfl dX8_isWord_3 ?_
  refine nq_getr (v := .ref (nq_ad E 6)) hX inX8_isWord_7 (nq_World_0 (nq_Nine_world hL)) rfl 1 (by decide) lkX8_isWord_29 _ rfl rfl dX8_isWord_6 ?_
  obtain ⟨v1, e1, h⟩ := nq_ltE h
  refine nq_geti hX inX8_isWord_0 (nq_Letters_0 (nq_World_letters (nq_Nine_world hL))) rfl 0 (by decide) lkX8_isWord_325 rfl e1 dX8_isWord_9 ?_
  refine nq_iconst hX (v := 1) (by decide) dX8_isWord_12 ?_
  refine nq_isub hX dX8_isWord_13 ?_
  obtain ⟨v3, hc2, h⟩ := nq_bE h
  refine nq_callSi hX (tX8_isOutside  hc2) gX8_isWord_X8_isOutside rfl rfl dsX8_isOutside (by decide) rfl (Nat.le_of_ble_eq_true rfl) dX8_isWord_14 ?_
  refine nq_if_ne hX (tgt := 24) (by decide) dX8_isWord_17 (fun c4 => ?_) (fun c4 => ?_)
  · rw [if_pos c4] at h
    refine nq_iconst hX (v := 1) (by decide) dX8_isWord_20 ?_
    refine nq_goto hX (tgt := 25) (by decide) dX8_isWord_21 ?_
    obtain rfl := nq_sE1 h; exact nq_zret hX hr rfl dX8_isWord_25
  · rw [if_neg c4] at h
    refine nq_iconst hX (v := 0) (by decide) dX8_isWord_24 ?_
    obtain rfl := nq_sE1 h; exact nq_zret hX hr rfl dX8_isWord_25
theorem dsX8_isWord : yX8_isWord.cls ≠ "java/lang/invoke/MethodHandle" ∧ yX8_isWord.cls ≠ "java/lang/invoke/VarHandle" ∧ (parseMethodDescriptor yX8_isWord.desc).map (fun d => d.parameters.length) = some 1 := by decide +kernel
theorem tX8_isWord {l : Launch} {E : Ev} {K : List Sh} {x1 : Int32} {M : Mem} {r : Int32} (hL : nq_atNine E K) (h : fX8_isWord x1 M = some r) : nq_MA l E yX8_isWord wsX8_isWord (nq_rm 2) [.ref (nq_ad E 0), .int x1] K M (some (.int r)) K M :=
  nq_met (own := RX8) (cc := cX8_isWord) (maxL := 2) (ret := (some .boolean)) (by decide) rfl rfl (Nat.le_of_ble_eq_true rfl) (fun X hX hr => mX8_isWord hL hX hr h)

theorem inX8_ofWord_8 : ∀ w ∈ u_ws RX8 TX8 11, w ∈ wsX8_ofWord := by
  intro w h; unfold wsX8_ofWord; simp only [List.mem_cons, List.mem_append]; simp only [h, true_or, or_true]
theorem lkX8_ofWord_16 : Cond.fieldLink RX8 16 (TX8 1).1 (TX8 1).2.1 (TX8 1).2.2.1 ∈ wsX8_ofWord := by decide +kernel
theorem inX8_ofWord_7 : ∀ w ∈ u_ws RX7 TX7 17, w ∈ wsX8_ofWord := by
  intro w h; unfold wsX8_ofWord; simp only [List.mem_cons, List.mem_append]; simp only [h, true_or, or_true]
theorem lkX8_ofWord_29 : Cond.fieldLink RX8 29 (TX7 1).1 (TX7 1).2.1 (TX7 1).2.2.1 ∈ wsX8_ofWord := by decide +kernel
theorem inX8_ofWord_0 : ∀ w ∈ u_ws RX0 TX0 11, w ∈ wsX8_ofWord := by
  intro w h; unfold wsX8_ofWord; simp only [List.mem_cons, List.mem_append]; simp only [h, true_or, or_true]
theorem lkX8_ofWord_131 : Cond.fieldLink RX8 131 (TX0 1).1 (TX0 1).2.1 (TX0 1).2.2.1 ∈ wsX8_ofWord := by decide +kernel
theorem lkX8_ofWord_136 : Cond.fieldLink RX8 136 (TX0 2).1 (TX0 2).2.1 (TX0 2).2.2.1 ∈ wsX8_ofWord := by decide +kernel
theorem lkX8_ofWord_139 : Cond.fieldLink RX8 139 (TX0 3).1 (TX0 3).2.1 (TX0 3).2.2.1 ∈ wsX8_ofWord := by decide +kernel
theorem lkX8_ofWord_142 : Cond.fieldLink RX8 142 (TX0 4).1 (TX0 4).2.1 (TX0 4).2.2.1 ∈ wsX8_ofWord := by decide +kernel
theorem lkX8_ofWord_145 : Cond.fieldLink RX8 145 (TX0 5).1 (TX0 5).2.1 (TX0 5).2.2.1 ∈ wsX8_ofWord := by decide +kernel
theorem lkX8_ofWord_147 : Cond.fieldLink RX8 147 (TX0 6).1 (TX0 6).2.1 (TX0 6).2.2.1 ∈ wsX8_ofWord := by decide +kernel
theorem lkX8_ofWord_150 : Cond.fieldLink RX8 150 (TX0 7).1 (TX0 7).2.1 (TX0 7).2.2.1 ∈ wsX8_ofWord := by decide +kernel
theorem lkX8_ofWord_153 : Cond.fieldLink RX8 153 (TX0 8).1 (TX0 8).2.1 (TX0 8).2.2.1 ∈ wsX8_ofWord := by decide +kernel
def fX8_ofWord (x1 : Int32) (x2 : Int32) (M : Mem) : Option (Int32 × Mem) :=
  (fX8_isWord x1 M).bind fun v2 =>
  if v2 = 0 then
  (nq_b2 (fX8_refuse (1 : Int32) M) fun v5 M6 =>
  some (v5, M6))
  else
  (if x2 = 0 then
  ((nq_ag (M 7) 80 x1).bind fun v8 =>
  some (v8, M))
  else if x2 = 1 then
  ((nq_ag (M 8) 80 x1).bind fun v9 =>
  some (v9, M))
  else if x2 = 2 then
  ((nq_ag (M 9) 80 x1).bind fun v10 =>
  some (v10, M))
  else if x2 = 3 then
  ((nq_ag (M 10) 80 x1).bind fun v11 =>
  some (v11, M))
  else if x2 = 4 then
  ((nq_ag (M 11) 80 x1).bind fun v12 =>
  some (v12, M))
  else if x2 = 5 then
  ((nq_ag (M 12) 80 x1).bind fun v13 =>
  some (v13, M))
  else if x2 = 6 then
  ((nq_ag (M 13) 80 x1).bind fun v14 =>
  some (v14, M))
  else if x2 = 7 then
  ((nq_ag (M 14) 80 x1).bind fun v15 =>
  some (v15, M))
  else (nq_b2 (fX8_refuse (1 : Int32) M) fun v17 M18 =>
  some (v17, M18)))
set_option maxHeartbeats 4000000 in
theorem mX8_ofWord {X : Cx} {E : Ev} {l : Launch} {K : List Sh} {x1 : Int32} {x2 : Int32} {M : Mem} {r : Int32} {M' : Mem} (hL : nq_atNine E K) (hX : nq_OK X E l (nq_rm 3) cX8_ofWord 4 RX8 wsX8_ofWord) (hr : nq_RT X E (some .int) (some (.int r)) K M') (h : fX8_ofWord x1 x2 M = some (r, M')) : nq_G X E 4 0 [(0, .ref (nq_ad E 0)), (1, .int x1), (2, .int x2)] [] K M := by
  unfold fX8_ofWord at h
  refine nq_aload_n hX rfl 0 rfl dX8_ofWord_0 ?_
  refine nq_iload_n hX rfl 1 rfl dX8_ofWord_1 ?_
  obtain ⟨v2, hc1, h⟩ := nq_bE h
  refine nq_callVi hX (tX8_isWord hL hc1) gX8_ofWord_X8_isWord rfl rfl dsX8_isWord (by decide) (nq_Nine_0 hL) rfl rfl (Nat.le_of_ble_eq_true rfl) dX8_ofWord_2 ?_
  refine nq_if_ne hX (tgt := 14) (by decide) dX8_ofWord_5 (fun c3 => ?_) (fun c3 => ?_)
  · rw [if_pos c3] at h
    refine nq_aload_n hX rfl 0 rfl dX8_ofWord_8 ?_
    refine nq_iconst hX (v := 1) (by decide) dX8_ofWord_9 ?_
    obtain ⟨v5, M6, hc4, h⟩ := nq_b2E h
    refine nq_callVi hX (tX8_refuse hL hc4) gX8_ofWord_X8_refuse rfl rfl dsX8_refuse (by decide) (nq_Nine_0 hL) rfl rfl (Nat.le_of_ble_eq_true rfl) dX8_ofWord_10 ?_
    obtain ⟨rfl, rfl⟩ := nq_sE2 h; exact nq_iret hX hr dX8_ofWord_13
  · rw [if_neg c3] at h
    refine nq_aload_n hX rfl 0 rfl dX8_ofWord_14 ?_
    refine nq_getr (v := .ref (nq_ad E 2)) hX inX8_ofWord_8 (nq_Nine_0 hL) rfl 1 (by decide) lkX8_ofWord_16 _ rfl rfl dX8_ofWord_15 ?_
    refine nq_getr (v := .ref (nq_ad E 6)) hX inX8_ofWord_7 (nq_World_0 (nq_Nine_world hL)) rfl 1 (by decide) lkX8_ofWord_29 _ rfl rfl dX8_ofWord_18 ?_
    refine nq_astore_n hX (lv' := [(3, .ref (nq_ad E 6)), (0, .ref (nq_ad E 0)), (1, .int x1), (2, .int x2)]) rfl (by decide) rfl rfl dX8_ofWord_21 ?_
    refine nq_iload_n hX rfl 3 rfl dX8_ofWord_22 ?_
    by_cases c7_0 : x2 = 0
    · rw [if_pos c7_0] at h; refine nq_tabI hX (tgt := 68) (off := 45) dX8_ofWord_23 (by rw [c7_0]; decide) (by rw [c7_0]; decide) (by rw [c7_0]; rfl) (by decide) ?_
      refine nq_aload_n hX rfl 0 rfl dX8_ofWord_68 ?_
      refine nq_getr (v := .ref (nq_ad E 7)) hX inX8_ofWord_0 (nq_Letters_0 (nq_World_letters (nq_Nine_world hL))) rfl 1 (by decide) lkX8_ofWord_131 _ rfl rfl dX8_ofWord_69 ?_
      refine nq_iload_n hX rfl 2 rfl dX8_ofWord_72 ?_
      obtain ⟨v8, e8, hi8, h⟩ := nq_agE h
      refine nq_iald hX (nq_Letters_kinds (nq_World_letters (nq_Nine_world hL))) e8 hi8 dX8_ofWord_73 ?_
      obtain ⟨rfl, rfl⟩ := nq_sE2 h; exact nq_iret hX hr dX8_ofWord_74
    rw [if_neg c7_0] at h
    by_cases c7_1 : x2 = 1
    · rw [if_pos c7_1] at h; refine nq_tabI hX (tgt := 75) (off := 52) dX8_ofWord_23 (by rw [c7_1]; decide) (by rw [c7_1]; decide) (by rw [c7_1]; rfl) (by decide) ?_
      refine nq_aload_n hX rfl 0 rfl dX8_ofWord_75 ?_
      refine nq_getr (v := .ref (nq_ad E 8)) hX inX8_ofWord_0 (nq_Letters_0 (nq_World_letters (nq_Nine_world hL))) rfl 2 (by decide) lkX8_ofWord_136 _ rfl rfl dX8_ofWord_76 ?_
      refine nq_iload_n hX rfl 2 rfl dX8_ofWord_79 ?_
      obtain ⟨v9, e9, hi9, h⟩ := nq_agE h
      refine nq_iald hX (nq_Letters_froms (nq_World_letters (nq_Nine_world hL))) e9 hi9 dX8_ofWord_80 ?_
      obtain ⟨rfl, rfl⟩ := nq_sE2 h; exact nq_iret hX hr dX8_ofWord_81
    rw [if_neg c7_1] at h
    by_cases c7_2 : x2 = 2
    · rw [if_pos c7_2] at h; refine nq_tabI hX (tgt := 82) (off := 59) dX8_ofWord_23 (by rw [c7_2]; decide) (by rw [c7_2]; decide) (by rw [c7_2]; rfl) (by decide) ?_
      refine nq_aload_n hX rfl 0 rfl dX8_ofWord_82 ?_
      refine nq_getr (v := .ref (nq_ad E 9)) hX inX8_ofWord_0 (nq_Letters_0 (nq_World_letters (nq_Nine_world hL))) rfl 3 (by decide) lkX8_ofWord_139 _ rfl rfl dX8_ofWord_83 ?_
      refine nq_iload_n hX rfl 2 rfl dX8_ofWord_86 ?_
      obtain ⟨v10, e10, hi10, h⟩ := nq_agE h
      refine nq_iald hX (nq_Letters_tos (nq_World_letters (nq_Nine_world hL))) e10 hi10 dX8_ofWord_87 ?_
      obtain ⟨rfl, rfl⟩ := nq_sE2 h; exact nq_iret hX hr dX8_ofWord_88
    rw [if_neg c7_2] at h
    by_cases c7_3 : x2 = 3
    · rw [if_pos c7_3] at h; refine nq_tabI hX (tgt := 89) (off := 66) dX8_ofWord_23 (by rw [c7_3]; decide) (by rw [c7_3]; decide) (by rw [c7_3]; rfl) (by decide) ?_
      refine nq_aload_n hX rfl 0 rfl dX8_ofWord_89 ?_
      refine nq_getr (v := .ref (nq_ad E 10)) hX inX8_ofWord_0 (nq_Letters_0 (nq_World_letters (nq_Nine_world hL))) rfl 4 (by decide) lkX8_ofWord_142 _ rfl rfl dX8_ofWord_90 ?_
      refine nq_iload_n hX rfl 2 rfl dX8_ofWord_93 ?_
      obtain ⟨v11, e11, hi11, h⟩ := nq_agE h
      refine nq_iald hX (nq_Letters_pacts (nq_World_letters (nq_Nine_world hL))) e11 hi11 dX8_ofWord_94 ?_
      obtain ⟨rfl, rfl⟩ := nq_sE2 h; exact nq_iret hX hr dX8_ofWord_95
    rw [if_neg c7_3] at h
    by_cases c7_4 : x2 = 4
    · rw [if_pos c7_4] at h; refine nq_tabI hX (tgt := 96) (off := 73) dX8_ofWord_23 (by rw [c7_4]; decide) (by rw [c7_4]; decide) (by rw [c7_4]; rfl) (by decide) ?_
      refine nq_aload_n hX rfl 0 rfl dX8_ofWord_96 ?_
      refine nq_getr (v := .ref (nq_ad E 11)) hX inX8_ofWord_0 (nq_Letters_0 (nq_World_letters (nq_Nine_world hL))) rfl 5 (by decide) lkX8_ofWord_145 _ rfl rfl dX8_ofWord_97 ?_
      refine nq_iload_n hX rfl 2 rfl dX8_ofWord_100 ?_
      obtain ⟨v12, e12, hi12, h⟩ := nq_agE h
      refine nq_iald hX (nq_Letters_years (nq_World_letters (nq_Nine_world hL))) e12 hi12 dX8_ofWord_101 ?_
      obtain ⟨rfl, rfl⟩ := nq_sE2 h; exact nq_iret hX hr dX8_ofWord_102
    rw [if_neg c7_4] at h
    by_cases c7_5 : x2 = 5
    · rw [if_pos c7_5] at h; refine nq_tabI hX (tgt := 103) (off := 80) dX8_ofWord_23 (by rw [c7_5]; decide) (by rw [c7_5]; decide) (by rw [c7_5]; rfl) (by decide) ?_
      refine nq_aload_n hX rfl 0 rfl dX8_ofWord_103 ?_
      refine nq_getr (v := .ref (nq_ad E 12)) hX inX8_ofWord_0 (nq_Letters_0 (nq_World_letters (nq_Nine_world hL))) rfl 6 (by decide) lkX8_ofWord_147 _ rfl rfl dX8_ofWord_104 ?_
      refine nq_iload_n hX rfl 2 rfl dX8_ofWord_107 ?_
      obtain ⟨v13, e13, hi13, h⟩ := nq_agE h
      refine nq_iald hX (nq_Letters_comes (nq_World_letters (nq_Nine_world hL))) e13 hi13 dX8_ofWord_108 ?_
      obtain ⟨rfl, rfl⟩ := nq_sE2 h; exact nq_iret hX hr dX8_ofWord_109
    rw [if_neg c7_5] at h
    by_cases c7_6 : x2 = 6
    · rw [if_pos c7_6] at h; refine nq_tabI hX (tgt := 110) (off := 87) dX8_ofWord_23 (by rw [c7_6]; decide) (by rw [c7_6]; decide) (by rw [c7_6]; rfl) (by decide) ?_
      refine nq_aload_n hX rfl 0 rfl dX8_ofWord_110 ?_
      refine nq_getr (v := .ref (nq_ad E 13)) hX inX8_ofWord_0 (nq_Letters_0 (nq_World_letters (nq_Nine_world hL))) rfl 7 (by decide) lkX8_ofWord_150 _ rfl rfl dX8_ofWord_111 ?_
      refine nq_iload_n hX rfl 2 rfl dX8_ofWord_114 ?_
      obtain ⟨v14, e14, hi14, h⟩ := nq_agE h
      refine nq_iald hX (nq_Letters_terms (nq_World_letters (nq_Nine_world hL))) e14 hi14 dX8_ofWord_115 ?_
      obtain ⟨rfl, rfl⟩ := nq_sE2 h; exact nq_iret hX hr dX8_ofWord_116
    rw [if_neg c7_6] at h
    by_cases c7_7 : x2 = 7
    · rw [if_pos c7_7] at h; refine nq_tabI hX (tgt := 117) (off := 94) dX8_ofWord_23 (by rw [c7_7]; decide) (by rw [c7_7]; decide) (by rw [c7_7]; rfl) (by decide) ?_
      refine nq_aload_n hX rfl 0 rfl dX8_ofWord_117 ?_
      refine nq_getr (v := .ref (nq_ad E 14)) hX inX8_ofWord_0 (nq_Letters_0 (nq_World_letters (nq_Nine_world hL))) rfl 8 (by decide) lkX8_ofWord_153 _ rfl rfl dX8_ofWord_118 ?_
      refine nq_iload_n hX rfl 2 rfl dX8_ofWord_121 ?_
      obtain ⟨v15, e15, hi15, h⟩ := nq_agE h
      refine nq_iald hX (nq_Letters_depths (nq_World_letters (nq_Nine_world hL))) e15 hi15 dX8_ofWord_122 ?_
      obtain ⟨rfl, rfl⟩ := nq_sE2 h; exact nq_iret hX hr dX8_ofWord_123
    rw [if_neg c7_7] at h
    refine nq_tabO hX (tgt := 124) dX8_ofWord_23 (by have := nq_tne (k := 0) (n := 0) (by decide) c7_0; have := nq_tne (k := 1) (n := 1) (by decide) c7_1; have := nq_tne (k := 2) (n := 2) (by decide) c7_2; have := nq_tne (k := 3) (n := 3) (by decide) c7_3; have := nq_tne (k := 4) (n := 4) (by decide) c7_4; have := nq_tne (k := 5) (n := 5) (by decide) c7_5; have := nq_tne (k := 6) (n := 6) (by decide) c7_6; have := nq_tne (k := 7) (n := 7) (by decide) c7_7; omega) (by decide) ?_
    refine nq_aload_n hX rfl 1 rfl dX8_ofWord_124 ?_
    refine nq_iconst hX (v := 1) (by decide) dX8_ofWord_125 ?_
    obtain ⟨v17, M18, hc16, h⟩ := nq_b2E h
    refine nq_callVi hX (tX8_refuse hL hc16) gX8_ofWord_X8_refuse rfl rfl dsX8_refuse (by decide) (nq_Nine_0 hL) rfl rfl (Nat.le_of_ble_eq_true rfl) dX8_ofWord_126 ?_
    obtain ⟨rfl, rfl⟩ := nq_sE2 h; exact nq_iret hX hr dX8_ofWord_129
theorem dsX8_ofWord : yX8_ofWord.cls ≠ "java/lang/invoke/MethodHandle" ∧ yX8_ofWord.cls ≠ "java/lang/invoke/VarHandle" ∧ (parseMethodDescriptor yX8_ofWord.desc).map (fun d => d.parameters.length) = some 2 := by decide +kernel
theorem tX8_ofWord {l : Launch} {E : Ev} {K : List Sh} {x1 : Int32} {x2 : Int32} {M : Mem} {r : Int32} {M' : Mem} (hL : nq_atNine E K) (h : fX8_ofWord x1 x2 M = some (r, M')) : nq_MA l E yX8_ofWord wsX8_ofWord (nq_rm 3) [.ref (nq_ad E 0), .int x1, .int x2] K M (some (.int r)) K M' :=
  nq_met (own := RX8) (cc := cX8_ofWord) (maxL := 4) (ret := (some .int)) (by decide) rfl rfl (Nat.le_of_ble_eq_true rfl) (fun X hX hr => mX8_ofWord hL hX hr h)

theorem inX8_lose_8 : ∀ w ∈ u_ws RX8 TX8 11, w ∈ wsX8_lose := by
  intro w h; unfold wsX8_lose; simp only [List.mem_cons, List.mem_append]; simp only [h, true_or, or_true]
theorem lkX8_lose_16 : Cond.fieldLink RX8 16 (TX8 1).1 (TX8 1).2.1 (TX8 1).2.2.1 ∈ wsX8_lose := by decide +kernel
theorem inX8_lose_7 : ∀ w ∈ u_ws RX7 TX7 17, w ∈ wsX8_lose := by
  intro w h; unfold wsX8_lose; simp only [List.mem_cons, List.mem_append]; simp only [h, true_or, or_true]
theorem lkX8_lose_29 : Cond.fieldLink RX8 29 (TX7 1).1 (TX7 1).2.1 (TX7 1).2.2.1 ∈ wsX8_lose := by decide +kernel
theorem inX8_lose_0 : ∀ w ∈ u_ws RX0 TX0 11, w ∈ wsX8_lose := by
  intro w h; unfold wsX8_lose; simp only [List.mem_cons, List.mem_append]; simp only [h, true_or, or_true]
theorem lkX8_lose_147 : Cond.fieldLink RX8 147 (TX0 6).1 (TX0 6).2.1 (TX0 6).2.2.1 ∈ wsX8_lose := by decide +kernel
theorem lkX8_lose_156 : Cond.fieldLink RX8 156 (TX7 9).1 (TX7 9).2.1 (TX7 9).2.2.1 ∈ wsX8_lose := by decide +kernel
def fX8_lose (x1 : Int32) (M : Mem) : Option (Int32 × Mem) :=
  (fX8_isWord x1 M).bind fun v2 =>
  if v2 = 0 then
  (nq_b2 (fX8_refuse (1 : Int32) M) fun v5 M6 =>
  some (v5, M6))
  else
  ((nq_ag (M 12) 80 x1).bind fun v7 =>
  nq_lt (M 2 9) fun v8 =>
  if v8 < v7 then
  ((fX0_drop 6 x1 M).bind fun M11 =>
  some ((1 : Int32), M11))
  else
  (nq_b2 (fX8_refuse (3 : Int32) M) fun v13 M14 =>
  some (v13, M14)))
set_option maxHeartbeats 4000000 in
theorem mX8_lose {X : Cx} {E : Ev} {l : Launch} {K : List Sh} {x1 : Int32} {M : Mem} {r : Int32} {M' : Mem} (hL : nq_atNine E K) (hX : nq_OK X E l (nq_rm 3) cX8_lose 2 RX8 wsX8_lose) (hr : nq_RT X E (some .int) (some (.int r)) K M') (h : fX8_lose x1 M = some (r, M')) : nq_G X E 2 0 [(0, .ref (nq_ad E 0)), (1, .int x1)] [] K M := by
  unfold fX8_lose at h
  refine nq_aload_n hX rfl 0 rfl dX8_lose_0 ?_
  refine nq_iload_n hX rfl 1 rfl dX8_lose_1 ?_
  obtain ⟨v2, hc1, h⟩ := nq_bE h
  refine nq_callVi hX (tX8_isWord hL hc1) gX8_lose_X8_isWord rfl rfl dsX8_isWord (by decide) (nq_Nine_0 hL) rfl rfl (Nat.le_of_ble_eq_true rfl) dX8_lose_2 ?_
  refine nq_if_ne hX (tgt := 14) (by decide) dX8_lose_5 (fun c3 => ?_) (fun c3 => ?_)
  · rw [if_pos c3] at h
    refine nq_aload_n hX rfl 0 rfl dX8_lose_8 ?_
    refine nq_iconst hX (v := 1) (by decide) dX8_lose_9 ?_
    obtain ⟨v5, M6, hc4, h⟩ := nq_b2E h
    refine nq_callVi hX (tX8_refuse hL hc4) gX8_lose_X8_refuse rfl rfl dsX8_refuse (by decide) (nq_Nine_0 hL) rfl rfl (Nat.le_of_ble_eq_true rfl) dX8_lose_10 ?_
    obtain ⟨rfl, rfl⟩ := nq_sE2 h; exact nq_iret hX hr dX8_lose_13
  · rw [if_neg c3] at h
    refine nq_aload_n hX rfl 0 rfl dX8_lose_14 ?_
    refine nq_getr (v := .ref (nq_ad E 2)) hX inX8_lose_8 (nq_Nine_0 hL) rfl 1 (by decide) lkX8_lose_16 _ rfl rfl dX8_lose_15 ?_
    refine nq_getr (v := .ref (nq_ad E 6)) hX inX8_lose_7 (nq_World_0 (nq_Nine_world hL)) rfl 1 (by decide) lkX8_lose_29 _ rfl rfl dX8_lose_18 ?_
    refine nq_getr (v := .ref (nq_ad E 12)) hX inX8_lose_0 (nq_Letters_0 (nq_World_letters (nq_Nine_world hL))) rfl 6 (by decide) lkX8_lose_147 _ rfl rfl dX8_lose_21 ?_
    refine nq_iload_n hX rfl 1 rfl dX8_lose_24 ?_
    obtain ⟨v7, e7, hi7, h⟩ := nq_agE h
    refine nq_iald hX (nq_Letters_comes (nq_World_letters (nq_Nine_world hL))) e7 hi7 dX8_lose_25 ?_
    refine nq_aload_n hX rfl 0 rfl dX8_lose_26 ?_
    refine nq_getr (v := .ref (nq_ad E 2)) hX inX8_lose_8 (nq_Nine_0 hL) rfl 1 (by decide) lkX8_lose_16 _ rfl rfl dX8_lose_27 ?_
    obtain ⟨v8, e8, h⟩ := nq_ltE h
    refine nq_geti hX inX8_lose_7 (nq_World_0 (nq_Nine_world hL)) rfl 9 (by decide) lkX8_lose_156 rfl e8 dX8_lose_30 ?_
    refine nq_icmp_gt hX (tgt := 42) (by decide) dX8_lose_33 (fun c9 => ?_) (fun c9 => ?_)
    · rw [if_pos c9] at h
      refine nq_aload_n hX rfl 0 rfl dX8_lose_42 ?_
      refine nq_getr (v := .ref (nq_ad E 2)) hX inX8_lose_8 (nq_Nine_0 hL) rfl 1 (by decide) lkX8_lose_16 _ rfl rfl dX8_lose_43 ?_
      refine nq_getr (v := .ref (nq_ad E 6)) hX inX8_lose_7 (nq_World_0 (nq_Nine_world hL)) rfl 1 (by decide) lkX8_lose_29 _ rfl rfl dX8_lose_46 ?_
      refine nq_iload_n hX rfl 1 rfl dX8_lose_49 ?_
      obtain ⟨M11, hc10, h⟩ := nq_bE h
      refine nq_callVv hX (tX0_drop (nq_World_letters (nq_Nine_world hL)) hc10) gX8_lose_X0_drop rfl rfl dsX0_drop (by decide) (nq_Letters_0 (nq_World_letters (nq_Nine_world hL))) rfl rfl (Nat.le_of_ble_eq_true rfl) dX8_lose_50 ?_
      refine nq_iconst hX (v := 1) (by decide) dX8_lose_53 ?_
      obtain ⟨rfl, rfl⟩ := nq_sE2 h; exact nq_iret hX hr dX8_lose_54
    · rw [if_neg c9] at h
      refine nq_aload_n hX rfl 0 rfl dX8_lose_36 ?_
      refine nq_iconst hX (v := 3) (by decide) dX8_lose_37 ?_
      obtain ⟨v13, M14, hc12, h⟩ := nq_b2E h
      refine nq_callVi hX (tX8_refuse hL hc12) gX8_lose_X8_refuse rfl rfl dsX8_refuse (by decide) (nq_Nine_0 hL) rfl rfl (Nat.le_of_ble_eq_true rfl) dX8_lose_38 ?_
      obtain ⟨rfl, rfl⟩ := nq_sE2 h; exact nq_iret hX hr dX8_lose_41
theorem dsX8_lose : yX8_lose.cls ≠ "java/lang/invoke/MethodHandle" ∧ yX8_lose.cls ≠ "java/lang/invoke/VarHandle" ∧ (parseMethodDescriptor yX8_lose.desc).map (fun d => d.parameters.length) = some 1 := by decide +kernel
theorem tX8_lose {l : Launch} {E : Ev} {K : List Sh} {x1 : Int32} {M : Mem} {r : Int32} {M' : Mem} (hL : nq_atNine E K) (h : fX8_lose x1 M = some (r, M')) : nq_MA l E yX8_lose wsX8_lose (nq_rm 3) [.ref (nq_ad E 0), .int x1] K M (some (.int r)) K M' :=
  nq_met (own := RX8) (cc := cX8_lose) (maxL := 2) (ret := (some .int)) (by decide) rfl rfl (Nat.le_of_ble_eq_true rfl) (fun X hX hr => mX8_lose hL hX hr h)

