/-! printed by dec.py: Model 0 -/
theorem inX9_finds_9 : ∀ w ∈ u_ws RX9 TX9 23, w ∈ wsX9_finds := by
  intro w h; unfold wsX9_finds; simp only [List.mem_cons, List.mem_append]; simp only [h, true_or, or_true]
theorem lkX9_finds_16 : Cond.fieldLink RX9 16 (TX9 3).1 (TX9 3).2.1 (TX9 3).2.2.1 ∈ wsX9_finds := by decide +kernel
theorem mmX9_finds_c53 : Cond.constant RX9 53 (-1000000) ∈ wsX9_finds := by decide +kernel
def fX9_finds (x1 : Int32) (M : Mem) : Option (Int32 × Mem) :=
  (nq_ag (M 3) 6 x1).bind fun v1 =>
  (nq_as M 3 6 x1 (v1 + (1 : Int32))).bind fun M2 =>
  some (((-1000000 : Int32) - x1), M2)
set_option maxHeartbeats 4000000 in
theorem mX9_finds {X : Cx} {E : Ev} {l : Launch} {K : List Sh} {x1 : Int32} {M : Mem} {r : Int32} {M' : Mem} (hL : nq_atModel E K) (hX : nq_OK X E l (nq_rm 1) cX9_finds 2 RX9 wsX9_finds) (hr : nq_RT X E (some .int) (some (.int r)) K M') (h : fX9_finds x1 M = some (r, M')) : nq_G X E 2 0 [(0, .ref (nq_ad E 0)), (1, .int x1)] [] K M := by
  unfold fX9_finds at h
  refine nq_aload_n hX rfl 0 rfl dX9_finds_0 ?_
  refine nq_getr (v := .ref (nq_ad E 3)) hX inX9_finds_9 (nq_Model_0 hL) rfl 3 (by decide) lkX9_finds_16 _ rfl rfl dX9_finds_1 ?_
  refine nq_iload_n hX rfl 1 rfl dX9_finds_4 ?_
  refine nq_dup2 hX rfl rfl dX9_finds_5 ?_
  obtain ⟨v1, e1, hi1, h⟩ := nq_agE h
  refine nq_iald hX (nq_Model_found hL) e1 hi1 dX9_finds_6 ?_
  refine nq_iconst hX (v := 1) (by decide) dX9_finds_7 ?_
  refine nq_iadd hX dX9_finds_8 ?_
  obtain ⟨M2, e2, hi2, h⟩ := nq_asE h
  refine nq_iast hX (nq_Model_found hL) e2 hi2 dX9_finds_9 ?_
  refine nq_ldc hX (v := -1000000) mmX9_finds_c53 dX9_finds_10 ?_
  refine nq_iload_n hX rfl 1 rfl dX9_finds_12 ?_
  refine nq_isub hX dX9_finds_13 ?_
  obtain ⟨rfl, rfl⟩ := nq_sE2 h; exact nq_iret hX hr dX9_finds_14
theorem dsX9_finds : yX9_finds.cls ≠ "java/lang/invoke/MethodHandle" ∧ yX9_finds.cls ≠ "java/lang/invoke/VarHandle" ∧ (parseMethodDescriptor yX9_finds.desc).map (fun d => d.parameters.length) = some 1 := by decide +kernel
theorem tX9_finds {l : Launch} {E : Ev} {K : List Sh} {x1 : Int32} {M : Mem} {r : Int32} {M' : Mem} (hL : nq_atModel E K) (h : fX9_finds x1 M = some (r, M')) : nq_MA l E yX9_finds wsX9_finds (nq_rm 1) [.ref (nq_ad E 0), .int x1] K M (some (.int r)) K M' :=
  nq_met (own := RX9) (cc := cX9_finds) (maxL := 2) (ret := (some .int)) (by decide) rfl rfl (Nat.le_of_ble_eq_true rfl) (fun X hX hr => mX9_finds hL hX hr h)

def fX9_in (x0 : Int64) (x2 : Int64) (x4 : Int64) (M : Mem) : Option (Int32) :=
  if (lg_cmp x0 x2) < 0 then
  (some (0 : Int32))
  else
  (if 0 < (lg_cmp x0 x4) then
  (some (0 : Int32))
  else
  (some (1 : Int32)))
set_option maxHeartbeats 4000000 in
theorem mX9_in {X : Cx} {E : Ev} {l : Launch} {K : List Sh} {x0 : Int64} {x2 : Int64} {x4 : Int64} {M : Mem} {r : Int32}  (hX : nq_OK X E l (nq_rm 1) cX9_in 6 RX9 wsX9_in) (hr : nq_RT X E (some .boolean) (some (.int r)) K M) (h : fX9_in x0 x2 x4 M = some r) : nq_G X E 6 0 [(0, .long x0), (2, .long x2), (4, .long x4)] [] K M := by
  unfold fX9_in at h
  refine nq_lload_n hX rfl 0 rfl dX9_in_0 ?_
  refine nq_lload_n hX rfl 1 rfl dX9_in_1 ?_
  refine nq_lcmp hX dX9_in_2 ?_
  refine nq_if_lt hX (tgt := 17) (by decide) dX9_in_3 (fun c1 => ?_) (fun c1 => ?_)
  · rw [if_pos c1] at h
    refine nq_iconst hX (v := 0) (by decide) dX9_in_17 ?_
    obtain rfl := nq_sE1 h; exact nq_zret hX hr rfl dX9_in_18
  · rw [if_neg c1] at h
    refine nq_lload_n hX rfl 0 rfl dX9_in_6 ?_
    refine nq_lload hX 2 rfl dX9_in_7 ?_
    refine nq_lcmp hX dX9_in_9 ?_
    refine nq_if_gt hX (tgt := 17) (by decide) dX9_in_10 (fun c2 => ?_) (fun c2 => ?_)
    · rw [if_pos c2] at h
      refine nq_iconst hX (v := 0) (by decide) dX9_in_17 ?_
      obtain rfl := nq_sE1 h; exact nq_zret hX hr rfl dX9_in_18
    · rw [if_neg c2] at h
      refine nq_iconst hX (v := 1) (by decide) dX9_in_13 ?_
      refine nq_goto hX (tgt := 18) (by decide) dX9_in_14 ?_
      obtain rfl := nq_sE1 h; exact nq_zret hX hr rfl dX9_in_18
theorem dsX9_in : yX9_in.cls ≠ "java/lang/invoke/MethodHandle" ∧ yX9_in.cls ≠ "java/lang/invoke/VarHandle" ∧ (parseMethodDescriptor yX9_in.desc).map (fun d => d.parameters.length) = some 3 := by decide +kernel
theorem tX9_in {l : Launch} {E : Ev} {K : List Sh} {x0 : Int64} {x2 : Int64} {x4 : Int64} {M : Mem} {r : Int32}  (h : fX9_in x0 x2 x4 M = some r) : nq_MA l E yX9_in wsX9_in (nq_rm 1) [.long x0, .long x2, .long x4] K M (some (.int r)) K M :=
  nq_met (own := RX9) (cc := cX9_in) (maxL := 6) (ret := (some .boolean)) (by decide) rfl rfl (Nat.le_of_ble_eq_true rfl) (fun X hX hr => mX9_in  hX hr h)

theorem inX9_isPlace_9 : ∀ w ∈ u_ws RX9 TX9 23, w ∈ wsX9_isPlace := by
  intro w h; unfold wsX9_isPlace; simp only [List.mem_cons, List.mem_append]; simp only [h, true_or, or_true]
theorem lkX9_isPlace_7 : Cond.fieldLink RX9 7 (TX9 0).1 (TX9 0).2.1 (TX9 0).2.2.1 ∈ wsX9_isPlace := by decide +kernel
def fX9_isPlace (x1 : Int32) (M : Mem) : Option (Int32) :=
  (nq_ag (M 1) 1250 (1 : Int32)).bind fun v1 =>
  (fX9_in x1.toInt64 (0 : Int64) ((v1 - (1 : Int32)).toInt64) M).bind fun v3 =>
  (nq_nz .boolean v3).bind fun _ =>
  some v3
set_option maxHeartbeats 4000000 in
theorem mX9_isPlace {X : Cx} {E : Ev} {l : Launch} {K : List Sh} {x1 : Int32} {M : Mem} {r : Int32} (hL : nq_atModel E K) (hX : nq_OK X E l (nq_rm 2) cX9_isPlace 2 RX9 wsX9_isPlace) (hr : nq_RT X E (some .boolean) (some (.int r)) K M) (h : fX9_isPlace x1 M = some r) : nq_G X E 2 0 [(0, .ref (nq_ad E 0)), (1, .int x1)] [] K M := by
  unfold fX9_isPlace at h
  refine nq_iload_n hX rfl 1 rfl dX9_isPlace_0 ?_
  refine nq_i2l hX dX9_isPlace_1 ?_
  refine nq_lconst hX (v := 0) (by decide) dX9_isPlace_2 ?_
  refine nq_aload_n hX rfl 0 rfl dX9_isPlace_3 ?_
  refine nq_getr (v := .ref (nq_ad E 1)) hX inX9_isPlace_9 (nq_Model_0 hL) rfl 0 (by decide) lkX9_isPlace_7 _ rfl rfl dX9_isPlace_4 ?_
  refine nq_iconst hX (v := 1) (by decide) dX9_isPlace_7 ?_
  obtain ⟨v1, e1, hi1, h⟩ := nq_agE h
  refine nq_iald hX (nq_Model_d hL) e1 hi1 dX9_isPlace_8 ?_
  refine nq_iconst hX (v := 1) (by decide) dX9_isPlace_9 ?_
  refine nq_isub hX dX9_isPlace_10 ?_
  refine nq_i2l hX dX9_isPlace_11 ?_
  obtain ⟨v3, hc2, h⟩ := nq_bE h
  refine nq_callSi hX (tX9_in  hc2) gX9_isPlace_X9_in rfl rfl dsX9_in (by decide) rfl (Nat.le_of_ble_eq_true rfl) dX9_isPlace_12 ?_
  obtain ⟨hn4, h⟩ := nq_nzE h
  obtain rfl := nq_sE1 h; exact nq_zret hX hr hn4 dX9_isPlace_15
theorem dsX9_isPlace : yX9_isPlace.cls ≠ "java/lang/invoke/MethodHandle" ∧ yX9_isPlace.cls ≠ "java/lang/invoke/VarHandle" ∧ (parseMethodDescriptor yX9_isPlace.desc).map (fun d => d.parameters.length) = some 1 := by decide +kernel
theorem tX9_isPlace {l : Launch} {E : Ev} {K : List Sh} {x1 : Int32} {M : Mem} {r : Int32} (hL : nq_atModel E K) (h : fX9_isPlace x1 M = some r) : nq_MA l E yX9_isPlace wsX9_isPlace (nq_rm 2) [.ref (nq_ad E 0), .int x1] K M (some (.int r)) K M :=
  nq_met (own := RX9) (cc := cX9_isPlace) (maxL := 2) (ret := (some .boolean)) (by decide) rfl rfl (Nat.le_of_ble_eq_true rfl) (fun X hX hr => mX9_isPlace hL hX hr h)

def fX9_areTwo (x1 : Int32) (x2 : Int32) (M : Mem) : Option (Int32) :=
  (fX9_isPlace x1 M).bind fun v2 =>
  if v2 = 0 then
  (some (0 : Int32))
  else
  ((fX9_isPlace x2 M).bind fun v5 =>
  if v5 = 0 then
  (some (0 : Int32))
  else
  (if x1 = x2 then
  (some (0 : Int32))
  else
  (some (1 : Int32))))
set_option maxHeartbeats 4000000 in
theorem mX9_areTwo {X : Cx} {E : Ev} {l : Launch} {K : List Sh} {x1 : Int32} {x2 : Int32} {M : Mem} {r : Int32} (hL : nq_atModel E K) (hX : nq_OK X E l (nq_rm 3) cX9_areTwo 3 RX9 wsX9_areTwo) (hr : nq_RT X E (some .boolean) (some (.int r)) K M) (h : fX9_areTwo x1 x2 M = some r) : nq_G X E 3 0 [(0, .ref (nq_ad E 0)), (1, .int x1), (2, .int x2)] [] K M := by
  unfold fX9_areTwo at h
  refine nq_aload_n hX rfl 0 rfl dX9_areTwo_0 ?_
  refine nq_iload_n hX rfl 1 rfl dX9_areTwo_1 ?_
  obtain ⟨v2, hc1, h⟩ := nq_bE h
  refine nq_callVi hX (tX9_isPlace hL hc1) gX9_areTwo_X9_isPlace rfl rfl dsX9_isPlace (by decide) (nq_Model_0 hL) rfl rfl (Nat.le_of_ble_eq_true rfl) dX9_areTwo_2 ?_
  refine nq_if_eq hX (tgt := 25) (by decide) dX9_areTwo_5 (fun c3 => ?_) (fun c3 => ?_)
  · rw [if_pos c3] at h
    refine nq_iconst hX (v := 0) (by decide) dX9_areTwo_25 ?_
    obtain rfl := nq_sE1 h; exact nq_zret hX hr rfl dX9_areTwo_26
  · rw [if_neg c3] at h
    refine nq_aload_n hX rfl 0 rfl dX9_areTwo_8 ?_
    refine nq_iload_n hX rfl 2 rfl dX9_areTwo_9 ?_
    obtain ⟨v5, hc4, h⟩ := nq_bE h
    refine nq_callVi hX (tX9_isPlace hL hc4) gX9_areTwo_X9_isPlace rfl rfl dsX9_isPlace (by decide) (nq_Model_0 hL) rfl rfl (Nat.le_of_ble_eq_true rfl) dX9_areTwo_10 ?_
    refine nq_if_eq hX (tgt := 25) (by decide) dX9_areTwo_13 (fun c6 => ?_) (fun c6 => ?_)
    · rw [if_pos c6] at h
      refine nq_iconst hX (v := 0) (by decide) dX9_areTwo_25 ?_
      obtain rfl := nq_sE1 h; exact nq_zret hX hr rfl dX9_areTwo_26
    · rw [if_neg c6] at h
      refine nq_iload_n hX rfl 1 rfl dX9_areTwo_16 ?_
      refine nq_iload_n hX rfl 2 rfl dX9_areTwo_17 ?_
      refine nq_icmp_eq hX (tgt := 25) (by decide) dX9_areTwo_18 (fun c7 => ?_) (fun c7 => ?_)
      · rw [if_pos c7] at h
        refine nq_iconst hX (v := 0) (by decide) dX9_areTwo_25 ?_
        obtain rfl := nq_sE1 h; exact nq_zret hX hr rfl dX9_areTwo_26
      · rw [if_neg c7] at h
        refine nq_iconst hX (v := 1) (by decide) dX9_areTwo_21 ?_
        refine nq_goto hX (tgt := 26) (by decide) dX9_areTwo_22 ?_
        obtain rfl := nq_sE1 h; exact nq_zret hX hr rfl dX9_areTwo_26
theorem dsX9_areTwo : yX9_areTwo.cls ≠ "java/lang/invoke/MethodHandle" ∧ yX9_areTwo.cls ≠ "java/lang/invoke/VarHandle" ∧ (parseMethodDescriptor yX9_areTwo.desc).map (fun d => d.parameters.length) = some 2 := by decide +kernel
theorem tX9_areTwo {l : Launch} {E : Ev} {K : List Sh} {x1 : Int32} {x2 : Int32} {M : Mem} {r : Int32} (hL : nq_atModel E K) (h : fX9_areTwo x1 x2 M = some r) : nq_MA l E yX9_areTwo wsX9_areTwo (nq_rm 3) [.ref (nq_ad E 0), .int x1, .int x2] K M (some (.int r)) K M :=
  nq_met (own := RX9) (cc := cX9_areTwo) (maxL := 3) (ret := (some .boolean)) (by decide) rfl rfl (Nat.le_of_ble_eq_true rfl) (fun X hX hr => mX9_areTwo hL hX hr h)

def fX9_areFt (x1 : Int32) (M : Mem) : Option (Int32) :=
  if x1 < 0 then
  (some (0 : Int32))
  else
  ((nq_dv x1 (10 : Int32)).bind fun v2 =>
  (nq_rem x1 (10 : Int32)).bind fun v3 =>
  (fX9_areTwo v2 v3 M).bind fun v5 =>
  if v5 = 0 then
  (some (0 : Int32))
  else
  (some (1 : Int32)))
set_option maxHeartbeats 4000000 in
theorem mX9_areFt {X : Cx} {E : Ev} {l : Launch} {K : List Sh} {x1 : Int32} {M : Mem} {r : Int32} (hL : nq_atModel E K) (hX : nq_OK X E l (nq_rm 4) cX9_areFt 2 RX9 wsX9_areFt) (hr : nq_RT X E (some .boolean) (some (.int r)) K M) (h : fX9_areFt x1 M = some r) : nq_G X E 2 0 [(0, .ref (nq_ad E 0)), (1, .int x1)] [] K M := by
  unfold fX9_areFt at h
  refine nq_iload_n hX rfl 1 rfl dX9_areFt_0 ?_
  refine nq_if_lt hX (tgt := 23) (by decide) dX9_areFt_1 (fun c1 => ?_) (fun c1 => ?_)
  · rw [if_pos c1] at h
    refine nq_iconst hX (v := 0) (by decide) dX9_areFt_23 ?_
    obtain rfl := nq_sE1 h; exact nq_zret hX hr rfl dX9_areFt_24
  · rw [if_neg c1] at h
    refine nq_aload_n hX rfl 0 rfl dX9_areFt_4 ?_
    refine nq_iload_n hX rfl 1 rfl dX9_areFt_5 ?_
    refine nq_bipush hX (v := 10) (by decide) dX9_areFt_6 ?_
    obtain ⟨v2, e2, hn2, h⟩ := nq_ifE h
    refine nq_idiv hX hn2 e2 dX9_areFt_8 ?_
    refine nq_iload_n hX rfl 1 rfl dX9_areFt_9 ?_
    refine nq_bipush hX (v := 10) (by decide) dX9_areFt_10 ?_
    obtain ⟨v3, e3, hn3, h⟩ := nq_ifE h
    refine nq_irem hX hn3 e3 dX9_areFt_12 ?_
    obtain ⟨v5, hc4, h⟩ := nq_bE h
    refine nq_callVi hX (tX9_areTwo hL hc4) gX9_areFt_X9_areTwo rfl rfl dsX9_areTwo (by decide) (nq_Model_0 hL) rfl rfl (Nat.le_of_ble_eq_true rfl) dX9_areFt_13 ?_
    refine nq_if_eq hX (tgt := 23) (by decide) dX9_areFt_16 (fun c6 => ?_) (fun c6 => ?_)
    · rw [if_pos c6] at h
      refine nq_iconst hX (v := 0) (by decide) dX9_areFt_23 ?_
      obtain rfl := nq_sE1 h; exact nq_zret hX hr rfl dX9_areFt_24
    · rw [if_neg c6] at h
      refine nq_iconst hX (v := 1) (by decide) dX9_areFt_19 ?_
      refine nq_goto hX (tgt := 24) (by decide) dX9_areFt_20 ?_
      obtain rfl := nq_sE1 h; exact nq_zret hX hr rfl dX9_areFt_24
theorem dsX9_areFt : yX9_areFt.cls ≠ "java/lang/invoke/MethodHandle" ∧ yX9_areFt.cls ≠ "java/lang/invoke/VarHandle" ∧ (parseMethodDescriptor yX9_areFt.desc).map (fun d => d.parameters.length) = some 1 := by decide +kernel
theorem tX9_areFt {l : Launch} {E : Ev} {K : List Sh} {x1 : Int32} {M : Mem} {r : Int32} (hL : nq_atModel E K) (h : fX9_areFt x1 M = some r) : nq_MA l E yX9_areFt wsX9_areFt (nq_rm 4) [.ref (nq_ad E 0), .int x1] K M (some (.int r)) K M :=
  nq_met (own := RX9) (cc := cX9_areFt) (maxL := 2) (ret := (some .boolean)) (by decide) rfl rfl (Nat.le_of_ble_eq_true rfl) (fun X hX hr => mX9_areFt hL hX hr h)

theorem mmX9_isPact_c66 : Cond.constantLong RX9 66 (3) ∈ wsX9_isPact := by decide +kernel
def fX9_isPact (x0 : Int32) (M : Mem) : Option (Int32) :=
  (fX9_in x0.toInt64 (0 : Int64) (3 : Int64) M).bind fun v2 =>
  (nq_nz .boolean v2).bind fun _ =>
  some v2
set_option maxHeartbeats 4000000 in
theorem mX9_isPact {X : Cx} {E : Ev} {l : Launch} {K : List Sh} {x0 : Int32} {M : Mem} {r : Int32}  (hX : nq_OK X E l (nq_rm 2) cX9_isPact 1 RX9 wsX9_isPact) (hr : nq_RT X E (some .boolean) (some (.int r)) K M) (h : fX9_isPact x0 M = some r) : nq_G X E 1 0 [(0, .int x0)] [] K M := by
  unfold fX9_isPact at h
  refine nq_iload_n hX rfl 0 rfl dX9_isPact_0 ?_
  refine nq_i2l hX dX9_isPact_1 ?_
  refine nq_lconst hX (v := 0) (by decide) dX9_isPact_2 ?_
  refine nq_ldc2 hX (v := 3) mmX9_isPact_c66 dX9_isPact_3 ?_
  obtain ⟨v2, hc1, h⟩ := nq_bE h
  refine nq_callSi hX (tX9_in  hc1) gX9_isPact_X9_in rfl rfl dsX9_in (by decide) rfl (Nat.le_of_ble_eq_true rfl) dX9_isPact_6 ?_
  obtain ⟨hn3, h⟩ := nq_nzE h
  obtain rfl := nq_sE1 h; exact nq_zret hX hr hn3 dX9_isPact_9
theorem dsX9_isPact : yX9_isPact.cls ≠ "java/lang/invoke/MethodHandle" ∧ yX9_isPact.cls ≠ "java/lang/invoke/VarHandle" ∧ (parseMethodDescriptor yX9_isPact.desc).map (fun d => d.parameters.length) = some 1 := by decide +kernel
theorem tX9_isPact {l : Launch} {E : Ev} {K : List Sh} {x0 : Int32} {M : Mem} {r : Int32}  (h : fX9_isPact x0 M = some r) : nq_MA l E yX9_isPact wsX9_isPact (nq_rm 2) [.int x0] K M (some (.int r)) K M :=
  nq_met (own := RX9) (cc := cX9_isPact) (maxL := 1) (ret := (some .boolean)) (by decide) rfl rfl (Nat.le_of_ble_eq_true rfl) (fun X hX hr => mX9_isPact  hX hr h)

theorem inX9_isWord_9 : ∀ w ∈ u_ws RX9 TX9 23, w ∈ wsX9_isWord := by
  intro w h; unfold wsX9_isWord; simp only [List.mem_cons, List.mem_append]; simp only [h, true_or, or_true]
theorem lkX9_isWord_7 : Cond.fieldLink RX9 7 (TX9 0).1 (TX9 0).2.1 (TX9 0).2.2.1 ∈ wsX9_isWord := by decide +kernel
def fX9_isWord (x1 : Int32) (M : Mem) : Option (Int32) :=
  (nq_ag (M 1) 1250 (2 : Int32)).bind fun v1 =>
  (fX9_in x1.toInt64 (0 : Int64) ((v1 - (1 : Int32)).toInt64) M).bind fun v3 =>
  (nq_nz .boolean v3).bind fun _ =>
  some v3
set_option maxHeartbeats 4000000 in
theorem mX9_isWord {X : Cx} {E : Ev} {l : Launch} {K : List Sh} {x1 : Int32} {M : Mem} {r : Int32} (hL : nq_atModel E K) (hX : nq_OK X E l (nq_rm 2) cX9_isWord 2 RX9 wsX9_isWord) (hr : nq_RT X E (some .boolean) (some (.int r)) K M) (h : fX9_isWord x1 M = some r) : nq_G X E 2 0 [(0, .ref (nq_ad E 0)), (1, .int x1)] [] K M := by
  unfold fX9_isWord at h
  refine nq_iload_n hX rfl 1 rfl dX9_isWord_0 ?_
  refine nq_i2l hX dX9_isWord_1 ?_
  refine nq_lconst hX (v := 0) (by decide) dX9_isWord_2 ?_
  refine nq_aload_n hX rfl 0 rfl dX9_isWord_3 ?_
  refine nq_getr (v := .ref (nq_ad E 1)) hX inX9_isWord_9 (nq_Model_0 hL) rfl 0 (by decide) lkX9_isWord_7 _ rfl rfl dX9_isWord_4 ?_
  refine nq_iconst hX (v := 2) (by decide) dX9_isWord_7 ?_
  obtain ⟨v1, e1, hi1, h⟩ := nq_agE h
  refine nq_iald hX (nq_Model_d hL) e1 hi1 dX9_isWord_8 ?_
  refine nq_iconst hX (v := 1) (by decide) dX9_isWord_9 ?_
  refine nq_isub hX dX9_isWord_10 ?_
  refine nq_i2l hX dX9_isWord_11 ?_
  obtain ⟨v3, hc2, h⟩ := nq_bE h
  refine nq_callSi hX (tX9_in  hc2) gX9_isWord_X9_in rfl rfl dsX9_in (by decide) rfl (Nat.le_of_ble_eq_true rfl) dX9_isWord_12 ?_
  obtain ⟨hn4, h⟩ := nq_nzE h
  obtain rfl := nq_sE1 h; exact nq_zret hX hr hn4 dX9_isWord_15
theorem dsX9_isWord : yX9_isWord.cls ≠ "java/lang/invoke/MethodHandle" ∧ yX9_isWord.cls ≠ "java/lang/invoke/VarHandle" ∧ (parseMethodDescriptor yX9_isWord.desc).map (fun d => d.parameters.length) = some 1 := by decide +kernel
theorem tX9_isWord {l : Launch} {E : Ev} {K : List Sh} {x1 : Int32} {M : Mem} {r : Int32} (hL : nq_atModel E K) (h : fX9_isWord x1 M = some r) : nq_MA l E yX9_isWord wsX9_isWord (nq_rm 2) [.ref (nq_ad E 0), .int x1] K M (some (.int r)) K M :=
  nq_met (own := RX9) (cc := cX9_isWord) (maxL := 2) (ret := (some .boolean)) (by decide) rfl rfl (Nat.le_of_ble_eq_true rfl) (fun X hX hr => mX9_isWord hL hX hr h)

theorem inX9_wo_9 : ∀ w ∈ u_ws RX9 TX9 23, w ∈ wsX9_wo := by
  intro w h; unfold wsX9_wo; simp only [List.mem_cons, List.mem_append]; simp only [h, true_or, or_true]
theorem lkX9_wo_7 : Cond.fieldLink RX9 7 (TX9 0).1 (TX9 0).2.1 (TX9 0).2.2.1 ∈ wsX9_wo := by decide +kernel
def fX9_wo (x1 : Int32) (x2 : Int32) (M : Mem) : Option (Int32) :=
  (nq_ag (M 1) 1250 (((610 : Int32) + ((8 : Int32) * x1)) + x2)).bind fun v1 =>
  some v1
set_option maxHeartbeats 4000000 in
theorem mX9_wo {X : Cx} {E : Ev} {l : Launch} {K : List Sh} {x1 : Int32} {x2 : Int32} {M : Mem} {r : Int32} (hL : nq_atModel E K) (hX : nq_OK X E l (nq_rm 1) cX9_wo 3 RX9 wsX9_wo) (hr : nq_RT X E (some .int) (some (.int r)) K M) (h : fX9_wo x1 x2 M = some r) : nq_G X E 3 0 [(0, .ref (nq_ad E 0)), (1, .int x1), (2, .int x2)] [] K M := by
  unfold fX9_wo at h
  refine nq_aload_n hX rfl 0 rfl dX9_wo_0 ?_
  refine nq_getr (v := .ref (nq_ad E 1)) hX inX9_wo_9 (nq_Model_0 hL) rfl 0 (by decide) lkX9_wo_7 _ rfl rfl dX9_wo_1 ?_
  refine nq_sipush hX (v := 610) (by decide) dX9_wo_4 ?_
  refine nq_bipush hX (v := 8) (by decide) dX9_wo_7 ?_
  refine nq_iload_n hX rfl 1 rfl dX9_wo_9 ?_
  refine nq_imul hX dX9_wo_10 ?_
  refine nq_iadd hX dX9_wo_11 ?_
  refine nq_iload_n hX rfl 2 rfl dX9_wo_12 ?_
  refine nq_iadd hX dX9_wo_13 ?_
  obtain ⟨v1, e1, hi1, h⟩ := nq_agE h
  refine nq_iald hX (nq_Model_d hL) e1 hi1 dX9_wo_14 ?_
  obtain rfl := nq_sE1 h; exact nq_iret hX hr dX9_wo_15
theorem dsX9_wo : yX9_wo.cls ≠ "java/lang/invoke/MethodHandle" ∧ yX9_wo.cls ≠ "java/lang/invoke/VarHandle" ∧ (parseMethodDescriptor yX9_wo.desc).map (fun d => d.parameters.length) = some 2 := by decide +kernel
theorem tX9_wo {l : Launch} {E : Ev} {K : List Sh} {x1 : Int32} {x2 : Int32} {M : Mem} {r : Int32} (hL : nq_atModel E K) (h : fX9_wo x1 x2 M = some r) : nq_MA l E yX9_wo wsX9_wo (nq_rm 1) [.ref (nq_ad E 0), .int x1, .int x2] K M (some (.int r)) K M :=
  nq_met (own := RX9) (cc := cX9_wo) (maxL := 3) (ret := (some .int)) (by decide) rfl rfl (Nat.le_of_ble_eq_true rfl) (fun X hX hr => mX9_wo hL hX hr h)

theorem inX9_place_9 : ∀ w ∈ u_ws RX9 TX9 23, w ∈ wsX9_place := by
  intro w h; unfold wsX9_place; simp only [List.mem_cons, List.mem_append]; simp only [h, true_or, or_true]
theorem lkX9_place_7 : Cond.fieldLink RX9 7 (TX9 0).1 (TX9 0).2.1 (TX9 0).2.2.1 ∈ wsX9_place := by decide +kernel
def fX9_place (M : Mem) : Option (Int32 × Mem) :=
  (nq_ag (M 1) 1250 (1 : Int32)).bind fun v1 =>
  if v1 = (6 : Int32) then
  (nq_b2 (fX9_finds (4 : Int32) M) fun v4 M5 =>
  some (v4, M5))
  else
  ((nq_ag (M 1) 1250 (1 : Int32)).bind fun v6 =>
  (nq_as M 1 1250 (1 : Int32) (v6 + (1 : Int32))).bind fun M7 =>
  (nq_ag (M7 1) 1250 (1 : Int32)).bind fun v8 =>
  some ((v8 - (1 : Int32)), M7))
set_option maxHeartbeats 4000000 in
theorem mX9_place {X : Cx} {E : Ev} {l : Launch} {K : List Sh} {M : Mem} {r : Int32} {M' : Mem} (hL : nq_atModel E K) (hX : nq_OK X E l (nq_rm 2) cX9_place 1 RX9 wsX9_place) (hr : nq_RT X E (some .int) (some (.int r)) K M') (h : fX9_place M = some (r, M')) : nq_G X E 1 0 [(0, .ref (nq_ad E 0))] [] K M := by
  unfold fX9_place at h
  refine nq_aload_n hX rfl 0 rfl dX9_place_0 ?_
  refine nq_getr (v := .ref (nq_ad E 1)) hX inX9_place_9 (nq_Model_0 hL) rfl 0 (by decide) lkX9_place_7 _ rfl rfl dX9_place_1 ?_
  refine nq_iconst hX (v := 1) (by decide) dX9_place_4 ?_
  obtain ⟨v1, e1, hi1, h⟩ := nq_agE h
  refine nq_iald hX (nq_Model_d hL) e1 hi1 dX9_place_5 ?_
  refine nq_bipush hX (v := 6) (by decide) dX9_place_6 ?_
  refine nq_icmp_ne hX (tgt := 17) (by decide) dX9_place_8 (fun c2 => ?_) (fun c2 => ?_)
  · rw [if_pos c2] at h
    refine nq_aload_n hX rfl 0 rfl dX9_place_11 ?_
    refine nq_iconst hX (v := 4) (by decide) dX9_place_12 ?_
    obtain ⟨v4, M5, hc3, h⟩ := nq_b2E h
    refine nq_callVi hX (tX9_finds hL hc3) gX9_place_X9_finds rfl rfl dsX9_finds (by decide) (nq_Model_0 hL) rfl rfl (Nat.le_of_ble_eq_true rfl) dX9_place_13 ?_
    obtain ⟨rfl, rfl⟩ := nq_sE2 h; exact nq_iret hX hr dX9_place_16
  · rw [if_neg c2] at h
    refine nq_aload_n hX rfl 0 rfl dX9_place_17 ?_
    refine nq_getr (v := .ref (nq_ad E 1)) hX inX9_place_9 (nq_Model_0 hL) rfl 0 (by decide) lkX9_place_7 _ rfl rfl dX9_place_18 ?_
    refine nq_iconst hX (v := 1) (by decide) dX9_place_21 ?_
    refine nq_dup2 hX rfl rfl dX9_place_22 ?_
    obtain ⟨v6, e6, hi6, h⟩ := nq_agE h
    refine nq_iald hX (nq_Model_d hL) e6 hi6 dX9_place_23 ?_
    refine nq_iconst hX (v := 1) (by decide) dX9_place_24 ?_
    refine nq_iadd hX dX9_place_25 ?_
    obtain ⟨M7, e7, hi7, h⟩ := nq_asE h
    refine nq_iast hX (nq_Model_d hL) e7 hi7 dX9_place_26 ?_
    refine nq_aload_n hX rfl 0 rfl dX9_place_27 ?_
    refine nq_getr (v := .ref (nq_ad E 1)) hX inX9_place_9 (nq_Model_0 hL) rfl 0 (by decide) lkX9_place_7 _ rfl rfl dX9_place_28 ?_
    refine nq_iconst hX (v := 1) (by decide) dX9_place_31 ?_
    obtain ⟨v8, e8, hi8, h⟩ := nq_agE h
    refine nq_iald hX (nq_Model_d hL) e8 hi8 dX9_place_32 ?_
    refine nq_iconst hX (v := 1) (by decide) dX9_place_33 ?_
    refine nq_isub hX dX9_place_34 ?_
    obtain ⟨rfl, rfl⟩ := nq_sE2 h; exact nq_iret hX hr dX9_place_35
theorem dsX9_place : yX9_place.cls ≠ "java/lang/invoke/MethodHandle" ∧ yX9_place.cls ≠ "java/lang/invoke/VarHandle" ∧ (parseMethodDescriptor yX9_place.desc).map (fun d => d.parameters.length) = some 0 := by decide +kernel
theorem tX9_place {l : Launch} {E : Ev} {K : List Sh} {M : Mem} {r : Int32} {M' : Mem} (hL : nq_atModel E K) (h : fX9_place M = some (r, M')) : nq_MA l E yX9_place wsX9_place (nq_rm 2) [.ref (nq_ad E 0)] K M (some (.int r)) K M' :=
  nq_met (own := RX9) (cc := cX9_place) (maxL := 1) (ret := (some .int)) (by decide) rfl rfl (Nat.le_of_ble_eq_true rfl) (fun X hX hr => mX9_place hL hX hr h)

theorem mmX9_near_c72 : Cond.constantLong RX9 72 (30) ∈ wsX9_near := by decide +kernel
theorem inX9_near_9 : ∀ w ∈ u_ws RX9 TX9 23, w ∈ wsX9_near := by
  intro w h; unfold wsX9_near; simp only [List.mem_cons, List.mem_append]; simp only [h, true_or, or_true]
theorem lkX9_near_7 : Cond.fieldLink RX9 7 (TX9 0).1 (TX9 0).2.1 (TX9 0).2.2.1 ∈ wsX9_near := by decide +kernel
def fX9_near (x1 : Int32) (x2 : Int32) (x3 : Int32) (M : Mem) : Option (Int32 × Mem) :=
  (fX9_areTwo x1 x2 M).bind fun v2 =>
  if v2 = 0 then
  (nq_b2 (fX9_finds (1 : Int32) M) fun v5 M6 =>
  some (v5, M6))
  else
  ((fX9_in x3.toInt64 (0 : Int64) (30 : Int64) M).bind fun v8 =>
  if v8 = 0 then
  (nq_b2 (fX9_finds (1 : Int32) M) fun v11 M12 =>
  some (v11, M12))
  else
  ((nq_ag (M 1) 1250 (((20 : Int32) + ((6 : Int32) * x1)) + x2)).bind fun v13 =>
  (nq_as M 1 1250 (((20 : Int32) + ((6 : Int32) * x1)) + x2) x3).bind fun M14 =>
  (nq_as M14 1 1250 (((20 : Int32) + ((6 : Int32) * x2)) + x1) x3).bind fun M15 =>
  some (v13, M15)))
set_option maxHeartbeats 4000000 in
theorem mX9_near {X : Cx} {E : Ev} {l : Launch} {K : List Sh} {x1 : Int32} {x2 : Int32} {x3 : Int32} {M : Mem} {r : Int32} {M' : Mem} (hL : nq_atModel E K) (hX : nq_OK X E l (nq_rm 4) cX9_near 5 RX9 wsX9_near) (hr : nq_RT X E (some .int) (some (.int r)) K M') (h : fX9_near x1 x2 x3 M = some (r, M')) : nq_G X E 5 0 [(0, .ref (nq_ad E 0)), (1, .int x1), (2, .int x2), (3, .int x3)] [] K M := by
  unfold fX9_near at h
  refine nq_aload_n hX rfl 0 rfl dX9_near_0 ?_
  refine nq_iload_n hX rfl 1 rfl dX9_near_1 ?_
  refine nq_iload_n hX rfl 2 rfl dX9_near_2 ?_
  obtain ⟨v2, hc1, h⟩ := nq_bE h
  refine nq_callVi hX (tX9_areTwo hL hc1) gX9_near_X9_areTwo rfl rfl dsX9_areTwo (by decide) (nq_Model_0 hL) rfl rfl (Nat.le_of_ble_eq_true rfl) dX9_near_3 ?_
  refine nq_if_eq hX (tgt := 21) (by decide) dX9_near_6 (fun c3 => ?_) (fun c3 => ?_)
  · rw [if_pos c3] at h
    refine nq_aload_n hX rfl 0 rfl dX9_near_21 ?_
    refine nq_iconst hX (v := 1) (by decide) dX9_near_22 ?_
    obtain ⟨v5, M6, hc4, h⟩ := nq_b2E h
    refine nq_callVi hX (tX9_finds hL hc4) gX9_near_X9_finds rfl rfl dsX9_finds (by decide) (nq_Model_0 hL) rfl rfl (Nat.le_of_ble_eq_true rfl) dX9_near_23 ?_
    obtain ⟨rfl, rfl⟩ := nq_sE2 h; exact nq_iret hX hr dX9_near_26
  · rw [if_neg c3] at h
    refine nq_iload_n hX rfl 3 rfl dX9_near_9 ?_
    refine nq_i2l hX dX9_near_10 ?_
    refine nq_lconst hX (v := 0) (by decide) dX9_near_11 ?_
    refine nq_ldc2 hX (v := 30) mmX9_near_c72 dX9_near_12 ?_
    obtain ⟨v8, hc7, h⟩ := nq_bE h
    refine nq_callSi hX (tX9_in  hc7) gX9_near_X9_in rfl rfl dsX9_in (by decide) rfl (Nat.le_of_ble_eq_true rfl) dX9_near_15 ?_
    refine nq_if_ne hX (tgt := 27) (by decide) dX9_near_18 (fun c9 => ?_) (fun c9 => ?_)
    · rw [if_pos c9] at h
      refine nq_aload_n hX rfl 0 rfl dX9_near_21 ?_
      refine nq_iconst hX (v := 1) (by decide) dX9_near_22 ?_
      obtain ⟨v11, M12, hc10, h⟩ := nq_b2E h
      refine nq_callVi hX (tX9_finds hL hc10) gX9_near_X9_finds rfl rfl dsX9_finds (by decide) (nq_Model_0 hL) rfl rfl (Nat.le_of_ble_eq_true rfl) dX9_near_23 ?_
      obtain ⟨rfl, rfl⟩ := nq_sE2 h; exact nq_iret hX hr dX9_near_26
    · rw [if_neg c9] at h
      refine nq_aload_n hX rfl 0 rfl dX9_near_27 ?_
      refine nq_getr (v := .ref (nq_ad E 1)) hX inX9_near_9 (nq_Model_0 hL) rfl 0 (by decide) lkX9_near_7 _ rfl rfl dX9_near_28 ?_
      refine nq_bipush hX (v := 20) (by decide) dX9_near_31 ?_
      refine nq_bipush hX (v := 6) (by decide) dX9_near_33 ?_
      refine nq_iload_n hX rfl 1 rfl dX9_near_35 ?_
      refine nq_imul hX dX9_near_36 ?_
      refine nq_iadd hX dX9_near_37 ?_
      refine nq_iload_n hX rfl 2 rfl dX9_near_38 ?_
      refine nq_iadd hX dX9_near_39 ?_
      obtain ⟨v13, e13, hi13, h⟩ := nq_agE h
      refine nq_iald hX (nq_Model_d hL) e13 hi13 dX9_near_40 ?_
      refine nq_istore hX (lv' := [(4, .int v13), (0, .ref (nq_ad E 0)), (1, .int x1), (2, .int x2), (3, .int x3)]) (by decide) rfl rfl dX9_near_41 ?_
      refine nq_aload_n hX rfl 1 rfl dX9_near_43 ?_
      refine nq_getr (v := .ref (nq_ad E 1)) hX inX9_near_9 (nq_Model_0 hL) rfl 0 (by decide) lkX9_near_7 _ rfl rfl dX9_near_44 ?_
      refine nq_bipush hX (v := 20) (by decide) dX9_near_47 ?_
      refine nq_bipush hX (v := 6) (by decide) dX9_near_49 ?_
      refine nq_iload_n hX rfl 2 rfl dX9_near_51 ?_
      refine nq_imul hX dX9_near_52 ?_
      refine nq_iadd hX dX9_near_53 ?_
      refine nq_iload_n hX rfl 3 rfl dX9_near_54 ?_
      refine nq_iadd hX dX9_near_55 ?_
      refine nq_iload_n hX rfl 4 rfl dX9_near_56 ?_
      obtain ⟨M14, e14, hi14, h⟩ := nq_asE h
      refine nq_iast hX (nq_Model_d hL) e14 hi14 dX9_near_57 ?_
      refine nq_aload_n hX rfl 1 rfl dX9_near_58 ?_
      refine nq_getr (v := .ref (nq_ad E 1)) hX inX9_near_9 (nq_Model_0 hL) rfl 0 (by decide) lkX9_near_7 _ rfl rfl dX9_near_59 ?_
      refine nq_bipush hX (v := 20) (by decide) dX9_near_62 ?_
      refine nq_bipush hX (v := 6) (by decide) dX9_near_64 ?_
      refine nq_iload_n hX rfl 3 rfl dX9_near_66 ?_
      refine nq_imul hX dX9_near_67 ?_
      refine nq_iadd hX dX9_near_68 ?_
      refine nq_iload_n hX rfl 2 rfl dX9_near_69 ?_
      refine nq_iadd hX dX9_near_70 ?_
      refine nq_iload_n hX rfl 4 rfl dX9_near_71 ?_
      obtain ⟨M15, e15, hi15, h⟩ := nq_asE h
      refine nq_iast hX (nq_Model_d hL) e15 hi15 dX9_near_72 ?_
      refine nq_iload hX 0 rfl dX9_near_73 ?_
      obtain ⟨rfl, rfl⟩ := nq_sE2 h; exact nq_iret hX hr dX9_near_75
theorem dsX9_near : yX9_near.cls ≠ "java/lang/invoke/MethodHandle" ∧ yX9_near.cls ≠ "java/lang/invoke/VarHandle" ∧ (parseMethodDescriptor yX9_near.desc).map (fun d => d.parameters.length) = some 3 := by decide +kernel
theorem tX9_near {l : Launch} {E : Ev} {K : List Sh} {x1 : Int32} {x2 : Int32} {x3 : Int32} {M : Mem} {r : Int32} {M' : Mem} (hL : nq_atModel E K) (h : fX9_near x1 x2 x3 M = some (r, M')) : nq_MA l E yX9_near wsX9_near (nq_rm 4) [.ref (nq_ad E 0), .int x1, .int x2, .int x3] K M (some (.int r)) K M' :=
  nq_met (own := RX9) (cc := cX9_near) (maxL := 5) (ret := (some .int)) (by decide) rfl rfl (Nat.le_of_ble_eq_true rfl) (fun X hX hr => mX9_near hL hX hr h)

theorem inX9_findWays_9 : ∀ w ∈ u_ws RX9 TX9 23, w ∈ wsX9_findWays := by
  intro w h; unfold wsX9_findWays; simp only [List.mem_cons, List.mem_append]; simp only [h, true_or, or_true]
theorem lkX9_findWays_19 : Cond.fieldLink RX9 19 (TX9 4).1 (TX9 4).2.1 (TX9 4).2.2.1 ∈ wsX9_findWays := by decide +kernel
theorem lkX9_findWays_7 : Cond.fieldLink RX9 7 (TX9 0).1 (TX9 0).2.1 (TX9 0).2.2.1 ∈ wsX9_findWays := by decide +kernel
def fX9_findWays_B2 (x1 : Int32) (M : Mem) : Option ((Int32 × Mem) ⊕ (Mem)) :=
  if (36 : Int32) ≤ x1 then
  (some (.inr M))
  else
  ((nq_dv x1 (6 : Int32)).bind fun v2 =>
  (nq_rem x1 (6 : Int32)).bind fun v3 =>
  if v2 = v3 then
  ((nq_as M 4 36 x1 (0 : Int32)).bind fun M5 =>
  nq_lt (x1 + (1 : Int32)) fun v6 =>
  some (.inl (v6, M5)))
  else
  ((nq_ag (M 1) 1250 ((20 : Int32) + x1)).bind fun v7 =>
  if v7 ≤ 0 then
  ((nq_as M 4 36 x1 (10000 : Int32)).bind fun M9 =>
  nq_lt (x1 + (1 : Int32)) fun v10 =>
  some (.inl (v10, M9)))
  else
  ((nq_ag (M 1) 1250 ((20 : Int32) + x1)).bind fun v11 =>
  (nq_as M 4 36 x1 v11).bind fun M12 =>
  nq_lt (x1 + (1 : Int32)) fun v13 =>
  some (.inl (v13, M12)))))
set_option maxHeartbeats 4000000 in
theorem mX9_findWays_B2 {X : Cx} {E : Ev} {l : Launch} {K : List Sh} {x1 : Int32} {M : Mem} (hL : nq_atModel E K) (hX : nq_OK X E l (nq_rm 1) cX9_findWays 4 RX9 wsX9_findWays) {x : (Int32 × Mem) ⊕ (Mem)} (hc : ∀ s' : Int32 × Mem, x = .inl s' → nq_G X E 4 2 [(0, .ref (nq_ad E 0)), (1, .int s'.1)] [] K s'.2) (he : ∀ s' : Mem, x = .inr s' → nq_G X E 4 62 [(0, .ref (nq_ad E 0))] [] K s') (h : fX9_findWays_B2 x1 M = some x) : nq_G X E 4 2 [(0, .ref (nq_ad E 0)), (1, .int x1)] [] K M := by
  unfold fX9_findWays_B2 at h
  refine nq_iload_n hX rfl 1 rfl dX9_findWays_2 ?_
  refine nq_bipush hX (v := 36) (by decide) dX9_findWays_3 ?_
  refine nq_icmp_ge hX (tgt := 62) (by decide) dX9_findWays_5 (fun c1 => ?_) (fun c1 => ?_)
  · rw [if_pos c1] at h
    refine nq_sub (lv' := [(0, .ref (nq_ad E 0))]) [0] rfl ?_
    exact he M (nq_sE h).symm
  · rw [if_neg c1] at h
    refine nq_aload_n hX rfl 0 rfl dX9_findWays_8 ?_
    refine nq_getr (v := .ref (nq_ad E 4)) hX inX9_findWays_9 (nq_Model_0 hL) rfl 4 (by decide) lkX9_findWays_19 _ rfl rfl dX9_findWays_9 ?_
    refine nq_iload_n hX rfl 1 rfl dX9_findWays_12 ?_
    refine nq_iload_n hX rfl 1 rfl dX9_findWays_13 ?_
    refine nq_bipush hX (v := 6) (by decide) dX9_findWays_14 ?_
    obtain ⟨v2, e2, hn2, h⟩ := nq_ifE h
    refine nq_idiv hX hn2 e2 dX9_findWays_16 ?_
    refine nq_iload_n hX rfl 1 rfl dX9_findWays_17 ?_
    refine nq_bipush hX (v := 6) (by decide) dX9_findWays_18 ?_
    obtain ⟨v3, e3, hn3, h⟩ := nq_ifE h
    refine nq_irem hX hn3 e3 dX9_findWays_20 ?_
    refine nq_icmp_ne hX (tgt := 28) (by decide) dX9_findWays_21 (fun c4 => ?_) (fun c4 => ?_)
    · rw [if_pos c4] at h
      refine nq_iconst hX (v := 0) (by decide) dX9_findWays_24 ?_
      refine nq_goto hX (tgt := 55) (by decide) dX9_findWays_25 ?_
      obtain ⟨M5, e5, hi5, h⟩ := nq_asE h
      refine nq_iast hX (nq_Model_way hL) e5 hi5 dX9_findWays_55 ?_
      obtain ⟨v6, e6, h⟩ := nq_ltE h
      refine nq_iinc hX (lv' := [(1, .int v6), (0, .ref (nq_ad E 0))]) (j := 1) rfl (e6.trans rfl) (by decide) rfl dX9_findWays_56 ?_
      refine nq_goto hX (tgt := 2) (by decide) dX9_findWays_59 ?_
      refine nq_sub (lv' := [(0, .ref (nq_ad E 0)), (1, .int v6)]) [1, 0] rfl ?_
      exact hc (v6, M5) (nq_sE h).symm
    · rw [if_neg c4] at h
      refine nq_aload_n hX rfl 0 rfl dX9_findWays_28 ?_
      refine nq_getr (v := .ref (nq_ad E 1)) hX inX9_findWays_9 (nq_Model_0 hL) rfl 0 (by decide) lkX9_findWays_7 _ rfl rfl dX9_findWays_29 ?_
      refine nq_bipush hX (v := 20) (by decide) dX9_findWays_32 ?_
      refine nq_iload_n hX rfl 1 rfl dX9_findWays_34 ?_
      refine nq_iadd hX dX9_findWays_35 ?_
      obtain ⟨v7, e7, hi7, h⟩ := nq_agE h
      refine nq_iald hX (nq_Model_d hL) e7 hi7 dX9_findWays_36 ?_
      refine nq_if_le hX (tgt := 52) (by decide) dX9_findWays_37 (fun c8 => ?_) (fun c8 => ?_)
      · rw [if_pos c8] at h
        refine nq_sipush hX (v := 10000) (by decide) dX9_findWays_52 ?_
        obtain ⟨M9, e9, hi9, h⟩ := nq_asE h
        refine nq_iast hX (nq_Model_way hL) e9 hi9 dX9_findWays_55 ?_
        obtain ⟨v10, e10, h⟩ := nq_ltE h
        refine nq_iinc hX (lv' := [(1, .int v10), (0, .ref (nq_ad E 0))]) (j := 1) rfl (e10.trans rfl) (by decide) rfl dX9_findWays_56 ?_
        refine nq_goto hX (tgt := 2) (by decide) dX9_findWays_59 ?_
        refine nq_sub (lv' := [(0, .ref (nq_ad E 0)), (1, .int v10)]) [1, 0] rfl ?_
        exact hc (v10, M9) (nq_sE h).symm
      · rw [if_neg c8] at h
        refine nq_aload_n hX rfl 0 rfl dX9_findWays_40 ?_
        refine nq_getr (v := .ref (nq_ad E 1)) hX inX9_findWays_9 (nq_Model_0 hL) rfl 0 (by decide) lkX9_findWays_7 _ rfl rfl dX9_findWays_41 ?_
        refine nq_bipush hX (v := 20) (by decide) dX9_findWays_44 ?_
        refine nq_iload_n hX rfl 1 rfl dX9_findWays_46 ?_
        refine nq_iadd hX dX9_findWays_47 ?_
        obtain ⟨v11, e11, hi11, h⟩ := nq_agE h
        refine nq_iald hX (nq_Model_d hL) e11 hi11 dX9_findWays_48 ?_
        refine nq_goto hX (tgt := 55) (by decide) dX9_findWays_49 ?_
        obtain ⟨M12, e12, hi12, h⟩ := nq_asE h
        refine nq_iast hX (nq_Model_way hL) e12 hi12 dX9_findWays_55 ?_
        obtain ⟨v13, e13, h⟩ := nq_ltE h
        refine nq_iinc hX (lv' := [(1, .int v13), (0, .ref (nq_ad E 0))]) (j := 1) rfl (e13.trans rfl) (by decide) rfl dX9_findWays_56 ?_
        refine nq_goto hX (tgt := 2) (by decide) dX9_findWays_59 ?_
        refine nq_sub (lv' := [(0, .ref (nq_ad E 0)), (1, .int v13)]) [1, 0] rfl ?_
        exact hc (v13, M12) (nq_sE h).symm
def fX9_findWays_B72_64 (x1 : Int32) (x2 : Int32) (M : Mem) : Option ((Int32 × Mem) ⊕ (Mem)) :=
  if (36 : Int32) ≤ x2 then
  (some (.inr M))
  else
  ((nq_dv x2 (6 : Int32)).bind fun v16 =>
  (nq_ag (M 4) 36 ((v16 * (6 : Int32)) + x1)).bind fun v17 =>
  (nq_rem x2 (6 : Int32)).bind fun v18 =>
  (nq_ag (M 4) 36 (((6 : Int32) * x1) + v18)).bind fun v19 =>
  nq_lt ((v17 + v19)) fun v20 =>
  (nq_ag (M 4) 36 x2).bind fun v21 =>
  if v21 ≤ v20 then
  ((nq_ag (M 4) 36 x2).bind fun v23 =>
  (nq_as M 4 36 x2 v23).bind fun M24 =>
  nq_lt (x2 + (1 : Int32)) fun v25 =>
  some (.inl (v25, M24)))
  else
  ((nq_as M 4 36 x2 v20).bind fun M26 =>
  nq_lt (x2 + (1 : Int32)) fun v27 =>
  some (.inl (v27, M26))))
set_option maxHeartbeats 4000000 in
theorem mX9_findWays_B72_64 {X : Cx} {E : Ev} {l : Launch} {K : List Sh} {x1 : Int32} {x2 : Int32} {M : Mem} (hL : nq_atModel E K) (hX : nq_OK X E l (nq_rm 1) cX9_findWays 4 RX9 wsX9_findWays) {x : (Int32 × Mem) ⊕ (Mem)} (hc : ∀ s' : Int32 × Mem, x = .inl s' → nq_G X E 4 72 [(0, .ref (nq_ad E 0)), (1, .int x1), (2, .int s'.1)] [] K s'.2) (he : ∀ s' : Mem, x = .inr s' → nq_G X E 4 140 [(0, .ref (nq_ad E 0)), (1, .int x1)] [] K s') (h : fX9_findWays_B72_64 x1 x2 M = some x) : nq_G X E 4 72 [(0, .ref (nq_ad E 0)), (1, .int x1), (2, .int x2)] [] K M := by
  unfold fX9_findWays_B72_64 at h
  refine nq_iload_n hX rfl 2 rfl dX9_findWays_72 ?_
  refine nq_bipush hX (v := 36) (by decide) dX9_findWays_73 ?_
  refine nq_icmp_ge hX (tgt := 140) (by decide) dX9_findWays_75 (fun c15 => ?_) (fun c15 => ?_)
  · rw [if_pos c15] at h
    refine nq_sub (lv' := [(0, .ref (nq_ad E 0)), (1, .int x1)]) [0, 1] rfl ?_
    exact he M (nq_sE h).symm
  · rw [if_neg c15] at h
    refine nq_aload_n hX rfl 0 rfl dX9_findWays_78 ?_
    refine nq_getr (v := .ref (nq_ad E 4)) hX inX9_findWays_9 (nq_Model_0 hL) rfl 4 (by decide) lkX9_findWays_19 _ rfl rfl dX9_findWays_79 ?_
    refine nq_iload_n hX rfl 2 rfl dX9_findWays_82 ?_
    refine nq_bipush hX (v := 6) (by decide) dX9_findWays_83 ?_
    obtain ⟨v16, e16, hn16, h⟩ := nq_ifE h
    refine nq_idiv hX hn16 e16 dX9_findWays_85 ?_
    refine nq_bipush hX (v := 6) (by decide) dX9_findWays_86 ?_
    refine nq_imul hX dX9_findWays_88 ?_
    refine nq_iload_n hX rfl 1 rfl dX9_findWays_89 ?_
    refine nq_iadd hX dX9_findWays_90 ?_
    obtain ⟨v17, e17, hi17, h⟩ := nq_agE h
    refine nq_iald hX (nq_Model_way hL) e17 hi17 dX9_findWays_91 ?_
    refine nq_aload_n hX rfl 0 rfl dX9_findWays_92 ?_
    refine nq_getr (v := .ref (nq_ad E 4)) hX inX9_findWays_9 (nq_Model_0 hL) rfl 4 (by decide) lkX9_findWays_19 _ rfl rfl dX9_findWays_93 ?_
    refine nq_bipush hX (v := 6) (by decide) dX9_findWays_96 ?_
    refine nq_iload_n hX rfl 1 rfl dX9_findWays_98 ?_
    refine nq_imul hX dX9_findWays_99 ?_
    refine nq_iload_n hX rfl 2 rfl dX9_findWays_100 ?_
    refine nq_bipush hX (v := 6) (by decide) dX9_findWays_101 ?_
    obtain ⟨v18, e18, hn18, h⟩ := nq_ifE h
    refine nq_irem hX hn18 e18 dX9_findWays_103 ?_
    refine nq_iadd hX dX9_findWays_104 ?_
    obtain ⟨v19, e19, hi19, h⟩ := nq_agE h
    refine nq_iald hX (nq_Model_way hL) e19 hi19 dX9_findWays_105 ?_
    refine nq_iadd hX dX9_findWays_106 ?_
    obtain ⟨v20, e20, h⟩ := nq_ltE h
    refine nq_istore_n hX (lv' := [(3, .int v20), (0, .ref (nq_ad E 0)), (1, .int x1), (2, .int x2)]) rfl (by decide) e20 rfl dX9_findWays_107 ?_
    refine nq_aload_n hX rfl 1 rfl dX9_findWays_108 ?_
    refine nq_getr (v := .ref (nq_ad E 4)) hX inX9_findWays_9 (nq_Model_0 hL) rfl 4 (by decide) lkX9_findWays_19 _ rfl rfl dX9_findWays_109 ?_
    refine nq_iload_n hX rfl 3 rfl dX9_findWays_112 ?_
    refine nq_iload_n hX rfl 0 rfl dX9_findWays_113 ?_
    refine nq_aload_n hX rfl 1 rfl dX9_findWays_114 ?_
    refine nq_getr (v := .ref (nq_ad E 4)) hX inX9_findWays_9 (nq_Model_0 hL) rfl 4 (by decide) lkX9_findWays_19 _ rfl rfl dX9_findWays_115 ?_
    refine nq_iload_n hX rfl 3 rfl dX9_findWays_118 ?_
    obtain ⟨v21, e21, hi21, h⟩ := nq_agE h
    refine nq_iald hX (nq_Model_way hL) e21 hi21 dX9_findWays_119 ?_
    refine nq_icmp_ge hX (tgt := 127) (by decide) dX9_findWays_120 (fun c22 => ?_) (fun c22 => ?_)
    · rw [if_pos c22] at h
      refine nq_aload_n hX rfl 1 rfl dX9_findWays_127 ?_
      refine nq_getr (v := .ref (nq_ad E 4)) hX inX9_findWays_9 (nq_Model_0 hL) rfl 4 (by decide) lkX9_findWays_19 _ rfl rfl dX9_findWays_128 ?_
      refine nq_iload_n hX rfl 3 rfl dX9_findWays_131 ?_
      obtain ⟨v23, e23, hi23, h⟩ := nq_agE h
      refine nq_iald hX (nq_Model_way hL) e23 hi23 dX9_findWays_132 ?_
      obtain ⟨M24, e24, hi24, h⟩ := nq_asE h
      refine nq_iast hX (nq_Model_way hL) e24 hi24 dX9_findWays_133 ?_
      obtain ⟨v25, e25, h⟩ := nq_ltE h
      refine nq_iinc hX (lv' := [(2, .int v25), (3, .int v20), (0, .ref (nq_ad E 0)), (1, .int x1)]) (j := 3) rfl (e25.trans rfl) (by decide) rfl dX9_findWays_134 ?_
      refine nq_goto hX (tgt := 72) (by decide) dX9_findWays_137 ?_
      refine nq_sub (lv' := [(0, .ref (nq_ad E 0)), (1, .int x1), (2, .int v25)]) [2, 3, 0] rfl ?_
      exact hc (v25, M24) (nq_sE h).symm
    · rw [if_neg c22] at h
      refine nq_iload_n hX rfl 0 rfl dX9_findWays_123 ?_
      refine nq_goto hX (tgt := 133) (by decide) dX9_findWays_124 ?_
      obtain ⟨M26, e26, hi26, h⟩ := nq_asE h
      refine nq_iast hX (nq_Model_way hL) e26 hi26 dX9_findWays_133 ?_
      obtain ⟨v27, e27, h⟩ := nq_ltE h
      refine nq_iinc hX (lv' := [(2, .int v27), (3, .int v20), (0, .ref (nq_ad E 0)), (1, .int x1)]) (j := 3) rfl (e27.trans rfl) (by decide) rfl dX9_findWays_134 ?_
      refine nq_goto hX (tgt := 72) (by decide) dX9_findWays_137 ?_
      refine nq_sub (lv' := [(0, .ref (nq_ad E 0)), (1, .int x1), (2, .int v27)]) [2, 3, 0] rfl ?_
      exact hc (v27, M26) (nq_sE h).symm
def fX9_findWays_L140_64 (x1 : Int32) (M : Mem) : Option ((Int32 × Mem) ⊕ (Mem)) :=
  nq_lt (x1 + (1 : Int32)) fun v28 =>
  some (.inl (v28, M))
set_option maxHeartbeats 4000000 in
theorem mX9_findWays_L140_64 {X : Cx} {E : Ev} {l : Launch} {K : List Sh} {x1 : Int32} {M : Mem} (hL : nq_atModel E K) (hX : nq_OK X E l (nq_rm 1) cX9_findWays 4 RX9 wsX9_findWays) {x : (Int32 × Mem) ⊕ (Mem)} (hc : ∀ s' : Int32 × Mem, x = .inl s' → nq_G X E 4 64 [(0, .ref (nq_ad E 0)), (1, .int s'.1)] [] K s'.2) (he : ∀ s' : Mem, x = .inr s' → nq_G X E 4 146 [] [] K s') (h : fX9_findWays_L140_64 x1 M = some x) : nq_G X E 4 140 [(0, .ref (nq_ad E 0)), (1, .int x1)] [] K M := by
  unfold fX9_findWays_L140_64 at h
  obtain ⟨v28, e28, h⟩ := nq_ltE h
  refine nq_iinc hX (lv' := [(1, .int v28), (0, .ref (nq_ad E 0))]) (j := 1) rfl (e28.trans rfl) (by decide) rfl dX9_findWays_140 ?_
  refine nq_goto hX (tgt := 64) (by decide) dX9_findWays_143 ?_
  refine nq_sub (lv' := [(0, .ref (nq_ad E 0)), (1, .int v28)]) [1, 0] rfl ?_
  exact hc (v28, M) (nq_sE h).symm
def fX9_findWays_L72_64 (x1 : Int32) (x2 : Int32) (M : Mem) : Option ((Int32 × Mem) ⊕ (Mem)) :=
  (nq_lp (fun s : Int32 × Mem => fX9_findWays_B72_64 x1 s.1 s.2) nq_fuel (x2, M)).bind (fun e => fX9_findWays_L140_64 x1 e)
set_option maxHeartbeats 4000000 in
theorem mX9_findWays_L72_64 {X : Cx} {E : Ev} {l : Launch} {K : List Sh} {x1 : Int32} {x2 : Int32} {M : Mem} (hL : nq_atModel E K) (hX : nq_OK X E l (nq_rm 1) cX9_findWays 4 RX9 wsX9_findWays) {x : (Int32 × Mem) ⊕ (Mem)} (hc : ∀ s' : Int32 × Mem, x = .inl s' → nq_G X E 4 64 [(0, .ref (nq_ad E 0)), (1, .int s'.1)] [] K s'.2) (he : ∀ s' : Mem, x = .inr s' → nq_G X E 4 146 [] [] K s') (h : fX9_findWays_L72_64 x1 x2 M = some x) : nq_G X E 4 72 [(0, .ref (nq_ad E 0)), (1, .int x1), (2, .int x2)] [] K M := by
  unfold fX9_findWays_L72_64 at h
  obtain ⟨e, h1, h⟩ := nq_bE h
  have key : ∀ (ex : Mem), nq_lp (fun s : Int32 × Mem => fX9_findWays_B72_64 x1 s.1 s.2) nq_fuel (x2, M) = some ex → (∀ e, ex = e → nq_G X E 4 140 [(0, .ref (nq_ad E 0)), (1, .int x1)] [] K e) → nq_G X E 4 72 [(0, .ref (nq_ad E 0)), (1, .int x1), (2, .int ((x2, M).1))] [] K (x2, M).2 := by
    intro ex h1 hE
    refine nq_lpE (P := fun s : Int32 × Mem => nq_G X E 4 72 [(0, .ref (nq_ad E 0)), (1, .int x1), (2, .int s.1)] [] K s.2) (r := ex) ?_ nq_fuel (x2, M) h1
    intro s xx hx1 hc1 he1
    exact mX9_findWays_B72_64 hL hX hc1 (fun e q => hE e (he1 _ q).symm) hx1
  refine key e h1 (fun e q => ?_)
  subst q
  exact mX9_findWays_L140_64 hL hX hc he h
def fX9_findWays_B64 (x1 : Int32) (M : Mem) : Option ((Int32 × Mem) ⊕ (Mem)) :=
  if (6 : Int32) ≤ x1 then
  (some (.inr M))
  else
  (fX9_findWays_L72_64 x1 (0 : Int32) M)
set_option maxHeartbeats 4000000 in
theorem mX9_findWays_B64 {X : Cx} {E : Ev} {l : Launch} {K : List Sh} {x1 : Int32} {M : Mem} (hL : nq_atModel E K) (hX : nq_OK X E l (nq_rm 1) cX9_findWays 4 RX9 wsX9_findWays) {x : (Int32 × Mem) ⊕ (Mem)} (hc : ∀ s' : Int32 × Mem, x = .inl s' → nq_G X E 4 64 [(0, .ref (nq_ad E 0)), (1, .int s'.1)] [] K s'.2) (he : ∀ s' : Mem, x = .inr s' → nq_G X E 4 146 [] [] K s') (h : fX9_findWays_B64 x1 M = some x) : nq_G X E 4 64 [(0, .ref (nq_ad E 0)), (1, .int x1)] [] K M := by
  unfold fX9_findWays_B64 at h
  refine nq_iload_n hX rfl 1 rfl dX9_findWays_64 ?_
  refine nq_bipush hX (v := 6) (by decide) dX9_findWays_65 ?_
  refine nq_icmp_ge hX (tgt := 146) (by decide) dX9_findWays_67 (fun c14 => ?_) (fun c14 => ?_)
  · rw [if_pos c14] at h
    refine nq_sub (lv' := []) [] rfl ?_
    exact he M (nq_sE h).symm
  · rw [if_neg c14] at h
    refine nq_iconst hX (v := 0) (by decide) dX9_findWays_70 ?_
    refine nq_istore_n hX (lv' := [(2, .int (0 : Int32)), (0, .ref (nq_ad E 0)), (1, .int x1)]) rfl (by decide) rfl rfl dX9_findWays_71 ?_
    refine nq_sub (lv' := [(0, .ref (nq_ad E 0)), (1, .int x1), (2, .int (0 : Int32))]) [1, 2, 0] rfl ?_
    exact mX9_findWays_L72_64 hL hX hc he h
def fX9_findWays_L146 (M : Mem) : Option (Mem) :=
  some M
set_option maxHeartbeats 4000000 in
theorem mX9_findWays_L146 {X : Cx} {E : Ev} {l : Launch} {K : List Sh} {M : Mem} {M' : Mem} (hL : nq_atModel E K) (hX : nq_OK X E l (nq_rm 1) cX9_findWays 4 RX9 wsX9_findWays) (hr : nq_RT X E none none K M') (h : fX9_findWays_L146 M = some M') : nq_G X E 4 146 [] [] K M := by
  unfold fX9_findWays_L146 at h
  obtain rfl := nq_sE1 h; exact nq_vret hX hr dX9_findWays_146
def fX9_findWays_L64 (x1 : Int32) (M : Mem) : Option (Mem) :=
  (nq_lp (fun s : Int32 × Mem => fX9_findWays_B64 s.1 s.2) nq_fuel (x1, M)).bind (fun e => fX9_findWays_L146 e)
set_option maxHeartbeats 4000000 in
theorem mX9_findWays_L64 {X : Cx} {E : Ev} {l : Launch} {K : List Sh} {x1 : Int32} {M : Mem} {M' : Mem} (hL : nq_atModel E K) (hX : nq_OK X E l (nq_rm 1) cX9_findWays 4 RX9 wsX9_findWays) (hr : nq_RT X E none none K M') (h : fX9_findWays_L64 x1 M = some M') : nq_G X E 4 64 [(0, .ref (nq_ad E 0)), (1, .int x1)] [] K M := by
  unfold fX9_findWays_L64 at h
  obtain ⟨e, h1, h⟩ := nq_bE h
  have key : ∀ (ex : Mem), nq_lp (fun s : Int32 × Mem => fX9_findWays_B64 s.1 s.2) nq_fuel (x1, M) = some ex → (∀ e, ex = e → nq_G X E 4 146 [] [] K e) → nq_G X E 4 64 [(0, .ref (nq_ad E 0)), (1, .int ((x1, M).1))] [] K (x1, M).2 := by
    intro ex h1 hE
    refine nq_lpE (P := fun s : Int32 × Mem => nq_G X E 4 64 [(0, .ref (nq_ad E 0)), (1, .int s.1)] [] K s.2) (r := ex) ?_ nq_fuel (x1, M) h1
    intro s xx hx1 hc1 he1
    exact mX9_findWays_B64 hL hX hc1 (fun e q => hE e (he1 _ q).symm) hx1
  refine key e h1 (fun e q => ?_)
  subst q
  exact mX9_findWays_L146 hL hX hr h
def fX9_findWays_L62 (M : Mem) : Option (Mem) :=
  fX9_findWays_L64 (0 : Int32) M
set_option maxHeartbeats 4000000 in
theorem mX9_findWays_L62 {X : Cx} {E : Ev} {l : Launch} {K : List Sh} {M : Mem} {M' : Mem} (hL : nq_atModel E K) (hX : nq_OK X E l (nq_rm 1) cX9_findWays 4 RX9 wsX9_findWays) (hr : nq_RT X E none none K M') (h : fX9_findWays_L62 M = some M') : nq_G X E 4 62 [(0, .ref (nq_ad E 0))] [] K M := by
  unfold fX9_findWays_L62 at h
  refine nq_iconst hX (v := 0) (by decide) dX9_findWays_62 ?_
  refine nq_istore_n hX (lv' := [(1, .int (0 : Int32)), (0, .ref (nq_ad E 0))]) rfl (by decide) rfl rfl dX9_findWays_63 ?_
  refine nq_sub (lv' := [(0, .ref (nq_ad E 0)), (1, .int (0 : Int32))]) [1, 0] rfl ?_
  exact mX9_findWays_L64 hL hX hr h
def fX9_findWays_L2 (x1 : Int32) (M : Mem) : Option (Mem) :=
  (nq_lp (fun s : Int32 × Mem => fX9_findWays_B2 s.1 s.2) nq_fuel (x1, M)).bind (fun e => fX9_findWays_L62 e)
set_option maxHeartbeats 4000000 in
theorem mX9_findWays_L2 {X : Cx} {E : Ev} {l : Launch} {K : List Sh} {x1 : Int32} {M : Mem} {M' : Mem} (hL : nq_atModel E K) (hX : nq_OK X E l (nq_rm 1) cX9_findWays 4 RX9 wsX9_findWays) (hr : nq_RT X E none none K M') (h : fX9_findWays_L2 x1 M = some M') : nq_G X E 4 2 [(0, .ref (nq_ad E 0)), (1, .int x1)] [] K M := by
  unfold fX9_findWays_L2 at h
  obtain ⟨e, h1, h⟩ := nq_bE h
  have key : ∀ (ex : Mem), nq_lp (fun s : Int32 × Mem => fX9_findWays_B2 s.1 s.2) nq_fuel (x1, M) = some ex → (∀ e, ex = e → nq_G X E 4 62 [(0, .ref (nq_ad E 0))] [] K e) → nq_G X E 4 2 [(0, .ref (nq_ad E 0)), (1, .int ((x1, M).1))] [] K (x1, M).2 := by
    intro ex h1 hE
    refine nq_lpE (P := fun s : Int32 × Mem => nq_G X E 4 2 [(0, .ref (nq_ad E 0)), (1, .int s.1)] [] K s.2) (r := ex) ?_ nq_fuel (x1, M) h1
    intro s xx hx1 hc1 he1
    exact mX9_findWays_B2 hL hX hc1 (fun e q => hE e (he1 _ q).symm) hx1
  refine key e h1 (fun e q => ?_)
  subst q
  exact mX9_findWays_L62 hL hX hr h
def fX9_findWays (M : Mem) : Option (Mem) :=
  fX9_findWays_L2 (0 : Int32) M
set_option maxHeartbeats 4000000 in
theorem mX9_findWays {X : Cx} {E : Ev} {l : Launch} {K : List Sh} {M : Mem} {M' : Mem} (hL : nq_atModel E K) (hX : nq_OK X E l (nq_rm 1) cX9_findWays 4 RX9 wsX9_findWays) (hr : nq_RT X E none none K M') (h : fX9_findWays M = some M') : nq_G X E 4 0 [(0, .ref (nq_ad E 0))] [] K M := by
  unfold fX9_findWays at h
  refine nq_iconst hX (v := 0) (by decide) dX9_findWays_0 ?_
  refine nq_istore_n hX (lv' := [(1, .int (0 : Int32)), (0, .ref (nq_ad E 0))]) rfl (by decide) rfl rfl dX9_findWays_1 ?_
  refine nq_sub (lv' := [(0, .ref (nq_ad E 0)), (1, .int (0 : Int32))]) [1, 0] rfl ?_
  exact mX9_findWays_L2 hL hX hr h
theorem dsX9_findWays : yX9_findWays.cls ≠ "java/lang/invoke/MethodHandle" ∧ yX9_findWays.cls ≠ "java/lang/invoke/VarHandle" ∧ (parseMethodDescriptor yX9_findWays.desc).map (fun d => d.parameters.length) = some 0 := by decide +kernel
theorem tX9_findWays {l : Launch} {E : Ev} {K : List Sh} {M : Mem} {M' : Mem} (hL : nq_atModel E K) (h : fX9_findWays M = some M') : nq_MA l E yX9_findWays wsX9_findWays (nq_rm 1) [.ref (nq_ad E 0)] K M none K M' :=
  nq_met (own := RX9) (cc := cX9_findWays) (maxL := 4) (ret := none) (by decide) rfl rfl (Nat.le_of_ble_eq_true rfl) (fun X hX hr => mX9_findWays hL hX hr h)

theorem inX9_wayOf_9 : ∀ w ∈ u_ws RX9 TX9 23, w ∈ wsX9_wayOf := by
  intro w h; unfold wsX9_wayOf; simp only [List.mem_cons, List.mem_append]; simp only [h, true_or, or_true]
theorem lkX9_wayOf_19 : Cond.fieldLink RX9 19 (TX9 4).1 (TX9 4).2.1 (TX9 4).2.2.1 ∈ wsX9_wayOf := by decide +kernel
def fX9_wayOf (x1 : Int32) (x2 : Int32) (M : Mem) : Option (Int32 × Mem) :=
  (fX9_findWays  M).bind fun M2 =>
  (nq_ag (M2 4) 36 (((6 : Int32) * x1) + x2)).bind fun v3 =>
  if (10000 : Int32) ≤ v3 then
  (some ((-1 : Int32), M2))
  else
  ((nq_ag (M2 4) 36 (((6 : Int32) * x1) + x2)).bind fun v5 =>
  some (v5, M2))
set_option maxHeartbeats 4000000 in
theorem mX9_wayOf {X : Cx} {E : Ev} {l : Launch} {K : List Sh} {x1 : Int32} {x2 : Int32} {M : Mem} {r : Int32} {M' : Mem} (hL : nq_atModel E K) (hX : nq_OK X E l (nq_rm 2) cX9_wayOf 3 RX9 wsX9_wayOf) (hr : nq_RT X E (some .int) (some (.int r)) K M') (h : fX9_wayOf x1 x2 M = some (r, M')) : nq_G X E 3 0 [(0, .ref (nq_ad E 0)), (1, .int x1), (2, .int x2)] [] K M := by
  unfold fX9_wayOf at h
  refine nq_aload_n hX rfl 0 rfl dX9_wayOf_0 ?_
  obtain ⟨M2, hc1, h⟩ := nq_bE h
  refine nq_callVv hX (tX9_findWays hL hc1) gX9_wayOf_X9_findWays rfl rfl dsX9_findWays (by decide) (nq_Model_0 hL) rfl rfl (Nat.le_of_ble_eq_true rfl) dX9_wayOf_1 ?_
  refine nq_aload_n hX rfl 0 rfl dX9_wayOf_4 ?_
  refine nq_getr (v := .ref (nq_ad E 4)) hX inX9_wayOf_9 (nq_Model_0 hL) rfl 4 (by decide) lkX9_wayOf_19 _ rfl rfl dX9_wayOf_5 ?_
  refine nq_bipush hX (v := 6) (by decide) dX9_wayOf_8 ?_
  refine nq_iload_n hX rfl 1 rfl dX9_wayOf_10 ?_
  refine nq_imul hX dX9_wayOf_11 ?_
  refine nq_iload_n hX rfl 2 rfl dX9_wayOf_12 ?_
  refine nq_iadd hX dX9_wayOf_13 ?_
  obtain ⟨v3, e3, hi3, h⟩ := nq_agE h
  refine nq_iald hX (nq_Model_way hL) e3 hi3 dX9_wayOf_14 ?_
  refine nq_sipush hX (v := 10000) (by decide) dX9_wayOf_15 ?_
  refine nq_icmp_ge hX (tgt := 35) (by decide) dX9_wayOf_18 (fun c4 => ?_) (fun c4 => ?_)
  · rw [if_pos c4] at h
    refine nq_iconst hX (v := -1) (by decide) dX9_wayOf_35 ?_
    obtain ⟨rfl, rfl⟩ := nq_sE2 h; exact nq_iret hX hr dX9_wayOf_36
  · rw [if_neg c4] at h
    refine nq_aload_n hX rfl 0 rfl dX9_wayOf_21 ?_
    refine nq_getr (v := .ref (nq_ad E 4)) hX inX9_wayOf_9 (nq_Model_0 hL) rfl 4 (by decide) lkX9_wayOf_19 _ rfl rfl dX9_wayOf_22 ?_
    refine nq_bipush hX (v := 6) (by decide) dX9_wayOf_25 ?_
    refine nq_iload_n hX rfl 1 rfl dX9_wayOf_27 ?_
    refine nq_imul hX dX9_wayOf_28 ?_
    refine nq_iload_n hX rfl 2 rfl dX9_wayOf_29 ?_
    refine nq_iadd hX dX9_wayOf_30 ?_
    obtain ⟨v5, e5, hi5, h⟩ := nq_agE h
    refine nq_iald hX (nq_Model_way hL) e5 hi5 dX9_wayOf_31 ?_
    refine nq_goto hX (tgt := 36) (by decide) dX9_wayOf_32 ?_
    obtain ⟨rfl, rfl⟩ := nq_sE2 h; exact nq_iret hX hr dX9_wayOf_36
theorem dsX9_wayOf : yX9_wayOf.cls ≠ "java/lang/invoke/MethodHandle" ∧ yX9_wayOf.cls ≠ "java/lang/invoke/VarHandle" ∧ (parseMethodDescriptor yX9_wayOf.desc).map (fun d => d.parameters.length) = some 2 := by decide +kernel
theorem tX9_wayOf {l : Launch} {E : Ev} {K : List Sh} {x1 : Int32} {x2 : Int32} {M : Mem} {r : Int32} {M' : Mem} (hL : nq_atModel E K) (h : fX9_wayOf x1 x2 M = some (r, M')) : nq_MA l E yX9_wayOf wsX9_wayOf (nq_rm 2) [.ref (nq_ad E 0), .int x1, .int x2] K M (some (.int r)) K M' :=
  nq_met (own := RX9) (cc := cX9_wayOf) (maxL := 3) (ret := (some .int)) (by decide) rfl rfl (Nat.le_of_ble_eq_true rfl) (fun X hX hr => mX9_wayOf hL hX hr h)

def fX9_way (x1 : Int32) (x2 : Int32) (M : Mem) : Option (Int32 × Mem) :=
  (fX9_isPlace x1 M).bind fun v2 =>
  if v2 = 0 then
  (nq_b2 (fX9_finds (1 : Int32) M) fun v5 M6 =>
  some (v5, M6))
  else
  ((fX9_isPlace x2 M).bind fun v8 =>
  if v8 = 0 then
  (nq_b2 (fX9_finds (1 : Int32) M) fun v11 M12 =>
  some (v11, M12))
  else
  (nq_b2 (fX9_wayOf x1 x2 M) fun v14 M15 =>
  if 0 ≤ v14 then
  (some (v14, M15))
  else
  (nq_b2 (fX9_finds (2 : Int32) M15) fun v18 M19 =>
  some (v18, M19))))
set_option maxHeartbeats 4000000 in
theorem mX9_way {X : Cx} {E : Ev} {l : Launch} {K : List Sh} {x1 : Int32} {x2 : Int32} {M : Mem} {r : Int32} {M' : Mem} (hL : nq_atModel E K) (hX : nq_OK X E l (nq_rm 3) cX9_way 4 RX9 wsX9_way) (hr : nq_RT X E (some .int) (some (.int r)) K M') (h : fX9_way x1 x2 M = some (r, M')) : nq_G X E 4 0 [(0, .ref (nq_ad E 0)), (1, .int x1), (2, .int x2)] [] K M := by
  unfold fX9_way at h
  refine nq_aload_n hX rfl 0 rfl dX9_way_0 ?_
  refine nq_iload_n hX rfl 1 rfl dX9_way_1 ?_
  obtain ⟨v2, hc1, h⟩ := nq_bE h
  refine nq_callVi hX (tX9_isPlace hL hc1) gX9_way_X9_isPlace rfl rfl dsX9_isPlace (by decide) (nq_Model_0 hL) rfl rfl (Nat.le_of_ble_eq_true rfl) dX9_way_2 ?_
  refine nq_if_eq hX (tgt := 16) (by decide) dX9_way_5 (fun c3 => ?_) (fun c3 => ?_)
  · rw [if_pos c3] at h
    refine nq_aload_n hX rfl 0 rfl dX9_way_16 ?_
    refine nq_iconst hX (v := 1) (by decide) dX9_way_17 ?_
    obtain ⟨v5, M6, hc4, h⟩ := nq_b2E h
    refine nq_callVi hX (tX9_finds hL hc4) gX9_way_X9_finds rfl rfl dsX9_finds (by decide) (nq_Model_0 hL) rfl rfl (Nat.le_of_ble_eq_true rfl) dX9_way_18 ?_
    obtain ⟨rfl, rfl⟩ := nq_sE2 h; exact nq_iret hX hr dX9_way_21
  · rw [if_neg c3] at h
    refine nq_aload_n hX rfl 0 rfl dX9_way_8 ?_
    refine nq_iload_n hX rfl 2 rfl dX9_way_9 ?_
    obtain ⟨v8, hc7, h⟩ := nq_bE h
    refine nq_callVi hX (tX9_isPlace hL hc7) gX9_way_X9_isPlace rfl rfl dsX9_isPlace (by decide) (nq_Model_0 hL) rfl rfl (Nat.le_of_ble_eq_true rfl) dX9_way_10 ?_
    refine nq_if_ne hX (tgt := 22) (by decide) dX9_way_13 (fun c9 => ?_) (fun c9 => ?_)
    · rw [if_pos c9] at h
      refine nq_aload_n hX rfl 0 rfl dX9_way_16 ?_
      refine nq_iconst hX (v := 1) (by decide) dX9_way_17 ?_
      obtain ⟨v11, M12, hc10, h⟩ := nq_b2E h
      refine nq_callVi hX (tX9_finds hL hc10) gX9_way_X9_finds rfl rfl dsX9_finds (by decide) (nq_Model_0 hL) rfl rfl (Nat.le_of_ble_eq_true rfl) dX9_way_18 ?_
      obtain ⟨rfl, rfl⟩ := nq_sE2 h; exact nq_iret hX hr dX9_way_21
    · rw [if_neg c9] at h
      refine nq_aload_n hX rfl 0 rfl dX9_way_22 ?_
      refine nq_iload_n hX rfl 1 rfl dX9_way_23 ?_
      refine nq_iload_n hX rfl 2 rfl dX9_way_24 ?_
      obtain ⟨v14, M15, hc13, h⟩ := nq_b2E h
      refine nq_callVi hX (tX9_wayOf hL hc13) gX9_way_X9_wayOf rfl rfl dsX9_wayOf (by decide) (nq_Model_0 hL) rfl rfl (Nat.le_of_ble_eq_true rfl) dX9_way_25 ?_
      refine nq_istore_n hX (lv' := [(3, .int v14), (0, .ref (nq_ad E 0)), (1, .int x1), (2, .int x2)]) rfl (by decide) rfl rfl dX9_way_28 ?_
      refine nq_iload_n hX rfl 0 rfl dX9_way_29 ?_
      refine nq_if_ge hX (tgt := 41) (by decide) dX9_way_30 (fun c16 => ?_) (fun c16 => ?_)
      · rw [if_pos c16] at h
        refine nq_iload_n hX rfl 0 rfl dX9_way_41 ?_
        obtain ⟨rfl, rfl⟩ := nq_sE2 h; exact nq_iret hX hr dX9_way_42
      · rw [if_neg c16] at h
        refine nq_aload_n hX rfl 1 rfl dX9_way_33 ?_
        refine nq_iconst hX (v := 2) (by decide) dX9_way_34 ?_
        obtain ⟨v18, M19, hc17, h⟩ := nq_b2E h
        refine nq_callVi hX (tX9_finds hL hc17) gX9_way_X9_finds rfl rfl dsX9_finds (by decide) (nq_Model_0 hL) rfl rfl (Nat.le_of_ble_eq_true rfl) dX9_way_35 ?_
        refine nq_goto hX (tgt := 42) (by decide) dX9_way_38 ?_
        obtain ⟨rfl, rfl⟩ := nq_sE2 h; exact nq_iret hX hr dX9_way_42
theorem dsX9_way : yX9_way.cls ≠ "java/lang/invoke/MethodHandle" ∧ yX9_way.cls ≠ "java/lang/invoke/VarHandle" ∧ (parseMethodDescriptor yX9_way.desc).map (fun d => d.parameters.length) = some 2 := by decide +kernel
theorem tX9_way {l : Launch} {E : Ev} {K : List Sh} {x1 : Int32} {x2 : Int32} {M : Mem} {r : Int32} {M' : Mem} (hL : nq_atModel E K) (h : fX9_way x1 x2 M = some (r, M')) : nq_MA l E yX9_way wsX9_way (nq_rm 3) [.ref (nq_ad E 0), .int x1, .int x2] K M (some (.int r)) K M' :=
  nq_met (own := RX9) (cc := cX9_way) (maxL := 4) (ret := (some .int)) (by decide) rfl rfl (Nat.le_of_ble_eq_true rfl) (fun X hX hr => mX9_way hL hX hr h)

theorem inX9_isOnWay_9 : ∀ w ∈ u_ws RX9 TX9 23, w ∈ wsX9_isOnWay := by
  intro w h; unfold wsX9_isOnWay; simp only [List.mem_cons, List.mem_append]; simp only [h, true_or, or_true]
theorem lkX9_isOnWay_7 : Cond.fieldLink RX9 7 (TX9 0).1 (TX9 0).2.1 (TX9 0).2.2.1 ∈ wsX9_isOnWay := by decide +kernel
theorem lkX9_isOnWay_19 : Cond.fieldLink RX9 19 (TX9 4).1 (TX9 4).2.1 (TX9 4).2.2.1 ∈ wsX9_isOnWay := by decide +kernel
def fX9_isOnWay (x1 : Int32) (x2 : Int32) (x3 : Int32) (M : Mem) : Option (Int32) :=
  (nq_ag (M 1) 1250 (((20 : Int32) + ((6 : Int32) * x1)) + x2)).bind fun v1 =>
  if v1 ≤ 0 then
  (some (0 : Int32))
  else
  ((nq_ag (M 1) 1250 (((20 : Int32) + ((6 : Int32) * x1)) + x2)).bind fun v3 =>
  (nq_ag (M 4) 36 (((6 : Int32) * x2) + x3)).bind fun v4 =>
  (nq_ag (M 4) 36 (((6 : Int32) * x1) + x3)).bind fun v5 =>
  if (v3 + v4) = v5 then
  (some (1 : Int32))
  else
  (some (0 : Int32)))
set_option maxHeartbeats 4000000 in
theorem mX9_isOnWay {X : Cx} {E : Ev} {l : Launch} {K : List Sh} {x1 : Int32} {x2 : Int32} {x3 : Int32} {M : Mem} {r : Int32} (hL : nq_atModel E K) (hX : nq_OK X E l (nq_rm 1) cX9_isOnWay 4 RX9 wsX9_isOnWay) (hr : nq_RT X E (some .boolean) (some (.int r)) K M) (h : fX9_isOnWay x1 x2 x3 M = some r) : nq_G X E 4 0 [(0, .ref (nq_ad E 0)), (1, .int x1), (2, .int x2), (3, .int x3)] [] K M := by
  unfold fX9_isOnWay at h
  refine nq_aload_n hX rfl 0 rfl dX9_isOnWay_0 ?_
  refine nq_getr (v := .ref (nq_ad E 1)) hX inX9_isOnWay_9 (nq_Model_0 hL) rfl 0 (by decide) lkX9_isOnWay_7 _ rfl rfl dX9_isOnWay_1 ?_
  refine nq_bipush hX (v := 20) (by decide) dX9_isOnWay_4 ?_
  refine nq_bipush hX (v := 6) (by decide) dX9_isOnWay_6 ?_
  refine nq_iload_n hX rfl 1 rfl dX9_isOnWay_8 ?_
  refine nq_imul hX dX9_isOnWay_9 ?_
  refine nq_iadd hX dX9_isOnWay_10 ?_
  refine nq_iload_n hX rfl 2 rfl dX9_isOnWay_11 ?_
  refine nq_iadd hX dX9_isOnWay_12 ?_
  obtain ⟨v1, e1, hi1, h⟩ := nq_agE h
  refine nq_iald hX (nq_Model_d hL) e1 hi1 dX9_isOnWay_13 ?_
  refine nq_if_le hX (tgt := 61) (by decide) dX9_isOnWay_14 (fun c2 => ?_) (fun c2 => ?_)
  · rw [if_pos c2] at h
    refine nq_iconst hX (v := 0) (by decide) dX9_isOnWay_61 ?_
    obtain rfl := nq_sE1 h; exact nq_zret hX hr rfl dX9_isOnWay_62
  · rw [if_neg c2] at h
    refine nq_aload_n hX rfl 0 rfl dX9_isOnWay_17 ?_
    refine nq_getr (v := .ref (nq_ad E 1)) hX inX9_isOnWay_9 (nq_Model_0 hL) rfl 0 (by decide) lkX9_isOnWay_7 _ rfl rfl dX9_isOnWay_18 ?_
    refine nq_bipush hX (v := 20) (by decide) dX9_isOnWay_21 ?_
    refine nq_bipush hX (v := 6) (by decide) dX9_isOnWay_23 ?_
    refine nq_iload_n hX rfl 1 rfl dX9_isOnWay_25 ?_
    refine nq_imul hX dX9_isOnWay_26 ?_
    refine nq_iadd hX dX9_isOnWay_27 ?_
    refine nq_iload_n hX rfl 2 rfl dX9_isOnWay_28 ?_
    refine nq_iadd hX dX9_isOnWay_29 ?_
    obtain ⟨v3, e3, hi3, h⟩ := nq_agE h
    refine nq_iald hX (nq_Model_d hL) e3 hi3 dX9_isOnWay_30 ?_
    refine nq_aload_n hX rfl 0 rfl dX9_isOnWay_31 ?_
    refine nq_getr (v := .ref (nq_ad E 4)) hX inX9_isOnWay_9 (nq_Model_0 hL) rfl 4 (by decide) lkX9_isOnWay_19 _ rfl rfl dX9_isOnWay_32 ?_
    refine nq_bipush hX (v := 6) (by decide) dX9_isOnWay_35 ?_
    refine nq_iload_n hX rfl 2 rfl dX9_isOnWay_37 ?_
    refine nq_imul hX dX9_isOnWay_38 ?_
    refine nq_iload_n hX rfl 3 rfl dX9_isOnWay_39 ?_
    refine nq_iadd hX dX9_isOnWay_40 ?_
    obtain ⟨v4, e4, hi4, h⟩ := nq_agE h
    refine nq_iald hX (nq_Model_way hL) e4 hi4 dX9_isOnWay_41 ?_
    refine nq_iadd hX dX9_isOnWay_42 ?_
    refine nq_aload_n hX rfl 0 rfl dX9_isOnWay_43 ?_
    refine nq_getr (v := .ref (nq_ad E 4)) hX inX9_isOnWay_9 (nq_Model_0 hL) rfl 4 (by decide) lkX9_isOnWay_19 _ rfl rfl dX9_isOnWay_44 ?_
    refine nq_bipush hX (v := 6) (by decide) dX9_isOnWay_47 ?_
    refine nq_iload_n hX rfl 1 rfl dX9_isOnWay_49 ?_
    refine nq_imul hX dX9_isOnWay_50 ?_
    refine nq_iload_n hX rfl 3 rfl dX9_isOnWay_51 ?_
    refine nq_iadd hX dX9_isOnWay_52 ?_
    obtain ⟨v5, e5, hi5, h⟩ := nq_agE h
    refine nq_iald hX (nq_Model_way hL) e5 hi5 dX9_isOnWay_53 ?_
    refine nq_icmp_ne hX (tgt := 61) (by decide) dX9_isOnWay_54 (fun c6 => ?_) (fun c6 => ?_)
    · rw [if_pos c6] at h
      refine nq_iconst hX (v := 1) (by decide) dX9_isOnWay_57 ?_
      refine nq_goto hX (tgt := 62) (by decide) dX9_isOnWay_58 ?_
      obtain rfl := nq_sE1 h; exact nq_zret hX hr rfl dX9_isOnWay_62
    · rw [if_neg c6] at h
      refine nq_iconst hX (v := 0) (by decide) dX9_isOnWay_61 ?_
      obtain rfl := nq_sE1 h; exact nq_zret hX hr rfl dX9_isOnWay_62
theorem dsX9_isOnWay : yX9_isOnWay.cls ≠ "java/lang/invoke/MethodHandle" ∧ yX9_isOnWay.cls ≠ "java/lang/invoke/VarHandle" ∧ (parseMethodDescriptor yX9_isOnWay.desc).map (fun d => d.parameters.length) = some 3 := by decide +kernel
theorem tX9_isOnWay {l : Launch} {E : Ev} {K : List Sh} {x1 : Int32} {x2 : Int32} {x3 : Int32} {M : Mem} {r : Int32} (hL : nq_atModel E K) (h : fX9_isOnWay x1 x2 x3 M = some r) : nq_MA l E yX9_isOnWay wsX9_isOnWay (nq_rm 1) [.ref (nq_ad E 0), .int x1, .int x2, .int x3] K M (some (.int r)) K M :=
  nq_met (own := RX9) (cc := cX9_isOnWay) (maxL := 4) (ret := (some .boolean)) (by decide) rfl rfl (Nat.le_of_ble_eq_true rfl) (fun X hX hr => mX9_isOnWay hL hX hr h)

theorem inX9_findSteps_9 : ∀ w ∈ u_ws RX9 TX9 23, w ∈ wsX9_findSteps := by
  intro w h; unfold wsX9_findSteps; simp only [List.mem_cons, List.mem_append]; simp only [h, true_or, or_true]
theorem lkX9_findSteps_22 : Cond.fieldLink RX9 22 (TX9 5).1 (TX9 5).2.1 (TX9 5).2.2.1 ∈ wsX9_findSteps := by decide +kernel
theorem lkX9_findSteps_19 : Cond.fieldLink RX9 19 (TX9 4).1 (TX9 4).2.1 (TX9 4).2.2.1 ∈ wsX9_findSteps := by decide +kernel
def fX9_findSteps_B2 (x1 : Int32) (x2 : Int32) (M : Mem) : Option ((Int32 × Mem) ⊕ (Mem)) :=
  if (6 : Int32) ≤ x2 then
  (some (.inr M))
  else
  (if x2 = x1 then
  ((nq_as M 5 6 x2 (0 : Int32)).bind fun M3 =>
  nq_lt (x2 + (1 : Int32)) fun v4 =>
  some (.inl (v4, M3)))
  else
  ((nq_as M 5 6 x2 (10000 : Int32)).bind fun M5 =>
  nq_lt (x2 + (1 : Int32)) fun v6 =>
  some (.inl (v6, M5))))
set_option maxHeartbeats 4000000 in
theorem mX9_findSteps_B2 {X : Cx} {E : Ev} {l : Launch} {K : List Sh} {x1 : Int32} {x2 : Int32} {M : Mem} (hL : nq_atModel E K) (hX : nq_OK X E l (nq_rm 2) cX9_findSteps 5 RX9 wsX9_findSteps) {x : (Int32 × Mem) ⊕ (Mem)} (hc : ∀ s' : Int32 × Mem, x = .inl s' → nq_G X E 5 2 [(0, .ref (nq_ad E 0)), (1, .int x1), (2, .int s'.1)] [] K s'.2) (he : ∀ s' : Mem, x = .inr s' → nq_G X E 5 32 [(0, .ref (nq_ad E 0)), (1, .int x1)] [] K s') (h : fX9_findSteps_B2 x1 x2 M = some x) : nq_G X E 5 2 [(0, .ref (nq_ad E 0)), (1, .int x1), (2, .int x2)] [] K M := by
  unfold fX9_findSteps_B2 at h
  refine nq_iload_n hX rfl 2 rfl dX9_findSteps_2 ?_
  refine nq_bipush hX (v := 6) (by decide) dX9_findSteps_3 ?_
  refine nq_icmp_ge hX (tgt := 32) (by decide) dX9_findSteps_5 (fun c1 => ?_) (fun c1 => ?_)
  · rw [if_pos c1] at h
    refine nq_sub (lv' := [(0, .ref (nq_ad E 0)), (1, .int x1)]) [0, 1] rfl ?_
    exact he M (nq_sE h).symm
  · rw [if_neg c1] at h
    refine nq_aload_n hX rfl 0 rfl dX9_findSteps_8 ?_
    refine nq_getr (v := .ref (nq_ad E 5)) hX inX9_findSteps_9 (nq_Model_0 hL) rfl 5 (by decide) lkX9_findSteps_22 _ rfl rfl dX9_findSteps_9 ?_
    refine nq_iload_n hX rfl 2 rfl dX9_findSteps_12 ?_
    refine nq_iload_n hX rfl 2 rfl dX9_findSteps_13 ?_
    refine nq_iload_n hX rfl 1 rfl dX9_findSteps_14 ?_
    refine nq_icmp_ne hX (tgt := 22) (by decide) dX9_findSteps_15 (fun c2 => ?_) (fun c2 => ?_)
    · rw [if_pos c2] at h
      refine nq_iconst hX (v := 0) (by decide) dX9_findSteps_18 ?_
      refine nq_goto hX (tgt := 25) (by decide) dX9_findSteps_19 ?_
      obtain ⟨M3, e3, hi3, h⟩ := nq_asE h
      refine nq_iast hX (nq_Model_steps hL) e3 hi3 dX9_findSteps_25 ?_
      obtain ⟨v4, e4, h⟩ := nq_ltE h
      refine nq_iinc hX (lv' := [(2, .int v4), (0, .ref (nq_ad E 0)), (1, .int x1)]) (j := 2) rfl (e4.trans rfl) (by decide) rfl dX9_findSteps_26 ?_
      refine nq_goto hX (tgt := 2) (by decide) dX9_findSteps_29 ?_
      refine nq_sub (lv' := [(0, .ref (nq_ad E 0)), (1, .int x1), (2, .int v4)]) [1, 2, 0] rfl ?_
      exact hc (v4, M3) (nq_sE h).symm
    · rw [if_neg c2] at h
      refine nq_sipush hX (v := 10000) (by decide) dX9_findSteps_22 ?_
      obtain ⟨M5, e5, hi5, h⟩ := nq_asE h
      refine nq_iast hX (nq_Model_steps hL) e5 hi5 dX9_findSteps_25 ?_
      obtain ⟨v6, e6, h⟩ := nq_ltE h
      refine nq_iinc hX (lv' := [(2, .int v6), (0, .ref (nq_ad E 0)), (1, .int x1)]) (j := 2) rfl (e6.trans rfl) (by decide) rfl dX9_findSteps_26 ?_
      refine nq_goto hX (tgt := 2) (by decide) dX9_findSteps_29 ?_
      refine nq_sub (lv' := [(0, .ref (nq_ad E 0)), (1, .int x1), (2, .int v6)]) [1, 2, 0] rfl ?_
      exact hc (v6, M5) (nq_sE h).symm
def fX9_findSteps_L112_34_42 (x1 : Int32) (x2 : Int32) (x3 : Int32) (s0 : Int32) (M : Mem) : Option ((Int32 × Mem) ⊕ (Mem)) :=
  (nq_dv x3 (6 : Int32)).bind fun v12 =>
  if s0 = 0 then
  ((nq_dv x3 (6 : Int32)).bind fun v14 =>
  (nq_ag (M 5) 6 v14).bind fun v15 =>
  (nq_as M 5 6 v12 v15).bind fun M16 =>
  nq_lt (x3 + (1 : Int32)) fun v17 =>
  some (.inl (v17, M16)))
  else
  ((nq_rem x3 (6 : Int32)).bind fun v18 =>
  (nq_ag (M 5) 6 v18).bind fun v19 =>
  (nq_as M 5 6 v12 (v19 + (1 : Int32))).bind fun M20 =>
  nq_lt (x3 + (1 : Int32)) fun v21 =>
  some (.inl (v21, M20)))
set_option maxHeartbeats 4000000 in
theorem mX9_findSteps_L112_34_42 {X : Cx} {E : Ev} {l : Launch} {K : List Sh} {x1 : Int32} {x2 : Int32} {x3 : Int32} {s0 : Int32} {M : Mem} (hL : nq_atModel E K) (hX : nq_OK X E l (nq_rm 2) cX9_findSteps 5 RX9 wsX9_findSteps) {x : (Int32 × Mem) ⊕ (Mem)} (hc : ∀ s' : Int32 × Mem, x = .inl s' → nq_G X E 5 42 [(0, .ref (nq_ad E 0)), (1, .int x1), (2, .int x2), (3, .int s'.1)] [] K s'.2) (he : ∀ s' : Mem, x = .inr s' → nq_G X E 5 157 [(0, .ref (nq_ad E 0)), (1, .int x1), (2, .int x2)] [] K s') (h : fX9_findSteps_L112_34_42 x1 x2 x3 s0 M = some x) : nq_G X E 5 112 [(0, .ref (nq_ad E 0)), (1, .int x1), (2, .int x2), (3, .int x3)] [.int s0] K M := by
  unfold fX9_findSteps_L112_34_42 at h
  refine nq_istore hX (lv' := [(4, .int s0), (0, .ref (nq_ad E 0)), (1, .int x1), (2, .int x2), (3, .int x3)]) (by decide) rfl rfl dX9_findSteps_112 ?_
  refine nq_aload_n hX rfl 1 rfl dX9_findSteps_114 ?_
  refine nq_getr (v := .ref (nq_ad E 5)) hX inX9_findSteps_9 (nq_Model_0 hL) rfl 5 (by decide) lkX9_findSteps_22 _ rfl rfl dX9_findSteps_115 ?_
  refine nq_iload_n hX rfl 4 rfl dX9_findSteps_118 ?_
  refine nq_bipush hX (v := 6) (by decide) dX9_findSteps_119 ?_
  obtain ⟨v12, e12, hn12, h⟩ := nq_ifE h
  refine nq_idiv hX hn12 e12 dX9_findSteps_121 ?_
  refine nq_iload hX 0 rfl dX9_findSteps_122 ?_
  refine nq_if_eq hX (tgt := 141) (by decide) dX9_findSteps_124 (fun c13 => ?_) (fun c13 => ?_)
  · rw [if_pos c13] at h
    refine nq_aload_n hX rfl 1 rfl dX9_findSteps_141 ?_
    refine nq_getr (v := .ref (nq_ad E 5)) hX inX9_findSteps_9 (nq_Model_0 hL) rfl 5 (by decide) lkX9_findSteps_22 _ rfl rfl dX9_findSteps_142 ?_
    refine nq_iload_n hX rfl 4 rfl dX9_findSteps_145 ?_
    refine nq_bipush hX (v := 6) (by decide) dX9_findSteps_146 ?_
    obtain ⟨v14, e14, hn14, h⟩ := nq_ifE h
    refine nq_idiv hX hn14 e14 dX9_findSteps_148 ?_
    obtain ⟨v15, e15, hi15, h⟩ := nq_agE h
    refine nq_iald hX (nq_Model_steps hL) e15 hi15 dX9_findSteps_149 ?_
    obtain ⟨M16, e16, hi16, h⟩ := nq_asE h
    refine nq_iast hX (nq_Model_steps hL) e16 hi16 dX9_findSteps_150 ?_
    obtain ⟨v17, e17, h⟩ := nq_ltE h
    refine nq_iinc hX (lv' := [(3, .int v17), (4, .int s0), (0, .ref (nq_ad E 0)), (1, .int x1), (2, .int x2)]) (j := 4) rfl (e17.trans rfl) (by decide) rfl dX9_findSteps_151 ?_
    refine nq_goto hX (tgt := 42) (by decide) dX9_findSteps_154 ?_
    refine nq_sub (lv' := [(0, .ref (nq_ad E 0)), (1, .int x1), (2, .int x2), (3, .int v17)]) [2, 3, 4, 0] rfl ?_
    exact hc (v17, M16) (nq_sE h).symm
  · rw [if_neg c13] at h
    refine nq_aload_n hX rfl 1 rfl dX9_findSteps_127 ?_
    refine nq_getr (v := .ref (nq_ad E 5)) hX inX9_findSteps_9 (nq_Model_0 hL) rfl 5 (by decide) lkX9_findSteps_22 _ rfl rfl dX9_findSteps_128 ?_
    refine nq_iload_n hX rfl 4 rfl dX9_findSteps_131 ?_
    refine nq_bipush hX (v := 6) (by decide) dX9_findSteps_132 ?_
    obtain ⟨v18, e18, hn18, h⟩ := nq_ifE h
    refine nq_irem hX hn18 e18 dX9_findSteps_134 ?_
    obtain ⟨v19, e19, hi19, h⟩ := nq_agE h
    refine nq_iald hX (nq_Model_steps hL) e19 hi19 dX9_findSteps_135 ?_
    refine nq_iconst hX (v := 1) (by decide) dX9_findSteps_136 ?_
    refine nq_iadd hX dX9_findSteps_137 ?_
    refine nq_goto hX (tgt := 150) (by decide) dX9_findSteps_138 ?_
    obtain ⟨M20, e20, hi20, h⟩ := nq_asE h
    refine nq_iast hX (nq_Model_steps hL) e20 hi20 dX9_findSteps_150 ?_
    obtain ⟨v21, e21, h⟩ := nq_ltE h
    refine nq_iinc hX (lv' := [(3, .int v21), (4, .int s0), (0, .ref (nq_ad E 0)), (1, .int x1), (2, .int x2)]) (j := 4) rfl (e21.trans rfl) (by decide) rfl dX9_findSteps_151 ?_
    refine nq_goto hX (tgt := 42) (by decide) dX9_findSteps_154 ?_
    refine nq_sub (lv' := [(0, .ref (nq_ad E 0)), (1, .int x1), (2, .int x2), (3, .int v21)]) [2, 3, 4, 0] rfl ?_
    exact hc (v21, M20) (nq_sE h).symm
def fX9_findSteps_L111_34_42 (x1 : Int32) (x2 : Int32) (x3 : Int32) (M : Mem) : Option ((Int32 × Mem) ⊕ (Mem)) :=
  fX9_findSteps_L112_34_42 x1 x2 x3 (0 : Int32) M
set_option maxHeartbeats 4000000 in
theorem mX9_findSteps_L111_34_42 {X : Cx} {E : Ev} {l : Launch} {K : List Sh} {x1 : Int32} {x2 : Int32} {x3 : Int32} {M : Mem} (hL : nq_atModel E K) (hX : nq_OK X E l (nq_rm 2) cX9_findSteps 5 RX9 wsX9_findSteps) {x : (Int32 × Mem) ⊕ (Mem)} (hc : ∀ s' : Int32 × Mem, x = .inl s' → nq_G X E 5 42 [(0, .ref (nq_ad E 0)), (1, .int x1), (2, .int x2), (3, .int s'.1)] [] K s'.2) (he : ∀ s' : Mem, x = .inr s' → nq_G X E 5 157 [(0, .ref (nq_ad E 0)), (1, .int x1), (2, .int x2)] [] K s') (h : fX9_findSteps_L111_34_42 x1 x2 x3 M = some x) : nq_G X E 5 111 [(0, .ref (nq_ad E 0)), (1, .int x1), (2, .int x2), (3, .int x3)] [] K M := by
  unfold fX9_findSteps_L111_34_42 at h
  refine nq_iconst hX (v := 0) (by decide) dX9_findSteps_111 ?_
  exact mX9_findSteps_L112_34_42 hL hX hc he h
def fX9_findSteps_B42_34 (x1 : Int32) (x2 : Int32) (x3 : Int32) (M : Mem) : Option ((Int32 × Mem) ⊕ (Mem)) :=
  if (36 : Int32) ≤ x3 then
  (some (.inr M))
  else
  ((nq_dv x3 (6 : Int32)).bind fun v9 =>
  (nq_ag (M 4) 36 (((6 : Int32) * v9) + x1)).bind fun v10 =>
  if (10000 : Int32) ≤ v10 then
  (fX9_findSteps_L111_34_42 x1 x2 x3 M)
  else
  ((nq_dv x3 (6 : Int32)).bind fun v22 =>
  (nq_rem x3 (6 : Int32)).bind fun v23 =>
  (fX9_isOnWay v22 v23 x1 M).bind fun v25 =>
  if v25 = 0 then
  (fX9_findSteps_L111_34_42 x1 x2 x3 M)
  else
  ((nq_rem x3 (6 : Int32)).bind fun v27 =>
  (nq_ag (M 5) 6 v27).bind fun v28 =>
  (nq_dv x3 (6 : Int32)).bind fun v29 =>
  (nq_ag (M 5) 6 v29).bind fun v30 =>
  if v30 ≤ (v28 + (1 : Int32)) then
  (fX9_findSteps_L111_34_42 x1 x2 x3 M)
  else
  (fX9_findSteps_L112_34_42 x1 x2 x3 (1 : Int32) M))))
set_option maxHeartbeats 4000000 in
theorem mX9_findSteps_B42_34 {X : Cx} {E : Ev} {l : Launch} {K : List Sh} {x1 : Int32} {x2 : Int32} {x3 : Int32} {M : Mem} (hL : nq_atModel E K) (hX : nq_OK X E l (nq_rm 2) cX9_findSteps 5 RX9 wsX9_findSteps) {x : (Int32 × Mem) ⊕ (Mem)} (hc : ∀ s' : Int32 × Mem, x = .inl s' → nq_G X E 5 42 [(0, .ref (nq_ad E 0)), (1, .int x1), (2, .int x2), (3, .int s'.1)] [] K s'.2) (he : ∀ s' : Mem, x = .inr s' → nq_G X E 5 157 [(0, .ref (nq_ad E 0)), (1, .int x1), (2, .int x2)] [] K s') (h : fX9_findSteps_B42_34 x1 x2 x3 M = some x) : nq_G X E 5 42 [(0, .ref (nq_ad E 0)), (1, .int x1), (2, .int x2), (3, .int x3)] [] K M := by
  unfold fX9_findSteps_B42_34 at h
  refine nq_iload_n hX rfl 3 rfl dX9_findSteps_42 ?_
  refine nq_bipush hX (v := 36) (by decide) dX9_findSteps_43 ?_
  refine nq_icmp_ge hX (tgt := 157) (by decide) dX9_findSteps_45 (fun c8 => ?_) (fun c8 => ?_)
  · rw [if_pos c8] at h
    refine nq_sub (lv' := [(0, .ref (nq_ad E 0)), (1, .int x1), (2, .int x2)]) [0, 1, 2] rfl ?_
    exact he M (nq_sE h).symm
  · rw [if_neg c8] at h
    refine nq_aload_n hX rfl 0 rfl dX9_findSteps_48 ?_
    refine nq_getr (v := .ref (nq_ad E 4)) hX inX9_findSteps_9 (nq_Model_0 hL) rfl 4 (by decide) lkX9_findSteps_19 _ rfl rfl dX9_findSteps_49 ?_
    refine nq_bipush hX (v := 6) (by decide) dX9_findSteps_52 ?_
    refine nq_iload_n hX rfl 3 rfl dX9_findSteps_54 ?_
    refine nq_bipush hX (v := 6) (by decide) dX9_findSteps_55 ?_
    obtain ⟨v9, e9, hn9, h⟩ := nq_ifE h
    refine nq_idiv hX hn9 e9 dX9_findSteps_57 ?_
    refine nq_imul hX dX9_findSteps_58 ?_
    refine nq_iload_n hX rfl 1 rfl dX9_findSteps_59 ?_
    refine nq_iadd hX dX9_findSteps_60 ?_
    obtain ⟨v10, e10, hi10, h⟩ := nq_agE h
    refine nq_iald hX (nq_Model_way hL) e10 hi10 dX9_findSteps_61 ?_
    refine nq_sipush hX (v := 10000) (by decide) dX9_findSteps_62 ?_
    refine nq_icmp_ge hX (tgt := 111) (by decide) dX9_findSteps_65 (fun c11 => ?_) (fun c11 => ?_)
    · rw [if_pos c11] at h
      exact mX9_findSteps_L111_34_42 hL hX hc he h
    · rw [if_neg c11] at h
      refine nq_aload_n hX rfl 0 rfl dX9_findSteps_68 ?_
      refine nq_iload_n hX rfl 3 rfl dX9_findSteps_69 ?_
      refine nq_bipush hX (v := 6) (by decide) dX9_findSteps_70 ?_
      obtain ⟨v22, e22, hn22, h⟩ := nq_ifE h
      refine nq_idiv hX hn22 e22 dX9_findSteps_72 ?_
      refine nq_iload_n hX rfl 3 rfl dX9_findSteps_73 ?_
      refine nq_bipush hX (v := 6) (by decide) dX9_findSteps_74 ?_
      obtain ⟨v23, e23, hn23, h⟩ := nq_ifE h
      refine nq_irem hX hn23 e23 dX9_findSteps_76 ?_
      refine nq_iload_n hX rfl 1 rfl dX9_findSteps_77 ?_
      obtain ⟨v25, hc24, h⟩ := nq_bE h
      refine nq_callVi hX (tX9_isOnWay hL hc24) gX9_findSteps_X9_isOnWay rfl rfl dsX9_isOnWay (by decide) (nq_Model_0 hL) rfl rfl (Nat.le_of_ble_eq_true rfl) dX9_findSteps_78 ?_
      refine nq_if_eq hX (tgt := 111) (by decide) dX9_findSteps_81 (fun c26 => ?_) (fun c26 => ?_)
      · rw [if_pos c26] at h
        exact mX9_findSteps_L111_34_42 hL hX hc he h
      · rw [if_neg c26] at h
        refine nq_aload_n hX rfl 0 rfl dX9_findSteps_84 ?_
        refine nq_getr (v := .ref (nq_ad E 5)) hX inX9_findSteps_9 (nq_Model_0 hL) rfl 5 (by decide) lkX9_findSteps_22 _ rfl rfl dX9_findSteps_85 ?_
        refine nq_iload_n hX rfl 3 rfl dX9_findSteps_88 ?_
        refine nq_bipush hX (v := 6) (by decide) dX9_findSteps_89 ?_
        obtain ⟨v27, e27, hn27, h⟩ := nq_ifE h
        refine nq_irem hX hn27 e27 dX9_findSteps_91 ?_
        obtain ⟨v28, e28, hi28, h⟩ := nq_agE h
        refine nq_iald hX (nq_Model_steps hL) e28 hi28 dX9_findSteps_92 ?_
        refine nq_iconst hX (v := 1) (by decide) dX9_findSteps_93 ?_
        refine nq_iadd hX dX9_findSteps_94 ?_
        refine nq_aload_n hX rfl 0 rfl dX9_findSteps_95 ?_
        refine nq_getr (v := .ref (nq_ad E 5)) hX inX9_findSteps_9 (nq_Model_0 hL) rfl 5 (by decide) lkX9_findSteps_22 _ rfl rfl dX9_findSteps_96 ?_
        refine nq_iload_n hX rfl 3 rfl dX9_findSteps_99 ?_
        refine nq_bipush hX (v := 6) (by decide) dX9_findSteps_100 ?_
        obtain ⟨v29, e29, hn29, h⟩ := nq_ifE h
        refine nq_idiv hX hn29 e29 dX9_findSteps_102 ?_
        obtain ⟨v30, e30, hi30, h⟩ := nq_agE h
        refine nq_iald hX (nq_Model_steps hL) e30 hi30 dX9_findSteps_103 ?_
        refine nq_icmp_ge hX (tgt := 111) (by decide) dX9_findSteps_104 (fun c31 => ?_) (fun c31 => ?_)
        · rw [if_pos c31] at h
          exact mX9_findSteps_L111_34_42 hL hX hc he h
        · rw [if_neg c31] at h
          refine nq_iconst hX (v := 1) (by decide) dX9_findSteps_107 ?_
          refine nq_goto hX (tgt := 112) (by decide) dX9_findSteps_108 ?_
          exact mX9_findSteps_L112_34_42 hL hX hc he h
def fX9_findSteps_L157_34 (x1 : Int32) (x2 : Int32) (M : Mem) : Option ((Int32 × Mem) ⊕ (Mem)) :=
  nq_lt (x2 + (1 : Int32)) fun v32 =>
  some (.inl (v32, M))
set_option maxHeartbeats 4000000 in
theorem mX9_findSteps_L157_34 {X : Cx} {E : Ev} {l : Launch} {K : List Sh} {x1 : Int32} {x2 : Int32} {M : Mem} (hL : nq_atModel E K) (hX : nq_OK X E l (nq_rm 2) cX9_findSteps 5 RX9 wsX9_findSteps) {x : (Int32 × Mem) ⊕ (Mem)} (hc : ∀ s' : Int32 × Mem, x = .inl s' → nq_G X E 5 34 [(0, .ref (nq_ad E 0)), (1, .int x1), (2, .int s'.1)] [] K s'.2) (he : ∀ s' : Mem, x = .inr s' → nq_G X E 5 163 [] [] K s') (h : fX9_findSteps_L157_34 x1 x2 M = some x) : nq_G X E 5 157 [(0, .ref (nq_ad E 0)), (1, .int x1), (2, .int x2)] [] K M := by
  unfold fX9_findSteps_L157_34 at h
  obtain ⟨v32, e32, h⟩ := nq_ltE h
  refine nq_iinc hX (lv' := [(2, .int v32), (0, .ref (nq_ad E 0)), (1, .int x1)]) (j := 2) rfl (e32.trans rfl) (by decide) rfl dX9_findSteps_157 ?_
  refine nq_goto hX (tgt := 34) (by decide) dX9_findSteps_160 ?_
  refine nq_sub (lv' := [(0, .ref (nq_ad E 0)), (1, .int x1), (2, .int v32)]) [1, 2, 0] rfl ?_
  exact hc (v32, M) (nq_sE h).symm
def fX9_findSteps_L42_34 (x1 : Int32) (x2 : Int32) (x3 : Int32) (M : Mem) : Option ((Int32 × Mem) ⊕ (Mem)) :=
  (nq_lp (fun s : Int32 × Mem => fX9_findSteps_B42_34 x1 x2 s.1 s.2) nq_fuel (x3, M)).bind (fun e => fX9_findSteps_L157_34 x1 x2 e)
set_option maxHeartbeats 4000000 in
theorem mX9_findSteps_L42_34 {X : Cx} {E : Ev} {l : Launch} {K : List Sh} {x1 : Int32} {x2 : Int32} {x3 : Int32} {M : Mem} (hL : nq_atModel E K) (hX : nq_OK X E l (nq_rm 2) cX9_findSteps 5 RX9 wsX9_findSteps) {x : (Int32 × Mem) ⊕ (Mem)} (hc : ∀ s' : Int32 × Mem, x = .inl s' → nq_G X E 5 34 [(0, .ref (nq_ad E 0)), (1, .int x1), (2, .int s'.1)] [] K s'.2) (he : ∀ s' : Mem, x = .inr s' → nq_G X E 5 163 [] [] K s') (h : fX9_findSteps_L42_34 x1 x2 x3 M = some x) : nq_G X E 5 42 [(0, .ref (nq_ad E 0)), (1, .int x1), (2, .int x2), (3, .int x3)] [] K M := by
  unfold fX9_findSteps_L42_34 at h
  obtain ⟨e, h1, h⟩ := nq_bE h
  have key : ∀ (ex : Mem), nq_lp (fun s : Int32 × Mem => fX9_findSteps_B42_34 x1 x2 s.1 s.2) nq_fuel (x3, M) = some ex → (∀ e, ex = e → nq_G X E 5 157 [(0, .ref (nq_ad E 0)), (1, .int x1), (2, .int x2)] [] K e) → nq_G X E 5 42 [(0, .ref (nq_ad E 0)), (1, .int x1), (2, .int x2), (3, .int ((x3, M).1))] [] K (x3, M).2 := by
    intro ex h1 hE
    refine nq_lpE (P := fun s : Int32 × Mem => nq_G X E 5 42 [(0, .ref (nq_ad E 0)), (1, .int x1), (2, .int x2), (3, .int s.1)] [] K s.2) (r := ex) ?_ nq_fuel (x3, M) h1
    intro s xx hx1 hc1 he1
    exact mX9_findSteps_B42_34 hL hX hc1 (fun e q => hE e (he1 _ q).symm) hx1
  refine key e h1 (fun e q => ?_)
  subst q
  exact mX9_findSteps_L157_34 hL hX hc he h
def fX9_findSteps_B34 (x1 : Int32) (x2 : Int32) (M : Mem) : Option ((Int32 × Mem) ⊕ (Mem)) :=
  if (6 : Int32) ≤ x2 then
  (some (.inr M))
  else
  (fX9_findSteps_L42_34 x1 x2 (0 : Int32) M)
set_option maxHeartbeats 4000000 in
theorem mX9_findSteps_B34 {X : Cx} {E : Ev} {l : Launch} {K : List Sh} {x1 : Int32} {x2 : Int32} {M : Mem} (hL : nq_atModel E K) (hX : nq_OK X E l (nq_rm 2) cX9_findSteps 5 RX9 wsX9_findSteps) {x : (Int32 × Mem) ⊕ (Mem)} (hc : ∀ s' : Int32 × Mem, x = .inl s' → nq_G X E 5 34 [(0, .ref (nq_ad E 0)), (1, .int x1), (2, .int s'.1)] [] K s'.2) (he : ∀ s' : Mem, x = .inr s' → nq_G X E 5 163 [] [] K s') (h : fX9_findSteps_B34 x1 x2 M = some x) : nq_G X E 5 34 [(0, .ref (nq_ad E 0)), (1, .int x1), (2, .int x2)] [] K M := by
  unfold fX9_findSteps_B34 at h
  refine nq_iload_n hX rfl 2 rfl dX9_findSteps_34 ?_
  refine nq_bipush hX (v := 6) (by decide) dX9_findSteps_35 ?_
  refine nq_icmp_ge hX (tgt := 163) (by decide) dX9_findSteps_37 (fun c7 => ?_) (fun c7 => ?_)
  · rw [if_pos c7] at h
    refine nq_sub (lv' := []) [] rfl ?_
    exact he M (nq_sE h).symm
  · rw [if_neg c7] at h
    refine nq_iconst hX (v := 0) (by decide) dX9_findSteps_40 ?_
    refine nq_istore_n hX (lv' := [(3, .int (0 : Int32)), (0, .ref (nq_ad E 0)), (1, .int x1), (2, .int x2)]) rfl (by decide) rfl rfl dX9_findSteps_41 ?_
    refine nq_sub (lv' := [(0, .ref (nq_ad E 0)), (1, .int x1), (2, .int x2), (3, .int (0 : Int32))]) [1, 2, 3, 0] rfl ?_
    exact mX9_findSteps_L42_34 hL hX hc he h
def fX9_findSteps_L163 (M : Mem) : Option (Mem) :=
  some M
set_option maxHeartbeats 4000000 in
theorem mX9_findSteps_L163 {X : Cx} {E : Ev} {l : Launch} {K : List Sh} {M : Mem} {M' : Mem} (hL : nq_atModel E K) (hX : nq_OK X E l (nq_rm 2) cX9_findSteps 5 RX9 wsX9_findSteps) (hr : nq_RT X E none none K M') (h : fX9_findSteps_L163 M = some M') : nq_G X E 5 163 [] [] K M := by
  unfold fX9_findSteps_L163 at h
  obtain rfl := nq_sE1 h; exact nq_vret hX hr dX9_findSteps_163
def fX9_findSteps_L34 (x1 : Int32) (x2 : Int32) (M : Mem) : Option (Mem) :=
  (nq_lp (fun s : Int32 × Mem => fX9_findSteps_B34 x1 s.1 s.2) nq_fuel (x2, M)).bind (fun e => fX9_findSteps_L163 e)
set_option maxHeartbeats 4000000 in
theorem mX9_findSteps_L34 {X : Cx} {E : Ev} {l : Launch} {K : List Sh} {x1 : Int32} {x2 : Int32} {M : Mem} {M' : Mem} (hL : nq_atModel E K) (hX : nq_OK X E l (nq_rm 2) cX9_findSteps 5 RX9 wsX9_findSteps) (hr : nq_RT X E none none K M') (h : fX9_findSteps_L34 x1 x2 M = some M') : nq_G X E 5 34 [(0, .ref (nq_ad E 0)), (1, .int x1), (2, .int x2)] [] K M := by
  unfold fX9_findSteps_L34 at h
  obtain ⟨e, h1, h⟩ := nq_bE h
  have key : ∀ (ex : Mem), nq_lp (fun s : Int32 × Mem => fX9_findSteps_B34 x1 s.1 s.2) nq_fuel (x2, M) = some ex → (∀ e, ex = e → nq_G X E 5 163 [] [] K e) → nq_G X E 5 34 [(0, .ref (nq_ad E 0)), (1, .int x1), (2, .int ((x2, M).1))] [] K (x2, M).2 := by
    intro ex h1 hE
    refine nq_lpE (P := fun s : Int32 × Mem => nq_G X E 5 34 [(0, .ref (nq_ad E 0)), (1, .int x1), (2, .int s.1)] [] K s.2) (r := ex) ?_ nq_fuel (x2, M) h1
    intro s xx hx1 hc1 he1
    exact mX9_findSteps_B34 hL hX hc1 (fun e q => hE e (he1 _ q).symm) hx1
  refine key e h1 (fun e q => ?_)
  subst q
  exact mX9_findSteps_L163 hL hX hr h
def fX9_findSteps_L32 (x1 : Int32) (M : Mem) : Option (Mem) :=
  fX9_findSteps_L34 x1 (0 : Int32) M
set_option maxHeartbeats 4000000 in
theorem mX9_findSteps_L32 {X : Cx} {E : Ev} {l : Launch} {K : List Sh} {x1 : Int32} {M : Mem} {M' : Mem} (hL : nq_atModel E K) (hX : nq_OK X E l (nq_rm 2) cX9_findSteps 5 RX9 wsX9_findSteps) (hr : nq_RT X E none none K M') (h : fX9_findSteps_L32 x1 M = some M') : nq_G X E 5 32 [(0, .ref (nq_ad E 0)), (1, .int x1)] [] K M := by
  unfold fX9_findSteps_L32 at h
  refine nq_iconst hX (v := 0) (by decide) dX9_findSteps_32 ?_
  refine nq_istore_n hX (lv' := [(2, .int (0 : Int32)), (0, .ref (nq_ad E 0)), (1, .int x1)]) rfl (by decide) rfl rfl dX9_findSteps_33 ?_
  refine nq_sub (lv' := [(0, .ref (nq_ad E 0)), (1, .int x1), (2, .int (0 : Int32))]) [1, 2, 0] rfl ?_
  exact mX9_findSteps_L34 hL hX hr h
def fX9_findSteps_L2 (x1 : Int32) (x2 : Int32) (M : Mem) : Option (Mem) :=
  (nq_lp (fun s : Int32 × Mem => fX9_findSteps_B2 x1 s.1 s.2) nq_fuel (x2, M)).bind (fun e => fX9_findSteps_L32 x1 e)
set_option maxHeartbeats 4000000 in
theorem mX9_findSteps_L2 {X : Cx} {E : Ev} {l : Launch} {K : List Sh} {x1 : Int32} {x2 : Int32} {M : Mem} {M' : Mem} (hL : nq_atModel E K) (hX : nq_OK X E l (nq_rm 2) cX9_findSteps 5 RX9 wsX9_findSteps) (hr : nq_RT X E none none K M') (h : fX9_findSteps_L2 x1 x2 M = some M') : nq_G X E 5 2 [(0, .ref (nq_ad E 0)), (1, .int x1), (2, .int x2)] [] K M := by
  unfold fX9_findSteps_L2 at h
  obtain ⟨e, h1, h⟩ := nq_bE h
  have key : ∀ (ex : Mem), nq_lp (fun s : Int32 × Mem => fX9_findSteps_B2 x1 s.1 s.2) nq_fuel (x2, M) = some ex → (∀ e, ex = e → nq_G X E 5 32 [(0, .ref (nq_ad E 0)), (1, .int x1)] [] K e) → nq_G X E 5 2 [(0, .ref (nq_ad E 0)), (1, .int x1), (2, .int ((x2, M).1))] [] K (x2, M).2 := by
    intro ex h1 hE
    refine nq_lpE (P := fun s : Int32 × Mem => nq_G X E 5 2 [(0, .ref (nq_ad E 0)), (1, .int x1), (2, .int s.1)] [] K s.2) (r := ex) ?_ nq_fuel (x2, M) h1
    intro s xx hx1 hc1 he1
    exact mX9_findSteps_B2 hL hX hc1 (fun e q => hE e (he1 _ q).symm) hx1
  refine key e h1 (fun e q => ?_)
  subst q
  exact mX9_findSteps_L32 hL hX hr h
def fX9_findSteps (x1 : Int32) (M : Mem) : Option (Mem) :=
  fX9_findSteps_L2 x1 (0 : Int32) M
set_option maxHeartbeats 4000000 in
theorem mX9_findSteps {X : Cx} {E : Ev} {l : Launch} {K : List Sh} {x1 : Int32} {M : Mem} {M' : Mem} (hL : nq_atModel E K) (hX : nq_OK X E l (nq_rm 2) cX9_findSteps 5 RX9 wsX9_findSteps) (hr : nq_RT X E none none K M') (h : fX9_findSteps x1 M = some M') : nq_G X E 5 0 [(0, .ref (nq_ad E 0)), (1, .int x1)] [] K M := by
  unfold fX9_findSteps at h
  refine nq_iconst hX (v := 0) (by decide) dX9_findSteps_0 ?_
  refine nq_istore_n hX (lv' := [(2, .int (0 : Int32)), (0, .ref (nq_ad E 0)), (1, .int x1)]) rfl (by decide) rfl rfl dX9_findSteps_1 ?_
  refine nq_sub (lv' := [(0, .ref (nq_ad E 0)), (1, .int x1), (2, .int (0 : Int32))]) [1, 2, 0] rfl ?_
  exact mX9_findSteps_L2 hL hX hr h
theorem dsX9_findSteps : yX9_findSteps.cls ≠ "java/lang/invoke/MethodHandle" ∧ yX9_findSteps.cls ≠ "java/lang/invoke/VarHandle" ∧ (parseMethodDescriptor yX9_findSteps.desc).map (fun d => d.parameters.length) = some 1 := by decide +kernel
theorem tX9_findSteps {l : Launch} {E : Ev} {K : List Sh} {x1 : Int32} {M : Mem} {M' : Mem} (hL : nq_atModel E K) (h : fX9_findSteps x1 M = some M') : nq_MA l E yX9_findSteps wsX9_findSteps (nq_rm 2) [.ref (nq_ad E 0), .int x1] K M none K M' :=
  nq_met (own := RX9) (cc := cX9_findSteps) (maxL := 5) (ret := none) (by decide) rfl rfl (Nat.le_of_ble_eq_true rfl) (fun X hX hr => mX9_findSteps hL hX hr h)

