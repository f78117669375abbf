/-! printed by dec.py: Reader 0 -/
def fX1_signsOf (x0 : Int32) (M : Mem) : Option (Int32) :=
  if x0 = 0 then
  (some (3 : Int32))
  else if x0 = 1 then
  (some (4 : Int32))
  else if x0 = 2 then
  (some (5 : Int32))
  else if x0 = 3 then
  (some (6 : Int32))
  else (some (7 : Int32))
set_option maxHeartbeats 4000000 in
theorem mX1_signsOf {X : Cx} {E : Ev} {l : Launch} {K : List Sh} {x0 : Int32} {M : Mem} {r : Int32}  (hX : nq_OK X E l (nq_rm 1) cX1_signsOf 1 RX1 wsX1_signsOf) (hr : nq_RT X E (some (.object "java/lang/String")) (some (.ref (nq_xa E r.toNatClampNeg))) K M) (h : fX1_signsOf x0 M = some r) : nq_G X E 1 0 [(0, .int x0)] [] K M := by
  unfold fX1_signsOf at h
  refine nq_iload_n hX rfl 0 rfl dX1_signsOf_0 ?_
  by_cases c1_0 : x0 = 0
  · rw [if_pos c1_0] at h; refine nq_tabI hX (tgt := 32) (off := 31) dX1_signsOf_1 (by rw [c1_0]; decide) (by rw [c1_0]; decide) (by rw [c1_0]; rfl) (by decide) ?_
    refine nq_ldcs hX (t := 3) (i := 3) (by decide) rfl rfl rfl dX1_signsOf_32 ?_
    obtain rfl := nq_sE1 h; exact nq_aret hX hr dX1_signsOf_34
  rw [if_neg c1_0] at h
  by_cases c1_1 : x0 = 1
  · rw [if_pos c1_1] at h; refine nq_tabI hX (tgt := 35) (off := 34) dX1_signsOf_1 (by rw [c1_1]; decide) (by rw [c1_1]; decide) (by rw [c1_1]; rfl) (by decide) ?_
    refine nq_ldcs hX (t := 4) (i := 4) (by decide) rfl rfl rfl dX1_signsOf_35 ?_
    obtain rfl := nq_sE1 h; exact nq_aret hX hr dX1_signsOf_37
  rw [if_neg c1_1] at h
  by_cases c1_2 : x0 = 2
  · rw [if_pos c1_2] at h; refine nq_tabI hX (tgt := 38) (off := 37) dX1_signsOf_1 (by rw [c1_2]; decide) (by rw [c1_2]; decide) (by rw [c1_2]; rfl) (by decide) ?_
    refine nq_ldcs hX (t := 5) (i := 5) (by decide) rfl rfl rfl dX1_signsOf_38 ?_
    obtain rfl := nq_sE1 h; exact nq_aret hX hr dX1_signsOf_40
  rw [if_neg c1_2] at h
  by_cases c1_3 : x0 = 3
  · rw [if_pos c1_3] at h; refine nq_tabI hX (tgt := 41) (off := 40) dX1_signsOf_1 (by rw [c1_3]; decide) (by rw [c1_3]; decide) (by rw [c1_3]; rfl) (by decide) ?_
    refine nq_ldcs hX (t := 6) (i := 6) (by decide) rfl rfl rfl dX1_signsOf_41 ?_
    obtain rfl := nq_sE1 h; exact nq_aret hX hr dX1_signsOf_43
  rw [if_neg c1_3] at h
  refine nq_tabO hX (tgt := 44) dX1_signsOf_1 (by have := nq_tne (k := 0) (n := 0) (by decide) c1_0; have := nq_tne (k := 1) (n := 1) (by decide) c1_1; have := nq_tne (k := 2) (n := 2) (by decide) c1_2; have := nq_tne (k := 3) (n := 3) (by decide) c1_3; omega) (by decide) ?_
  refine nq_ldcs hX (t := 7) (i := 7) (by decide) rfl rfl rfl dX1_signsOf_44 ?_
  obtain rfl := nq_sE1 h; exact nq_aret hX hr dX1_signsOf_46
theorem dsX1_signsOf : yX1_signsOf.cls ≠ "java/lang/invoke/MethodHandle" ∧ yX1_signsOf.cls ≠ "java/lang/invoke/VarHandle" ∧ (parseMethodDescriptor yX1_signsOf.desc).map (fun d => d.parameters.length) = some 1 := by decide +kernel
theorem tX1_signsOf {l : Launch} {E : Ev} {K : List Sh} {x0 : Int32} {M : Mem} {r : Int32}  (h : fX1_signsOf x0 M = some r) : nq_MA l E yX1_signsOf wsX1_signsOf (nq_rm 1) [.int x0] K M (some (.ref (nq_xa E r.toNatClampNeg))) K M :=
  nq_met (own := RX1) (cc := cX1_signsOf) (maxL := 1) (ret := (some (.object "java/lang/String"))) (by decide) rfl rfl (Nat.le_of_ble_eq_true rfl) (fun X hX hr => mX1_signsOf  hX hr h)

theorem inX1_next_1 : ∀ w ∈ u_ws RX1 TX1 6, w ∈ wsX1_next := by
  intro w h; unfold wsX1_next; simp only [List.mem_cons, List.mem_append]; simp only [h, true_or, or_true]
theorem lkX1_next_28 : Cond.fieldLink RX1 28 (TX1 4).1 (TX1 4).2.1 (TX1 4).2.2.1 ∈ wsX1_next := by decide +kernel
theorem lkX1_next_24 : Cond.fieldLink RX1 24 (TX1 3).1 (TX1 3).2.1 (TX1 3).2.2.1 ∈ wsX1_next := by decide +kernel
theorem lkX1_next_15 : Cond.fieldLink RX1 15 (TX1 2).1 (TX1 2).2.1 (TX1 2).2.2.1 ∈ wsX1_next := by decide +kernel
def fX1_next (p : Nat) (q : Nat) (M : Mem) : Option (Int32) :=
  nq_lt (M p 4) fun v1 =>
  nq_lt (M p 3) fun v2 =>
  if v2 ≤ v1 then
  (some (0 : Int32))
  else
  (nq_lt (M p 4) fun v4 =>
  (nq_gd (decide (M p 2 = 1))).bind fun _ =>
  if (50 : Int32) ≤ v4 then
  (some (0 : Int32))
  else
  ((nq_gd (decide (M p 2 = 1))).bind fun _ =>
  nq_lt (M p 4) fun v8 =>
  (nq_ag (M q) 50 v8).bind fun v9 =>
  (nq_nz .char ((v9.toUInt32 % 65536).toInt32)).bind fun _ =>
  some ((v9.toUInt32 % 65536).toInt32)))
set_option maxHeartbeats 4000000 in
theorem mX1_next {X : Cx} {E : Ev} {l : Launch} {K : List Sh} {p : Nat} {q : Nat} {M : Mem} {r : Int32} (hL : nq_atReader E K p q) (hX : nq_OK X E l (nq_rm 1) cX1_next 1 RX1 wsX1_next) (hr : nq_RT X E (some .char) (some (.int r)) K M) (h : fX1_next p q M = some r) : nq_G X E 1 0 [(0, .ref (nq_ad E p))] [] K M := by
  unfold fX1_next at h
  refine nq_aload_n hX rfl 0 rfl dX1_next_0 ?_
  obtain ⟨v1, e1, h⟩ := nq_ltE h
  refine nq_geti hX inX1_next_1 (nq_Reader_0 hL) rfl 4 (by decide) lkX1_next_28 rfl e1 dX1_next_1 ?_
  refine nq_aload_n hX rfl 0 rfl dX1_next_4 ?_
  obtain ⟨v2, e2, h⟩ := nq_ltE h
  refine nq_geti hX inX1_next_1 (nq_Reader_0 hL) rfl 3 (by decide) lkX1_next_24 rfl e2 dX1_next_5 ?_
  refine nq_icmp_ge hX (tgt := 36) (by decide) dX1_next_8 (fun c3 => ?_) (fun c3 => ?_)
  · rw [if_pos c3] at h
    refine nq_iconst hX (v := 0) (by decide) dX1_next_36 ?_
    obtain rfl := nq_sE1 h; exact nq_zret hX hr rfl dX1_next_37
  · rw [if_neg c3] at h
    refine nq_aload_n hX rfl 0 rfl dX1_next_11 ?_
    obtain ⟨v4, e4, h⟩ := nq_ltE h
    refine nq_geti hX inX1_next_1 (nq_Reader_0 hL) rfl 4 (by decide) lkX1_next_28 rfl e4 dX1_next_12 ?_
    refine nq_aload_n hX rfl 0 rfl dX1_next_15 ?_
    obtain ⟨g5, h⟩ := nq_gdE h
    refine nq_getr (v := .ref (nq_ad E q)) hX inX1_next_1 (nq_Reader_0 hL) rfl 2 (by decide) lkX1_next_15 _ rfl (by rw [of_decide_eq_true g5]; rfl) dX1_next_16 ?_
    refine nq_alen hX (v := 50) (nq_Reader_tape hL) rfl (by decide) dX1_next_19 ?_
    refine nq_icmp_ge hX (tgt := 36) (by decide) dX1_next_20 (fun c6 => ?_) (fun c6 => ?_)
    · rw [if_pos c6] at h
      refine nq_iconst hX (v := 0) (by decide) dX1_next_36 ?_
      obtain rfl := nq_sE1 h; exact nq_zret hX hr rfl dX1_next_37
    · rw [if_neg c6] at h
      refine nq_aload_n hX rfl 0 rfl dX1_next_23 ?_
      obtain ⟨g7, h⟩ := nq_gdE h
      refine nq_getr (v := .ref (nq_ad E q)) hX inX1_next_1 (nq_Reader_0 hL) rfl 2 (by decide) lkX1_next_15 _ rfl (by rw [of_decide_eq_true g7]; rfl) dX1_next_24 ?_
      refine nq_aload_n hX rfl 0 rfl dX1_next_27 ?_
      obtain ⟨v8, e8, h⟩ := nq_ltE h
      refine nq_geti hX inX1_next_1 (nq_Reader_0 hL) rfl 4 (by decide) lkX1_next_28 rfl e8 dX1_next_28 ?_
      obtain ⟨v9, e9, hi9, h⟩ := nq_agE h
      refine nq_iald hX (nq_Reader_tape hL) e9 hi9 dX1_next_31 ?_
      refine nq_i2c hX dX1_next_32 ?_
      refine nq_goto hX (tgt := 37) (by decide) dX1_next_33 ?_
      obtain ⟨hn10, h⟩ := nq_nzE h
      obtain rfl := nq_sE1 h; exact nq_zret hX hr hn10 dX1_next_37
theorem dsX1_next : yX1_next.cls ≠ "java/lang/invoke/MethodHandle" ∧ yX1_next.cls ≠ "java/lang/invoke/VarHandle" ∧ (parseMethodDescriptor yX1_next.desc).map (fun d => d.parameters.length) = some 0 := by decide +kernel
theorem tX1_next {l : Launch} {E : Ev} {K : List Sh} {p : Nat} {q : Nat} {M : Mem} {r : Int32} (hL : nq_atReader E K p q) (h : fX1_next p q M = some r) : nq_MA l E yX1_next wsX1_next (nq_rm 1) [.ref (nq_ad E p)] K M (some (.int r)) K M :=
  nq_met (own := RX1) (cc := cX1_next) (maxL := 1) (ret := (some .char)) (by decide) rfl rfl (Nat.le_of_ble_eq_true rfl) (fun X hX hr => mX1_next hL hX hr h)

theorem inX1_add_1 : ∀ w ∈ u_ws RX1 TX1 6, w ∈ wsX1_add := by
  intro w h; unfold wsX1_add; simp only [List.mem_cons, List.mem_append]; simp only [h, true_or, or_true]
theorem lkX1_add_31 : Cond.fieldLink RX1 31 (TX1 1).1 (TX1 1).2.1 (TX1 1).2.2.1 ∈ wsX1_add := by decide +kernel
theorem lkX1_add_9 : Cond.fieldLink RX1 9 (TX1 0).1 (TX1 0).2.1 (TX1 0).2.2.1 ∈ wsX1_add := by decide +kernel
def fX1_add (p : Nat) (q : Nat) (x1 : Int32) (M : Mem) : Option (Mem) :=
  nq_lt (M p 1) fun v1 =>
  if (50 : Int32) ≤ v1 then
  (some M)
  else
  (nq_lt (M p 1) fun v3 =>
  (nq_as M (p + 1) 50 v3 x1).bind fun M4 =>
  nq_lt (M4 p 1) fun v5 =>
  nq_lt (nq_wr M4 p 1 (v5 + (1 : Int32))) fun M6 =>
  some M6)
set_option maxHeartbeats 4000000 in
theorem mX1_add {X : Cx} {E : Ev} {l : Launch} {K : List Sh} {p : Nat} {q : Nat} {x1 : Int32} {M : Mem} {M' : Mem} (hL : nq_atReader E K p q) (hX : nq_OK X E l (nq_rm 1) cX1_add 2 RX1 wsX1_add) (hr : nq_RT X E none none K M') (h : fX1_add p q x1 M = some M') : nq_G X E 2 0 [(0, .ref (nq_ad E p)), (1, .int x1)] [] K M := by
  unfold fX1_add at h
  refine nq_aload_n hX rfl 0 rfl dX1_add_0 ?_
  obtain ⟨v1, e1, h⟩ := nq_ltE h
  refine nq_geti hX inX1_add_1 (nq_Reader_0 hL) rfl 1 (by decide) lkX1_add_31 rfl e1 dX1_add_1 ?_
  refine nq_aload_n hX rfl 0 rfl dX1_add_4 ?_
  refine nq_getr (v := .ref (nq_ad E (p + 1))) hX inX1_add_1 (nq_Reader_0 hL) rfl 0 (by decide) lkX1_add_9 _ rfl rfl dX1_add_5 ?_
  refine nq_alen hX (v := 50) (nq_Reader_codes hL) rfl (by decide) dX1_add_8 ?_
  refine nq_icmp_ge hX (tgt := 32) (by decide) dX1_add_9 (fun c2 => ?_) (fun c2 => ?_)
  · rw [if_pos c2] at h
    obtain rfl := nq_sE1 h; exact nq_vret hX hr dX1_add_32
  · rw [if_neg c2] at h
    refine nq_aload_n hX rfl 0 rfl dX1_add_12 ?_
    refine nq_getr (v := .ref (nq_ad E (p + 1))) hX inX1_add_1 (nq_Reader_0 hL) rfl 0 (by decide) lkX1_add_9 _ rfl rfl dX1_add_13 ?_
    refine nq_aload_n hX rfl 0 rfl dX1_add_16 ?_
    obtain ⟨v3, e3, h⟩ := nq_ltE h
    refine nq_geti hX inX1_add_1 (nq_Reader_0 hL) rfl 1 (by decide) lkX1_add_31 rfl e3 dX1_add_17 ?_
    refine nq_iload_n hX rfl 1 rfl dX1_add_20 ?_
    obtain ⟨M4, e4, hi4, h⟩ := nq_asE h
    refine nq_iast hX (nq_Reader_codes hL) e4 hi4 dX1_add_21 ?_
    refine nq_aload_n hX rfl 0 rfl dX1_add_22 ?_
    refine nq_dup hX rfl dX1_add_23 ?_
    obtain ⟨v5, e5, h⟩ := nq_ltE h
    refine nq_geti hX inX1_add_1 (nq_Reader_0 hL) rfl 1 (by decide) lkX1_add_31 rfl e5 dX1_add_24 ?_
    refine nq_iconst hX (v := 1) (by decide) dX1_add_27 ?_
    refine nq_iadd hX dX1_add_28 ?_
    obtain ⟨M6, eM6, h⟩ := nq_ltE h
    refine nq_puti hX inX1_add_1 tyX1 tyX1_ok nmX1 (nq_Reader_0 hL) rfl 1 (by decide) lkX1_add_31 rfl rfl rfl rfl rfl eM6 dX1_add_29 ?_
    obtain rfl := nq_sE1 h; exact nq_vret hX hr dX1_add_32
theorem dsX1_add : yX1_add.cls ≠ "java/lang/invoke/MethodHandle" ∧ yX1_add.cls ≠ "java/lang/invoke/VarHandle" ∧ (parseMethodDescriptor yX1_add.desc).map (fun d => d.parameters.length) = some 1 := by decide +kernel
theorem tX1_add {l : Launch} {E : Ev} {K : List Sh} {p : Nat} {q : Nat} {x1 : Int32} {M : Mem} {M' : Mem} (hL : nq_atReader E K p q) (h : fX1_add p q x1 M = some M') : nq_MA l E yX1_add wsX1_add (nq_rm 1) [.ref (nq_ad E p), .int x1] K M none K M' :=
  nq_met (own := RX1) (cc := cX1_add) (maxL := 2) (ret := none) (by decide) rfl rfl (Nat.le_of_ble_eq_true rfl) (fun X hX hr => mX1_add hL hX hr h)

def fX1_isDigit (x0 : Int32) (M : Mem) : Option (Int32) :=
  if x0 < (48 : Int32) then
  (some (0 : Int32))
  else
  (if (57 : Int32) < x0 then
  (some (0 : Int32))
  else
  (some (1 : Int32)))
set_option maxHeartbeats 4000000 in
theorem mX1_isDigit {X : Cx} {E : Ev} {l : Launch} {K : List Sh} {x0 : Int32} {M : Mem} {r : Int32}  (hX : nq_OK X E l (nq_rm 1) cX1_isDigit 1 RX1 wsX1_isDigit) (hr : nq_RT X E (some .boolean) (some (.int r)) K M) (h : fX1_isDigit x0 M = some r) : nq_G X E 1 0 [(0, .int x0)] [] K M := by
  unfold fX1_isDigit at h
  refine nq_iload_n hX rfl 0 rfl dX1_isDigit_0 ?_
  refine nq_bipush hX (v := 48) (by decide) dX1_isDigit_1 ?_
  refine nq_icmp_lt hX (tgt := 16) (by decide) dX1_isDigit_3 (fun c1 => ?_) (fun c1 => ?_)
  · rw [if_pos c1] at h
    refine nq_iconst hX (v := 0) (by decide) dX1_isDigit_16 ?_
    obtain rfl := nq_sE1 h; exact nq_zret hX hr rfl dX1_isDigit_17
  · rw [if_neg c1] at h
    refine nq_iload_n hX rfl 0 rfl dX1_isDigit_6 ?_
    refine nq_bipush hX (v := 57) (by decide) dX1_isDigit_7 ?_
    refine nq_icmp_gt hX (tgt := 16) (by decide) dX1_isDigit_9 (fun c2 => ?_) (fun c2 => ?_)
    · rw [if_pos c2] at h
      refine nq_iconst hX (v := 0) (by decide) dX1_isDigit_16 ?_
      obtain rfl := nq_sE1 h; exact nq_zret hX hr rfl dX1_isDigit_17
    · rw [if_neg c2] at h
      refine nq_iconst hX (v := 1) (by decide) dX1_isDigit_12 ?_
      refine nq_goto hX (tgt := 17) (by decide) dX1_isDigit_13 ?_
      obtain rfl := nq_sE1 h; exact nq_zret hX hr rfl dX1_isDigit_17
theorem dsX1_isDigit : yX1_isDigit.cls ≠ "java/lang/invoke/MethodHandle" ∧ yX1_isDigit.cls ≠ "java/lang/invoke/VarHandle" ∧ (parseMethodDescriptor yX1_isDigit.desc).map (fun d => d.parameters.length) = some 1 := by decide +kernel
theorem tX1_isDigit {l : Launch} {E : Ev} {K : List Sh} {x0 : Int32} {M : Mem} {r : Int32}  (h : fX1_isDigit x0 M = some r) : nq_MA l E yX1_isDigit wsX1_isDigit (nq_rm 1) [.int x0] K M (some (.int r)) K M :=
  nq_met (own := RX1) (cc := cX1_isDigit) (maxL := 1) (ret := (some .boolean)) (by decide) rfl rfl (Nat.le_of_ble_eq_true rfl) (fun X hX hr => mX1_isDigit  hX hr h)

theorem inX1_readNumber_1 : ∀ w ∈ u_ws RX1 TX1 6, w ∈ wsX1_readNumber := by
  intro w h; unfold wsX1_readNumber; simp only [List.mem_cons, List.mem_append]; simp only [h, true_or, or_true]
theorem lkX1_readNumber_28 : Cond.fieldLink RX1 28 (TX1 4).1 (TX1 4).2.1 (TX1 4).2.2.1 ∈ wsX1_readNumber := by decide +kernel
def fX1_readNumber_B4 (p : Nat) (q : Nat) (x1 : Int32) (x2 : Int32) (M : Mem) : Option ((Int32 × Int32 × Mem) ⊕ (Int32 × Mem)) :=
  if (4 : Int32) ≤ x2 then
  (some (.inr (x1, M)))
  else
  ((fX1_next p q M).bind fun v3 =>
  (fX1_isDigit v3 M).bind fun v5 =>
  if v5 = 0 then
  (some (.inr (x1, M)))
  else
  ((fX1_next p q M).bind fun v8 =>
  nq_lt (((((10 : Int32) * x1) + v8) - (48 : Int32))) fun v9 =>
  nq_lt (M p 4) fun v10 =>
  nq_lt (nq_wr M p 4 (v10 + (1 : Int32))) fun M11 =>
  nq_lt (x2 + (1 : Int32)) fun v12 =>
  some (.inl (v9, v12, M11))))
set_option maxHeartbeats 4000000 in
theorem mX1_readNumber_B4 {X : Cx} {E : Ev} {l : Launch} {K : List Sh} {p : Nat} {q : Nat} {x1 : Int32} {x2 : Int32} {M : Mem} (hL : nq_atReader E K p q) (hX : nq_OK X E l (nq_rm 2) cX1_readNumber 3 RX1 wsX1_readNumber) {x : (Int32 × Int32 × Mem) ⊕ (Int32 × Mem)} (hc : ∀ s' : Int32 × Int32 × Mem, x = .inl s' → nq_G X E 3 4 [(0, .ref (nq_ad E p)), (1, .int s'.1), (2, .int s'.2.1)] [] K s'.2.2) (he : ∀ s' : Int32 × Mem, x = .inr s' → nq_G X E 3 48 [(0, .ref (nq_ad E p)), (1, .int s'.1)] [] K s'.2) (h : fX1_readNumber_B4 p q x1 x2 M = some x) : nq_G X E 3 4 [(0, .ref (nq_ad E p)), (1, .int x1), (2, .int x2)] [] K M := by
  unfold fX1_readNumber_B4 at h
  refine nq_iload_n hX rfl 2 rfl dX1_readNumber_4 ?_
  refine nq_iconst hX (v := 4) (by decide) dX1_readNumber_5 ?_
  refine nq_icmp_ge hX (tgt := 48) (by decide) dX1_readNumber_6 (fun c1 => ?_) (fun c1 => ?_)
  · rw [if_pos c1] at h
    refine nq_sub (lv' := [(0, .ref (nq_ad E p)), (1, .int x1)]) [0, 1] rfl ?_
    exact he (x1, M) (nq_sE h).symm
  · rw [if_neg c1] at h
    refine nq_aload_n hX rfl 0 rfl dX1_readNumber_9 ?_
    obtain ⟨v3, hc2, h⟩ := nq_bE h
    refine nq_callVi hX (tX1_next hL hc2) gX1_readNumber_X1_next rfl rfl dsX1_next (by decide) (nq_Reader_0 hL) rfl rfl (Nat.le_of_ble_eq_true rfl) dX1_readNumber_10 ?_
    obtain ⟨v5, hc4, h⟩ := nq_bE h
    refine nq_callSi hX (tX1_isDigit  hc4) gX1_readNumber_X1_isDigit rfl rfl dsX1_isDigit (by decide) rfl (Nat.le_of_ble_eq_true rfl) dX1_readNumber_13 ?_
    refine nq_if_eq hX (tgt := 48) (by decide) dX1_readNumber_16 (fun c6 => ?_) (fun c6 => ?_)
    · rw [if_pos c6] at h
      refine nq_sub (lv' := [(0, .ref (nq_ad E p)), (1, .int x1)]) [0, 1] rfl ?_
      exact he (x1, M) (nq_sE h).symm
    · rw [if_neg c6] at h
      refine nq_bipush hX (v := 10) (by decide) dX1_readNumber_19 ?_
      refine nq_iload_n hX rfl 1 rfl dX1_readNumber_21 ?_
      refine nq_imul hX dX1_readNumber_22 ?_
      refine nq_aload_n hX rfl 0 rfl dX1_readNumber_23 ?_
      obtain ⟨v8, hc7, h⟩ := nq_bE h
      refine nq_callVi hX (tX1_next hL hc7) gX1_readNumber_X1_next rfl rfl dsX1_next (by decide) (nq_Reader_0 hL) rfl rfl (Nat.le_of_ble_eq_true rfl) dX1_readNumber_24 ?_
      refine nq_iadd hX dX1_readNumber_27 ?_
      refine nq_bipush hX (v := 48) (by decide) dX1_readNumber_28 ?_
      refine nq_isub hX dX1_readNumber_30 ?_
      obtain ⟨v9, e9, h⟩ := nq_ltE h
      refine nq_istore_n hX (lv' := [(1, .int v9), (0, .ref (nq_ad E p)), (2, .int x2)]) rfl (by decide) e9 rfl dX1_readNumber_31 ?_
      refine nq_aload_n hX rfl 1 rfl dX1_readNumber_32 ?_
      refine nq_dup hX rfl dX1_readNumber_33 ?_
      obtain ⟨v10, e10, h⟩ := nq_ltE h
      refine nq_geti hX inX1_readNumber_1 (nq_Reader_0 hL) rfl 4 (by decide) lkX1_readNumber_28 rfl e10 dX1_readNumber_34 ?_
      refine nq_iconst hX (v := 1) (by decide) dX1_readNumber_37 ?_
      refine nq_iadd hX dX1_readNumber_38 ?_
      obtain ⟨M11, eM11, h⟩ := nq_ltE h
      refine nq_puti hX inX1_readNumber_1 tyX1 tyX1_ok nmX1 (nq_Reader_0 hL) rfl 4 (by decide) lkX1_readNumber_28 rfl rfl rfl rfl rfl eM11 dX1_readNumber_39 ?_
      obtain ⟨v12, e12, h⟩ := nq_ltE h
      refine nq_iinc hX (lv' := [(2, .int v12), (1, .int v9), (0, .ref (nq_ad E p))]) (j := 2) rfl (e12.trans rfl) (by decide) rfl dX1_readNumber_42 ?_
      refine nq_goto hX (tgt := 4) (by decide) dX1_readNumber_45 ?_
      refine nq_sub (lv' := [(0, .ref (nq_ad E p)), (1, .int v9), (2, .int v12)]) [2, 1, 0] rfl ?_
      exact hc (v9, v12, M11) (nq_sE h).symm
def fX1_readNumber_L48 (p : Nat) (q : Nat) (x1 : Int32) (M : Mem) : Option (Mem) :=
  (fX1_add p q x1 M).bind fun M14 =>
  some M14
set_option maxHeartbeats 4000000 in
theorem mX1_readNumber_L48 {X : Cx} {E : Ev} {l : Launch} {K : List Sh} {p : Nat} {q : Nat} {x1 : Int32} {M : Mem} {M' : Mem} (hL : nq_atReader E K p q) (hX : nq_OK X E l (nq_rm 2) cX1_readNumber 3 RX1 wsX1_readNumber) (hr : nq_RT X E none none K M') (h : fX1_readNumber_L48 p q x1 M = some M') : nq_G X E 3 48 [(0, .ref (nq_ad E p)), (1, .int x1)] [] K M := by
  unfold fX1_readNumber_L48 at h
  refine nq_aload_n hX rfl 0 rfl dX1_readNumber_48 ?_
  refine nq_iload_n hX rfl 1 rfl dX1_readNumber_49 ?_
  obtain ⟨M14, hc13, h⟩ := nq_bE h
  refine nq_callVv hX (tX1_add hL hc13) gX1_readNumber_X1_add rfl rfl dsX1_add (by decide) (nq_Reader_0 hL) rfl rfl (Nat.le_of_ble_eq_true rfl) dX1_readNumber_50 ?_
  obtain rfl := nq_sE1 h; exact nq_vret hX hr dX1_readNumber_53
def fX1_readNumber_L4 (p : Nat) (q : Nat) (x1 : Int32) (x2 : Int32) (M : Mem) : Option (Mem) :=
  (nq_lp (fun s : Int32 × Int32 × Mem => fX1_readNumber_B4 p q s.1 s.2.1 s.2.2) nq_fuel (x1, x2, M)).bind (fun e => fX1_readNumber_L48 p q e.1 e.2)
set_option maxHeartbeats 4000000 in
theorem mX1_readNumber_L4 {X : Cx} {E : Ev} {l : Launch} {K : List Sh} {p : Nat} {q : Nat} {x1 : Int32} {x2 : Int32} {M : Mem} {M' : Mem} (hL : nq_atReader E K p q) (hX : nq_OK X E l (nq_rm 2) cX1_readNumber 3 RX1 wsX1_readNumber) (hr : nq_RT X E none none K M') (h : fX1_readNumber_L4 p q x1 x2 M = some M') : nq_G X E 3 4 [(0, .ref (nq_ad E p)), (1, .int x1), (2, .int x2)] [] K M := by
  unfold fX1_readNumber_L4 at h
  obtain ⟨e, h1, h⟩ := nq_bE h
  have key : ∀ (ex : Int32 × Mem), nq_lp (fun s : Int32 × Int32 × Mem => fX1_readNumber_B4 p q s.1 s.2.1 s.2.2) nq_fuel (x1, x2, M) = some ex → (∀ e, ex = e → nq_G X E 3 48 [(0, .ref (nq_ad E p)), (1, .int e.1)] [] K e.2) → nq_G X E 3 4 [(0, .ref (nq_ad E p)), (1, .int ((x1, x2, M).1)), (2, .int ((x1, x2, M).2.1))] [] K (x1, x2, M).2.2 := by
    intro ex h1 hE
    refine nq_lpE (P := fun s : Int32 × Int32 × Mem => nq_G X E 3 4 [(0, .ref (nq_ad E p)), (1, .int s.1), (2, .int s.2.1)] [] K s.2.2) (r := ex) ?_ nq_fuel (x1, x2, M) h1
    intro s xx hx1 hc1 he1
    exact mX1_readNumber_B4 hL hX hc1 (fun e q => hE e (he1 _ q).symm) hx1
  refine key e h1 (fun e q => ?_)
  subst q
  exact mX1_readNumber_L48 hL hX hr h
def fX1_readNumber (p : Nat) (q : Nat) (M : Mem) : Option (Mem) :=
  fX1_readNumber_L4 p q (0 : Int32) (0 : Int32) M
set_option maxHeartbeats 4000000 in
theorem mX1_readNumber {X : Cx} {E : Ev} {l : Launch} {K : List Sh} {p : Nat} {q : Nat} {M : Mem} {M' : Mem} (hL : nq_atReader E K p q) (hX : nq_OK X E l (nq_rm 2) cX1_readNumber 3 RX1 wsX1_readNumber) (hr : nq_RT X E none none K M') (h : fX1_readNumber p q M = some M') : nq_G X E 3 0 [(0, .ref (nq_ad E p))] [] K M := by
  unfold fX1_readNumber at h
  refine nq_iconst hX (v := 0) (by decide) dX1_readNumber_0 ?_
  refine nq_istore_n hX (lv' := [(1, .int (0 : Int32)), (0, .ref (nq_ad E p))]) rfl (by decide) rfl rfl dX1_readNumber_1 ?_
  refine nq_iconst hX (v := 0) (by decide) dX1_readNumber_2 ?_
  refine nq_istore_n hX (lv' := [(2, .int (0 : Int32)), (1, .int (0 : Int32)), (0, .ref (nq_ad E p))]) rfl (by decide) rfl rfl dX1_readNumber_3 ?_
  refine nq_sub (lv' := [(0, .ref (nq_ad E p)), (1, .int (0 : Int32)), (2, .int (0 : Int32))]) [2, 1, 0] rfl ?_
  exact mX1_readNumber_L4 hL hX hr h
theorem dsX1_readNumber : yX1_readNumber.cls ≠ "java/lang/invoke/MethodHandle" ∧ yX1_readNumber.cls ≠ "java/lang/invoke/VarHandle" ∧ (parseMethodDescriptor yX1_readNumber.desc).map (fun d => d.parameters.length) = some 0 := by decide +kernel
theorem tX1_readNumber {l : Launch} {E : Ev} {K : List Sh} {p : Nat} {q : Nat} {M : Mem} {M' : Mem} (hL : nq_atReader E K p q) (h : fX1_readNumber p q M = some M') : nq_MA l E yX1_readNumber wsX1_readNumber (nq_rm 2) [.ref (nq_ad E p)] K M none K M' :=
  nq_met (own := RX1) (cc := cX1_readNumber) (maxL := 3) (ret := none) (by decide) rfl rfl (Nat.le_of_ble_eq_true rfl) (fun X hX hr => mX1_readNumber hL hX hr h)

theorem dsX1_readLevel : yX1_readLevel.cls ≠ "java/lang/invoke/MethodHandle" ∧ yX1_readLevel.cls ≠ "java/lang/invoke/VarHandle" ∧ (parseMethodDescriptor yX1_readLevel.desc).map (fun d => d.parameters.length) = some 2 := by decide +kernel
theorem dsX1_readUnit : yX1_readUnit.cls ≠ "java/lang/invoke/MethodHandle" ∧ yX1_readUnit.cls ≠ "java/lang/invoke/VarHandle" ∧ (parseMethodDescriptor yX1_readUnit.desc).map (fun d => d.parameters.length) = some 1 := by decide +kernel
theorem dsX1_readNot : yX1_readNot.cls ≠ "java/lang/invoke/MethodHandle" ∧ yX1_readNot.cls ≠ "java/lang/invoke/VarHandle" ∧ (parseMethodDescriptor yX1_readNot.desc).map (fun d => d.parameters.length) = some 1 := by decide +kernel
theorem dsX1_readInside : yX1_readInside.cls ≠ "java/lang/invoke/MethodHandle" ∧ yX1_readInside.cls ≠ "java/lang/invoke/VarHandle" ∧ (parseMethodDescriptor yX1_readInside.desc).map (fun d => d.parameters.length) = some 1 := by decide +kernel
theorem inX1_readLevel_1 : ∀ w ∈ u_ws RX1 TX1 6, w ∈ wsX1_readLevel := by
  intro w h; unfold wsX1_readLevel; simp only [List.mem_cons, List.mem_append]; simp only [h, true_or, or_true]
theorem lkX1_readLevel_28 : Cond.fieldLink RX1 28 (TX1 4).1 (TX1 4).2.1 (TX1 4).2.2.1 ∈ wsX1_readLevel := by decide +kernel
def fX1_readLevel_B39 (g_readUnit : Nat → Nat → Int32 → Mem → Option (Int32 × Mem)) (g_readLevel : Nat → Nat → Int32 → Int32 → Mem → Option (Int32 × Mem)) (p : Nat) (q : Nat) (x1 : Int32) (x2 : Int32) (x3 : Int32) (x4 : Int32) (M : Mem) : Option ((Int32 × Mem) ⊕ ((Mem) ⊕ (Int32 × Mem))) :=
  if x3 ≤ x4 then
  (some (.inr (.inl M)))
  else
  ((fX1_signsOf x1 M).bind fun v9 =>
  (fX1_next p q M).bind fun v11 =>
  (nq_gd (decide (v9.toNatClampNeg < 8))).bind fun _ =>
  (fJ0_indexOf_0f7a4 v9.toNatClampNeg v11 M).bind fun v12 =>
  if v12 < 0 then
  (some (.inr (.inl M)))
  else
  ((fX1_next p q M).bind fun v17 =>
  nq_lt (M p 4) fun v18 =>
  nq_lt (nq_wr M p 4 (v18 + (1 : Int32))) fun M19 =>
  nq_b2 (g_readLevel p q (x1 + (1 : Int32)) x2 M19) fun v21 M22 =>
  if v21 = 0 then
  (some (.inr (.inr ((0 : Int32), M22))))
  else
  ((fX1_add p q (-v17) M22).bind fun M25 =>
  nq_lt (x4 + (1 : Int32)) fun v26 =>
  some (.inl (v26, M25)))))
set_option maxHeartbeats 4000000 in
theorem mX1_readLevel_B39 {X : Cx} {E : Ev} {l : Launch} {K : List Sh} {n : Nat} {g_readUnit : Nat → Nat → Int32 → Mem → Option (Int32 × Mem)} {g_readLevel : Nat → Nat → Int32 → Int32 → Mem → Option (Int32 × Mem)} {p : Nat} {q : Nat} {x1 : Int32} {x2 : Int32} {x3 : Int32} {x4 : Int32} {M : Mem} (hL : nq_atReader E K p q) (h_readUnit : ∀ {p : Nat} {q : Nat} {x1 : Int32} {M : Mem} {r : Int32} {M' : Mem} (hL : nq_atReader E K p q), g_readUnit p q x1 M = some (r, M') → nq_MA l E yX1_readUnit wsX1_readUnit (nq_rm n) [.ref (nq_ad E p), .int x1] K M (some (.int r)) K M') (h_readLevel : ∀ {p : Nat} {q : Nat} {x1 : Int32} {x2 : Int32} {M : Mem} {r : Int32} {M' : Mem} (hL : nq_atReader E K p q), g_readLevel p q x1 x2 M = some (r, M') → nq_MA l E yX1_readLevel wsX1_readLevel (nq_rm n) [.ref (nq_ad E p), .int x1, .int x2] K M (some (.int r)) K M') (hn : 8 ≤ n) (hX : nq_OK X E l (nq_rm (n + 1)) cX1_readLevel 6 RX1 wsX1_readLevel) {x : (Int32 × Mem) ⊕ ((Mem) ⊕ (Int32 × Mem))} (hc : ∀ s' : Int32 × Mem, x = .inl s' → nq_G X E 6 39 [(0, .ref (nq_ad E p)), (1, .int x1), (2, .int x2), (3, .int x3), (4, .int s'.1)] [] K s'.2) (he : ∀ s' : Mem, x = .inr (.inl s') → nq_G X E 6 101 [] [] K s') (hret : ∀ r : Int32 × Mem, x = .inr (.inr r) → nq_RT X E (some .boolean) (some (.int r.1)) K r.2) (h : fX1_readLevel_B39 g_readUnit g_readLevel p q x1 x2 x3 x4 M = some x) : nq_G X E 6 39 [(0, .ref (nq_ad E p)), (1, .int x1), (2, .int x2), (3, .int x3), (4, .int x4)] [] K M := by
  unfold fX1_readLevel_B39 at h
  refine nq_iload hX 4 rfl dX1_readLevel_39 ?_
  refine nq_iload_n hX rfl 3 rfl dX1_readLevel_41 ?_
  refine nq_icmp_ge hX (tgt := 101) (by decide) dX1_readLevel_42 (fun c7 => ?_) (fun c7 => ?_)
  · rw [if_pos c7] at h
    refine nq_sub (lv' := []) [] rfl ?_
    exact he M (nq_sE h).symm
  · rw [if_neg c7] at h
    refine nq_iload_n hX rfl 1 rfl dX1_readLevel_45 ?_
    obtain ⟨v9, hc8, h⟩ := nq_bE h
    refine nq_callSa hX (tX1_signsOf  hc8) gX1_readLevel_X1_signsOf rfl rfl dsX1_signsOf (nq_room (by decide) (by omega)) rfl (Nat.le_of_ble_eq_true rfl) dX1_readLevel_46 ?_
    refine nq_aload_n hX rfl 0 rfl dX1_readLevel_49 ?_
    obtain ⟨v11, hc10, h⟩ := nq_bE h
    refine nq_callVi hX (tX1_next hL hc10) gX1_readLevel_X1_next rfl rfl dsX1_next (nq_room (by decide) (by omega)) (nq_Reader_0 hL) rfl rfl (Nat.le_of_ble_eq_true rfl) dX1_readLevel_50 ?_
    obtain ⟨g13, h⟩ := nq_gdE h
    obtain ⟨v12, hc14, h⟩ := nq_bE h
    refine nq_callXi hX (tJ0_indexOf_0f7a4 (of_decide_eq_true g13) hc14) gX1_readLevel_J0_indexOf_0f7a4 rfl rfl dsJ0_indexOf_0f7a4 (nq_room (by decide) (by omega)) (of_decide_eq_true g13) rfl (Nat.le_of_ble_eq_true rfl) dX1_readLevel_53 ?_
    refine nq_if_lt hX (tgt := 101) (by decide) dX1_readLevel_56 (fun c15 => ?_) (fun c15 => ?_)
    · rw [if_pos c15] at h
      refine nq_sub (lv' := []) [] rfl ?_
      exact he M (nq_sE h).symm
    · rw [if_neg c15] at h
      refine nq_aload_n hX rfl 0 rfl dX1_readLevel_59 ?_
      obtain ⟨v17, hc16, h⟩ := nq_bE h
      refine nq_callVi hX (tX1_next hL hc16) gX1_readLevel_X1_next rfl rfl dsX1_next (nq_room (by decide) (by omega)) (nq_Reader_0 hL) rfl rfl (Nat.le_of_ble_eq_true rfl) dX1_readLevel_60 ?_
      refine nq_istore hX (lv' := [(5, .int v17), (0, .ref (nq_ad E p)), (1, .int x1), (2, .int x2), (3, .int x3), (4, .int x4)]) (by decide) rfl rfl dX1_readLevel_63 ?_
      refine nq_aload_n hX rfl 1 rfl dX1_readLevel_65 ?_
      refine nq_dup hX rfl dX1_readLevel_66 ?_
      obtain ⟨v18, e18, h⟩ := nq_ltE h
      refine nq_geti hX inX1_readLevel_1 (nq_Reader_0 hL) rfl 4 (by decide) lkX1_readLevel_28 rfl e18 dX1_readLevel_67 ?_
      refine nq_iconst hX (v := 1) (by decide) dX1_readLevel_70 ?_
      refine nq_iadd hX dX1_readLevel_71 ?_
      obtain ⟨M19, eM19, h⟩ := nq_ltE h
      refine nq_puti hX inX1_readLevel_1 tyX1 tyX1_ok nmX1 (nq_Reader_0 hL) rfl 4 (by decide) lkX1_readLevel_28 rfl rfl rfl rfl rfl eM19 dX1_readLevel_72 ?_
      refine nq_aload_n hX rfl 1 rfl dX1_readLevel_75 ?_
      refine nq_iload_n hX rfl 2 rfl dX1_readLevel_76 ?_
      refine nq_iconst hX (v := 1) (by decide) dX1_readLevel_77 ?_
      refine nq_iadd hX dX1_readLevel_78 ?_
      refine nq_iload_n hX rfl 3 rfl dX1_readLevel_79 ?_
      obtain ⟨v21, M22, hc20, h⟩ := nq_b2E h
      refine nq_callVi hX (h_readLevel hL hc20) gX1_readLevel_X1_readLevel rfl rfl dsX1_readLevel (nq_room (by decide) (by omega)) (nq_Reader_0 hL) rfl rfl (Nat.le_of_ble_eq_true rfl) dX1_readLevel_80 ?_
      refine nq_if_ne hX (tgt := 88) (by decide) dX1_readLevel_83 (fun c23 => ?_) (fun c23 => ?_)
      · rw [if_pos c23] at h
        refine nq_iconst hX (v := 0) (by decide) dX1_readLevel_86 ?_
        exact nq_zret hX (hret ((0 : Int32), M22) (nq_sE h).symm) rfl dX1_readLevel_87
      · rw [if_neg c23] at h
        refine nq_aload_n hX rfl 1 rfl dX1_readLevel_88 ?_
        refine nq_iload hX 0 rfl dX1_readLevel_89 ?_
        refine nq_ineg hX dX1_readLevel_91 ?_
        obtain ⟨M25, hc24, h⟩ := nq_bE h
        refine nq_callVv hX (tX1_add hL hc24) gX1_readLevel_X1_add rfl rfl dsX1_add (nq_room (by decide) (by omega)) (nq_Reader_0 hL) rfl rfl (Nat.le_of_ble_eq_true rfl) dX1_readLevel_92 ?_
        obtain ⟨v26, e26, h⟩ := nq_ltE h
        refine nq_iinc hX (lv' := [(4, .int v26), (5, .int v17), (0, .ref (nq_ad E p)), (1, .int x1), (2, .int x2), (3, .int x3)]) (j := 5) rfl (e26.trans rfl) (by decide) rfl dX1_readLevel_95 ?_
        refine nq_goto hX (tgt := 39) (by decide) dX1_readLevel_98 ?_
        refine nq_sub (lv' := [(0, .ref (nq_ad E p)), (1, .int x1), (2, .int x2), (3, .int x3), (4, .int v26)]) [2, 3, 4, 5, 0] rfl ?_
        exact hc (v26, M25) (nq_sE h).symm
def fX1_readLevel_L101 (g_readUnit : Nat → Nat → Int32 → Mem → Option (Int32 × Mem)) (g_readLevel : Nat → Nat → Int32 → Int32 → Mem → Option (Int32 × Mem)) (p : Nat) (q : Nat) (M : Mem) : Option (Int32 × Mem) :=
  some ((1 : Int32), M)
set_option maxHeartbeats 4000000 in
theorem mX1_readLevel_L101 {X : Cx} {E : Ev} {l : Launch} {K : List Sh} {n : Nat} {g_readUnit : Nat → Nat → Int32 → Mem → Option (Int32 × Mem)} {g_readLevel : Nat → Nat → Int32 → Int32 → Mem → Option (Int32 × Mem)} {p : Nat} {q : Nat} {M : Mem} {r : Int32} {M' : Mem} (hL : nq_atReader E K p q) (h_readUnit : ∀ {p : Nat} {q : Nat} {x1 : Int32} {M : Mem} {r : Int32} {M' : Mem} (hL : nq_atReader E K p q), g_readUnit p q x1 M = some (r, M') → nq_MA l E yX1_readUnit wsX1_readUnit (nq_rm n) [.ref (nq_ad E p), .int x1] K M (some (.int r)) K M') (h_readLevel : ∀ {p : Nat} {q : Nat} {x1 : Int32} {x2 : Int32} {M : Mem} {r : Int32} {M' : Mem} (hL : nq_atReader E K p q), g_readLevel p q x1 x2 M = some (r, M') → nq_MA l E yX1_readLevel wsX1_readLevel (nq_rm n) [.ref (nq_ad E p), .int x1, .int x2] K M (some (.int r)) K M') (hn : 8 ≤ n) (hX : nq_OK X E l (nq_rm (n + 1)) cX1_readLevel 6 RX1 wsX1_readLevel) (hr : nq_RT X E (some .boolean) (some (.int r)) K M') (h : fX1_readLevel_L101 g_readUnit g_readLevel p q M = some (r, M')) : nq_G X E 6 101 [] [] K M := by
  unfold fX1_readLevel_L101 at h
  refine nq_iconst hX (v := 1) (by decide) dX1_readLevel_101 ?_
  obtain ⟨rfl, rfl⟩ := nq_sE2 h; exact nq_zret hX hr rfl dX1_readLevel_102
def fX1_readLevel_L39 (g_readUnit : Nat → Nat → Int32 → Mem → Option (Int32 × Mem)) (g_readLevel : Nat → Nat → Int32 → Int32 → Mem → Option (Int32 × Mem)) (p : Nat) (q : Nat) (x1 : Int32) (x2 : Int32) (x3 : Int32) (x4 : Int32) (M : Mem) : Option (Int32 × Mem) :=
  (nq_lp (fun s : Int32 × Mem => fX1_readLevel_B39 g_readUnit g_readLevel p q x1 x2 x3 s.1 s.2) nq_fuel (x4, M)).bind (Sum.elim (fun e => fX1_readLevel_L101 g_readUnit g_readLevel p q e) (fun r1 => some r1))
set_option maxHeartbeats 4000000 in
theorem mX1_readLevel_L39 {X : Cx} {E : Ev} {l : Launch} {K : List Sh} {n : Nat} {g_readUnit : Nat → Nat → Int32 → Mem → Option (Int32 × Mem)} {g_readLevel : Nat → Nat → Int32 → Int32 → Mem → Option (Int32 × Mem)} {p : Nat} {q : Nat} {x1 : Int32} {x2 : Int32} {x3 : Int32} {x4 : Int32} {M : Mem} {r : Int32} {M' : Mem} (hL : nq_atReader E K p q) (h_readUnit : ∀ {p : Nat} {q : Nat} {x1 : Int32} {M : Mem} {r : Int32} {M' : Mem} (hL : nq_atReader E K p q), g_readUnit p q x1 M = some (r, M') → nq_MA l E yX1_readUnit wsX1_readUnit (nq_rm n) [.ref (nq_ad E p), .int x1] K M (some (.int r)) K M') (h_readLevel : ∀ {p : Nat} {q : Nat} {x1 : Int32} {x2 : Int32} {M : Mem} {r : Int32} {M' : Mem} (hL : nq_atReader E K p q), g_readLevel p q x1 x2 M = some (r, M') → nq_MA l E yX1_readLevel wsX1_readLevel (nq_rm n) [.ref (nq_ad E p), .int x1, .int x2] K M (some (.int r)) K M') (hn : 8 ≤ n) (hX : nq_OK X E l (nq_rm (n + 1)) cX1_readLevel 6 RX1 wsX1_readLevel) (hr : nq_RT X E (some .boolean) (some (.int r)) K M') (h : fX1_readLevel_L39 g_readUnit g_readLevel p q x1 x2 x3 x4 M = some (r, M')) : nq_G X E 6 39 [(0, .ref (nq_ad E p)), (1, .int x1), (2, .int x2), (3, .int x3), (4, .int x4)] [] K M := by
  unfold fX1_readLevel_L39 at h
  obtain ⟨e, h1, h⟩ := nq_bE h
  have key : ∀ (ex : (Mem) ⊕ (Int32 × Mem)), nq_lp (fun s : Int32 × Mem => fX1_readLevel_B39 g_readUnit g_readLevel p q x1 x2 x3 s.1 s.2) nq_fuel (x4, M) = some ex → (∀ e, ex = .inl e → nq_G X E 6 101 [] [] K e) → (∀ r, ex = .inr r → nq_RT X E (some .boolean) (some (.int r.1)) K r.2) → nq_G X E 6 39 [(0, .ref (nq_ad E p)), (1, .int x1), (2, .int x2), (3, .int x3), (4, .int ((x4, M).1))] [] K (x4, M).2 := by
    intro ex h1 hE hR
    refine nq_lpE (P := fun s : Int32 × Mem => nq_G X E 6 39 [(0, .ref (nq_ad E p)), (1, .int x1), (2, .int x2), (3, .int x3), (4, .int s.1)] [] K s.2) (r := ex) ?_ nq_fuel (x4, M) h1
    intro s xx hx1 hc1 he1
    exact mX1_readLevel_B39 hL h_readUnit h_readLevel hn hX hc1 (fun e q => hE e (he1 _ q).symm) (fun r q => hR r (he1 _ q).symm) hx1
  refine key e h1 (fun e q => ?_) (fun r1 q => ?_)
  · subst q
    have h : fX1_readLevel_L101 g_readUnit g_readLevel p q e = some (r, M') := h
    exact mX1_readLevel_L101 hL h_readUnit h_readLevel hn hX hr h
  · subst q
    have h : some r1 = some (r, M') := h
    obtain rfl := nq_sE1 h; exact hr
def fX1_readLevel_L35 (g_readUnit : Nat → Nat → Int32 → Mem → Option (Int32 × Mem)) (g_readLevel : Nat → Nat → Int32 → Int32 → Mem → Option (Int32 × Mem)) (p : Nat) (q : Nat) (x1 : Int32) (x2 : Int32) (s0 : Int32) (M : Mem) : Option (Int32 × Mem) :=
  fX1_readLevel_L39 g_readUnit g_readLevel p q x1 x2 s0 (0 : Int32) M
set_option maxHeartbeats 4000000 in
theorem mX1_readLevel_L35 {X : Cx} {E : Ev} {l : Launch} {K : List Sh} {n : Nat} {g_readUnit : Nat → Nat → Int32 → Mem → Option (Int32 × Mem)} {g_readLevel : Nat → Nat → Int32 → Int32 → Mem → Option (Int32 × Mem)} {p : Nat} {q : Nat} {x1 : Int32} {x2 : Int32} {s0 : Int32} {M : Mem} {r : Int32} {M' : Mem} (hL : nq_atReader E K p q) (h_readUnit : ∀ {p : Nat} {q : Nat} {x1 : Int32} {M : Mem} {r : Int32} {M' : Mem} (hL : nq_atReader E K p q), g_readUnit p q x1 M = some (r, M') → nq_MA l E yX1_readUnit wsX1_readUnit (nq_rm n) [.ref (nq_ad E p), .int x1] K M (some (.int r)) K M') (h_readLevel : ∀ {p : Nat} {q : Nat} {x1 : Int32} {x2 : Int32} {M : Mem} {r : Int32} {M' : Mem} (hL : nq_atReader E K p q), g_readLevel p q x1 x2 M = some (r, M') → nq_MA l E yX1_readLevel wsX1_readLevel (nq_rm n) [.ref (nq_ad E p), .int x1, .int x2] K M (some (.int r)) K M') (hn : 8 ≤ n) (hX : nq_OK X E l (nq_rm (n + 1)) cX1_readLevel 6 RX1 wsX1_readLevel) (hr : nq_RT X E (some .boolean) (some (.int r)) K M') (h : fX1_readLevel_L35 g_readUnit g_readLevel p q x1 x2 s0 M = some (r, M')) : nq_G X E 6 35 [(0, .ref (nq_ad E p)), (1, .int x1), (2, .int x2)] [.int s0] K M := by
  unfold fX1_readLevel_L35 at h
  refine nq_istore_n hX (lv' := [(3, .int s0), (0, .ref (nq_ad E p)), (1, .int x1), (2, .int x2)]) rfl (by decide) rfl rfl dX1_readLevel_35 ?_
  refine nq_iconst hX (v := 0) (by decide) dX1_readLevel_36 ?_
  refine nq_istore hX (lv' := [(4, .int (0 : Int32)), (3, .int s0), (0, .ref (nq_ad E p)), (1, .int x1), (2, .int x2)]) (by decide) rfl rfl dX1_readLevel_37 ?_
  refine nq_sub (lv' := [(0, .ref (nq_ad E p)), (1, .int x1), (2, .int x2), (3, .int s0), (4, .int (0 : Int32))]) [2, 3, 4, 1, 0] rfl ?_
  exact mX1_readLevel_L39 hL h_readUnit h_readLevel hn hX hr h
def fX1_readLevel (g_readUnit : Nat → Nat → Int32 → Mem → Option (Int32 × Mem)) (g_readLevel : Nat → Nat → Int32 → Int32 → Mem → Option (Int32 × Mem)) (p : Nat) (q : Nat) (x1 : Int32) (x2 : Int32) (M : Mem) : Option (Int32 × Mem) :=
  if x1 < (5 : Int32) then
  (nq_b2 (g_readLevel p q (x1 + (1 : Int32)) x2 M) fun v3 M4 =>
  if v3 = 0 then
  (some ((0 : Int32), M4))
  else
  (if x1 = (2 : Int32) then
  (fX1_readLevel_L35 g_readUnit g_readLevel p q x1 x2 (1 : Int32) M4)
  else
  (fX1_readLevel_L35 g_readUnit g_readLevel p q x1 x2 (50 : Int32) M4)))
  else
  (nq_b2 (g_readUnit p q x2 M) fun v28 M29 =>
  (nq_nz .boolean v28).bind fun _ =>
  some (v28, M29))
set_option maxHeartbeats 4000000 in
theorem mX1_readLevel {X : Cx} {E : Ev} {l : Launch} {K : List Sh} {n : Nat} {g_readUnit : Nat → Nat → Int32 → Mem → Option (Int32 × Mem)} {g_readLevel : Nat → Nat → Int32 → Int32 → Mem → Option (Int32 × Mem)} {p : Nat} {q : Nat} {x1 : Int32} {x2 : Int32} {M : Mem} {r : Int32} {M' : Mem} (hL : nq_atReader E K p q) (h_readUnit : ∀ {p : Nat} {q : Nat} {x1 : Int32} {M : Mem} {r : Int32} {M' : Mem} (hL : nq_atReader E K p q), g_readUnit p q x1 M = some (r, M') → nq_MA l E yX1_readUnit wsX1_readUnit (nq_rm n) [.ref (nq_ad E p), .int x1] K M (some (.int r)) K M') (h_readLevel : ∀ {p : Nat} {q : Nat} {x1 : Int32} {x2 : Int32} {M : Mem} {r : Int32} {M' : Mem} (hL : nq_atReader E K p q), g_readLevel p q x1 x2 M = some (r, M') → nq_MA l E yX1_readLevel wsX1_readLevel (nq_rm n) [.ref (nq_ad E p), .int x1, .int x2] K M (some (.int r)) K M') (hn : 8 ≤ n) (hX : nq_OK X E l (nq_rm (n + 1)) cX1_readLevel 6 RX1 wsX1_readLevel) (hr : nq_RT X E (some .boolean) (some (.int r)) K M') (h : fX1_readLevel g_readUnit g_readLevel p q x1 x2 M = some (r, M')) : nq_G X E 6 0 [(0, .ref (nq_ad E p)), (1, .int x1), (2, .int x2)] [] K M := by
  unfold fX1_readLevel at h
  refine nq_iload_n hX rfl 1 rfl dX1_readLevel_0 ?_
  refine nq_iconst hX (v := 5) (by decide) dX1_readLevel_1 ?_
  refine nq_icmp_lt hX (tgt := 11) (by decide) dX1_readLevel_2 (fun c1 => ?_) (fun c1 => ?_)
  · rw [if_pos c1] at h
    refine nq_aload_n hX rfl 0 rfl dX1_readLevel_11 ?_
    refine nq_iload_n hX rfl 1 rfl dX1_readLevel_12 ?_
    refine nq_iconst hX (v := 1) (by decide) dX1_readLevel_13 ?_
    refine nq_iadd hX dX1_readLevel_14 ?_
    refine nq_iload_n hX rfl 2 rfl dX1_readLevel_15 ?_
    obtain ⟨v3, M4, hc2, h⟩ := nq_b2E h
    refine nq_callVi hX (h_readLevel hL hc2) gX1_readLevel_X1_readLevel rfl rfl dsX1_readLevel (nq_room (by decide) (by omega)) (nq_Reader_0 hL) rfl rfl (Nat.le_of_ble_eq_true rfl) dX1_readLevel_16 ?_
    refine nq_if_ne hX (tgt := 24) (by decide) dX1_readLevel_19 (fun c5 => ?_) (fun c5 => ?_)
    · rw [if_pos c5] at h
      refine nq_iconst hX (v := 0) (by decide) dX1_readLevel_22 ?_
      obtain ⟨rfl, rfl⟩ := nq_sE2 h; exact nq_zret hX hr rfl dX1_readLevel_23
    · rw [if_neg c5] at h
      refine nq_iload_n hX rfl 1 rfl dX1_readLevel_24 ?_
      refine nq_iconst hX (v := 2) (by decide) dX1_readLevel_25 ?_
      refine nq_icmp_ne hX (tgt := 33) (by decide) dX1_readLevel_26 (fun c6 => ?_) (fun c6 => ?_)
      · rw [if_pos c6] at h
        refine nq_iconst hX (v := 1) (by decide) dX1_readLevel_29 ?_
        refine nq_goto hX (tgt := 35) (by decide) dX1_readLevel_30 ?_
        exact mX1_readLevel_L35 hL h_readUnit h_readLevel hn hX hr h
      · rw [if_neg c6] at h
        refine nq_bipush hX (v := 50) (by decide) dX1_readLevel_33 ?_
        exact mX1_readLevel_L35 hL h_readUnit h_readLevel hn hX hr h
  · rw [if_neg c1] at h
    refine nq_aload_n hX rfl 0 rfl dX1_readLevel_5 ?_
    refine nq_iload_n hX rfl 2 rfl dX1_readLevel_6 ?_
    obtain ⟨v28, M29, hc27, h⟩ := nq_b2E h
    refine nq_callVi hX (h_readUnit hL hc27) gX1_readLevel_X1_readUnit rfl rfl dsX1_readUnit (nq_room (by decide) (by omega)) (nq_Reader_0 hL) rfl rfl (Nat.le_of_ble_eq_true rfl) dX1_readLevel_7 ?_
    obtain ⟨hn30, h⟩ := nq_nzE h
    obtain ⟨rfl, rfl⟩ := nq_sE2 h; exact nq_zret hX hr hn30 dX1_readLevel_10
theorem tX1_readLevel {l : Launch} {E : Ev} {K : List Sh} {n : Nat} {g_readUnit : Nat → Nat → Int32 → Mem → Option (Int32 × Mem)} {g_readLevel : Nat → Nat → Int32 → Int32 → Mem → Option (Int32 × Mem)} {p : Nat} {q : Nat} {x1 : Int32} {x2 : Int32} {M : Mem} {r : Int32} {M' : Mem} (hL : nq_atReader E K p q) (h_readUnit : ∀ {p : Nat} {q : Nat} {x1 : Int32} {M : Mem} {r : Int32} {M' : Mem} (hL : nq_atReader E K p q), g_readUnit p q x1 M = some (r, M') → nq_MA l E yX1_readUnit wsX1_readUnit (nq_rm n) [.ref (nq_ad E p), .int x1] K M (some (.int r)) K M') (h_readLevel : ∀ {p : Nat} {q : Nat} {x1 : Int32} {x2 : Int32} {M : Mem} {r : Int32} {M' : Mem} (hL : nq_atReader E K p q), g_readLevel p q x1 x2 M = some (r, M') → nq_MA l E yX1_readLevel wsX1_readLevel (nq_rm n) [.ref (nq_ad E p), .int x1, .int x2] K M (some (.int r)) K M') (hn : 8 ≤ n) (h : fX1_readLevel g_readUnit g_readLevel p q x1 x2 M = some (r, M')) : nq_MA l E yX1_readLevel wsX1_readLevel (nq_rm (n + 1)) [.ref (nq_ad E p), .int x1, .int x2] K M (some (.int r)) K M' :=
  nq_met (own := RX1) (cc := cX1_readLevel) (maxL := 6) (ret := (some .boolean)) (by decide) rfl rfl (Nat.le_of_ble_eq_true rfl) (fun X hX hr => mX1_readLevel hL h_readUnit h_readLevel hn hX hr h)

theorem inX1_readUnit_1 : ∀ w ∈ u_ws RX1 TX1 6, w ∈ wsX1_readUnit := by
  intro w h; unfold wsX1_readUnit; simp only [List.mem_cons, List.mem_append]; simp only [h, true_or, or_true]
theorem lkX1_readUnit_20 : Cond.fieldLink RX1 20 (TX1 5).1 (TX1 5).2.1 (TX1 5).2.2.1 ∈ wsX1_readUnit := by decide +kernel
theorem lkX1_readUnit_28 : Cond.fieldLink RX1 28 (TX1 4).1 (TX1 4).2.1 (TX1 4).2.2.1 ∈ wsX1_readUnit := by decide +kernel
def fX1_readUnit_L64 (g_readNot : Nat → Nat → Int32 → Mem → Option (Int32 × Mem)) (g_readInside : Nat → Nat → Int32 → Mem → Option (Int32 × Mem)) (p : Nat) (q : Nat) (x1 : Int32) (x2 : Int32) (M : Mem) : Option (Int32 × Mem) :=
  if x1 < (5 : Int32) then
  (nq_lt (M p 4) fun v13 =>
  nq_lt (nq_wr M p 4 (v13 + (1 : Int32))) fun M14 =>
  if x2 = (33 : Int32) then
  (nq_b2 (g_readNot p q (x1 + (1 : Int32)) M14) fun v17 M18 =>
  (nq_nz .boolean v17).bind fun _ =>
  some (v17, M18))
  else
  (nq_b2 (g_readInside p q (x1 + (1 : Int32)) M14) fun v21 M22 =>
  (nq_nz .boolean v21).bind fun _ =>
  some (v21, M22)))
  else
  (some ((0 : Int32), M))
set_option maxHeartbeats 4000000 in
theorem mX1_readUnit_L64 {X : Cx} {E : Ev} {l : Launch} {K : List Sh} {n : Nat} {g_readNot : Nat → Nat → Int32 → Mem → Option (Int32 × Mem)} {g_readInside : Nat → Nat → Int32 → Mem → Option (Int32 × Mem)} {p : Nat} {q : Nat} {x1 : Int32} {x2 : Int32} {M : Mem} {r : Int32} {M' : Mem} (hL : nq_atReader E K p q) (h_readNot : ∀ {p : Nat} {q : Nat} {x1 : Int32} {M : Mem} {r : Int32} {M' : Mem} (hL : nq_atReader E K p q), g_readNot p q x1 M = some (r, M') → nq_MA l E yX1_readNot wsX1_readNot (nq_rm n) [.ref (nq_ad E p), .int x1] K M (some (.int r)) K M') (h_readInside : ∀ {p : Nat} {q : Nat} {x1 : Int32} {M : Mem} {r : Int32} {M' : Mem} (hL : nq_atReader E K p q), g_readInside p q x1 M = some (r, M') → nq_MA l E yX1_readInside wsX1_readInside (nq_rm n) [.ref (nq_ad E p), .int x1] K M (some (.int r)) K M') (hn : 8 ≤ n) (hX : nq_OK X E l (nq_rm (n + 1)) cX1_readUnit 4 RX1 wsX1_readUnit) (hr : nq_RT X E (some .boolean) (some (.int r)) K M') (h : fX1_readUnit_L64 g_readNot g_readInside p q x1 x2 M = some (r, M')) : nq_G X E 4 64 [(0, .ref (nq_ad E p)), (1, .int x1), (2, .int x2)] [] K M := by
  unfold fX1_readUnit_L64 at h
  refine nq_iload_n hX rfl 1 rfl dX1_readUnit_64 ?_
  refine nq_iconst hX (v := 5) (by decide) dX1_readUnit_65 ?_
  refine nq_icmp_lt hX (tgt := 71) (by decide) dX1_readUnit_66 (fun c12 => ?_) (fun c12 => ?_)
  · rw [if_pos c12] at h
    refine nq_aload_n hX rfl 0 rfl dX1_readUnit_71 ?_
    refine nq_dup hX rfl dX1_readUnit_72 ?_
    obtain ⟨v13, e13, h⟩ := nq_ltE h
    refine nq_geti hX inX1_readUnit_1 (nq_Reader_0 hL) rfl 4 (by decide) lkX1_readUnit_28 rfl e13 dX1_readUnit_73 ?_
    refine nq_iconst hX (v := 1) (by decide) dX1_readUnit_76 ?_
    refine nq_iadd hX dX1_readUnit_77 ?_
    obtain ⟨M14, eM14, h⟩ := nq_ltE h
    refine nq_puti hX inX1_readUnit_1 tyX1 tyX1_ok nmX1 (nq_Reader_0 hL) rfl 4 (by decide) lkX1_readUnit_28 rfl rfl rfl rfl rfl eM14 dX1_readUnit_78 ?_
    refine nq_iload_n hX rfl 2 rfl dX1_readUnit_81 ?_
    refine nq_bipush hX (v := 33) (by decide) dX1_readUnit_82 ?_
    refine nq_icmp_ne hX (tgt := 97) (by decide) dX1_readUnit_84 (fun c15 => ?_) (fun c15 => ?_)
    · rw [if_pos c15] at h
      refine nq_aload_n hX rfl 0 rfl dX1_readUnit_87 ?_
      refine nq_iload_n hX rfl 1 rfl dX1_readUnit_88 ?_
      refine nq_iconst hX (v := 1) (by decide) dX1_readUnit_89 ?_
      refine nq_iadd hX dX1_readUnit_90 ?_
      obtain ⟨v17, M18, hc16, h⟩ := nq_b2E h
      refine nq_callVi hX (h_readNot hL hc16) gX1_readUnit_X1_readNot rfl rfl dsX1_readNot (nq_room (by decide) (by omega)) (nq_Reader_0 hL) rfl rfl (Nat.le_of_ble_eq_true rfl) dX1_readUnit_91 ?_
      refine nq_goto hX (tgt := 104) (by decide) dX1_readUnit_94 ?_
      obtain ⟨hn19, h⟩ := nq_nzE h
      obtain ⟨rfl, rfl⟩ := nq_sE2 h; exact nq_zret hX hr hn19 dX1_readUnit_104
    · rw [if_neg c15] at h
      refine nq_aload_n hX rfl 0 rfl dX1_readUnit_97 ?_
      refine nq_iload_n hX rfl 1 rfl dX1_readUnit_98 ?_
      refine nq_iconst hX (v := 1) (by decide) dX1_readUnit_99 ?_
      refine nq_iadd hX dX1_readUnit_100 ?_
      obtain ⟨v21, M22, hc20, h⟩ := nq_b2E h
      refine nq_callVi hX (h_readInside hL hc20) gX1_readUnit_X1_readInside rfl rfl dsX1_readInside (nq_room (by decide) (by omega)) (nq_Reader_0 hL) rfl rfl (Nat.le_of_ble_eq_true rfl) dX1_readUnit_101 ?_
      obtain ⟨hn23, h⟩ := nq_nzE h
      obtain ⟨rfl, rfl⟩ := nq_sE2 h; exact nq_zret hX hr hn23 dX1_readUnit_104
  · rw [if_neg c12] at h
    refine nq_iconst hX (v := 0) (by decide) dX1_readUnit_69 ?_
    obtain ⟨rfl, rfl⟩ := nq_sE2 h; exact nq_zret hX hr rfl dX1_readUnit_70
def fX1_readUnit (g_readNot : Nat → Nat → Int32 → Mem → Option (Int32 × Mem)) (g_readInside : Nat → Nat → Int32 → Mem → Option (Int32 × Mem)) (p : Nat) (q : Nat) (x1 : Int32) (M : Mem) : Option (Int32 × Mem) :=
  (fX1_next p q M).bind fun v2 =>
  (fX1_isDigit v2 M).bind fun v4 =>
  if v4 = 0 then
  (nq_lt (M p 5) fun v6 =>
  (nq_gd (decide (v6.toNatClampNeg < 8))).bind fun _ =>
  (fJ0_indexOf_0f7a4 v6.toNatClampNeg v2 M).bind fun v7 =>
  if v7 < 0 then
  (if v2 = (33 : Int32) then
  (fX1_readUnit_L64 g_readNot g_readInside p q x1 v2 M)
  else
  (if v2 = (40 : Int32) then
  (fX1_readUnit_L64 g_readNot g_readInside p q x1 v2 M)
  else
  (some ((0 : Int32), M))))
  else
  (nq_lt (M p 4) fun v25 =>
  nq_lt (nq_wr M p 4 (v25 + (1 : Int32))) fun M26 =>
  (fX1_add p q ((10000 : Int32) + v7) M26).bind fun M28 =>
  some ((1 : Int32), M28)))
  else
  ((fX1_readNumber p q M).bind fun M30 =>
  some ((1 : Int32), M30))
set_option maxHeartbeats 4000000 in
theorem mX1_readUnit {X : Cx} {E : Ev} {l : Launch} {K : List Sh} {n : Nat} {g_readNot : Nat → Nat → Int32 → Mem → Option (Int32 × Mem)} {g_readInside : Nat → Nat → Int32 → Mem → Option (Int32 × Mem)} {p : Nat} {q : Nat} {x1 : Int32} {M : Mem} {r : Int32} {M' : Mem} (hL : nq_atReader E K p q) (h_readNot : ∀ {p : Nat} {q : Nat} {x1 : Int32} {M : Mem} {r : Int32} {M' : Mem} (hL : nq_atReader E K p q), g_readNot p q x1 M = some (r, M') → nq_MA l E yX1_readNot wsX1_readNot (nq_rm n) [.ref (nq_ad E p), .int x1] K M (some (.int r)) K M') (h_readInside : ∀ {p : Nat} {q : Nat} {x1 : Int32} {M : Mem} {r : Int32} {M' : Mem} (hL : nq_atReader E K p q), g_readInside p q x1 M = some (r, M') → nq_MA l E yX1_readInside wsX1_readInside (nq_rm n) [.ref (nq_ad E p), .int x1] K M (some (.int r)) K M') (hn : 8 ≤ n) (hX : nq_OK X E l (nq_rm (n + 1)) cX1_readUnit 4 RX1 wsX1_readUnit) (hr : nq_RT X E (some .boolean) (some (.int r)) K M') (h : fX1_readUnit g_readNot g_readInside p q x1 M = some (r, M')) : nq_G X E 4 0 [(0, .ref (nq_ad E p)), (1, .int x1)] [] K M := by
  unfold fX1_readUnit at h
  refine nq_aload_n hX rfl 0 rfl dX1_readUnit_0 ?_
  obtain ⟨v2, hc1, h⟩ := nq_bE h
  refine nq_callVi hX (tX1_next hL hc1) gX1_readUnit_X1_next rfl rfl dsX1_next (nq_room (by decide) (by omega)) (nq_Reader_0 hL) rfl rfl (Nat.le_of_ble_eq_true rfl) dX1_readUnit_1 ?_
  refine nq_istore_n hX (lv' := [(2, .int v2), (0, .ref (nq_ad E p)), (1, .int x1)]) rfl (by decide) rfl rfl dX1_readUnit_4 ?_
  refine nq_iload_n hX rfl 0 rfl dX1_readUnit_5 ?_
  obtain ⟨v4, hc3, h⟩ := nq_bE h
  refine nq_callSi hX (tX1_isDigit  hc3) gX1_readUnit_X1_isDigit rfl rfl dsX1_isDigit (nq_room (by decide) (by omega)) rfl (Nat.le_of_ble_eq_true rfl) dX1_readUnit_6 ?_
  refine nq_if_eq hX (tgt := 18) (by decide) dX1_readUnit_9 (fun c5 => ?_) (fun c5 => ?_)
  · rw [if_pos c5] at h
    refine nq_aload_n hX rfl 1 rfl dX1_readUnit_18 ?_
    obtain ⟨v6, e6, h⟩ := nq_ltE h
    refine nq_getr (v := .ref (nq_xa E v6.toNatClampNeg)) hX inX1_readUnit_1 (nq_Reader_0 hL) rfl 5 (by decide) lkX1_readUnit_20 _ rfl (by rw [e6]) dX1_readUnit_19 ?_
    refine nq_iload_n hX rfl 0 rfl dX1_readUnit_22 ?_
    obtain ⟨g8, h⟩ := nq_gdE h
    obtain ⟨v7, hc9, h⟩ := nq_bE h
    refine nq_callXi hX (tJ0_indexOf_0f7a4 (of_decide_eq_true g8) hc9) gX1_readUnit_J0_indexOf_0f7a4 rfl rfl dsJ0_indexOf_0f7a4 (nq_room (by decide) (by omega)) (of_decide_eq_true g8) rfl (Nat.le_of_ble_eq_true rfl) dX1_readUnit_23 ?_
    refine nq_istore_n hX (lv' := [(3, .int v7), (2, .int v2), (0, .ref (nq_ad E p)), (1, .int x1)]) rfl (by decide) rfl rfl dX1_readUnit_26 ?_
    refine nq_iload_n hX rfl 0 rfl dX1_readUnit_27 ?_
    refine nq_if_lt hX (tgt := 52) (by decide) dX1_readUnit_28 (fun c10 => ?_) (fun c10 => ?_)
    · rw [if_pos c10] at h
      refine nq_iload_n hX rfl 1 rfl dX1_readUnit_52 ?_
      refine nq_bipush hX (v := 33) (by decide) dX1_readUnit_53 ?_
      refine nq_icmp_eq hX (tgt := 64) (by decide) dX1_readUnit_55 (fun c11 => ?_) (fun c11 => ?_)
      · rw [if_pos c11] at h
        refine nq_sub (lv' := [(0, .ref (nq_ad E p)), (1, .int x1), (2, .int v2)]) [2, 3, 1] rfl ?_
        exact mX1_readUnit_L64 hL h_readNot h_readInside hn hX hr h
      · rw [if_neg c11] at h
        refine nq_iload_n hX rfl 1 rfl dX1_readUnit_58 ?_
        refine nq_bipush hX (v := 40) (by decide) dX1_readUnit_59 ?_
        refine nq_icmp_ne hX (tgt := 69) (by decide) dX1_readUnit_61 (fun c24 => ?_) (fun c24 => ?_)
        · rw [if_pos c24] at h
          refine nq_sub (lv' := [(0, .ref (nq_ad E p)), (1, .int x1), (2, .int v2)]) [2, 3, 1] rfl ?_
          exact mX1_readUnit_L64 hL h_readNot h_readInside hn hX hr h
        · rw [if_neg c24] at h
          refine nq_iconst hX (v := 0) (by decide) dX1_readUnit_69 ?_
          obtain ⟨rfl, rfl⟩ := nq_sE2 h; exact nq_zret hX hr rfl dX1_readUnit_70
    · rw [if_neg c10] at h
      refine nq_aload_n hX rfl 2 rfl dX1_readUnit_31 ?_
      refine nq_dup hX rfl dX1_readUnit_32 ?_
      obtain ⟨v25, e25, h⟩ := nq_ltE h
      refine nq_geti hX inX1_readUnit_1 (nq_Reader_0 hL) rfl 4 (by decide) lkX1_readUnit_28 rfl e25 dX1_readUnit_33 ?_
      refine nq_iconst hX (v := 1) (by decide) dX1_readUnit_36 ?_
      refine nq_iadd hX dX1_readUnit_37 ?_
      obtain ⟨M26, eM26, h⟩ := nq_ltE h
      refine nq_puti hX inX1_readUnit_1 tyX1 tyX1_ok nmX1 (nq_Reader_0 hL) rfl 4 (by decide) lkX1_readUnit_28 rfl rfl rfl rfl rfl eM26 dX1_readUnit_38 ?_
      refine nq_aload_n hX rfl 2 rfl dX1_readUnit_41 ?_
      refine nq_sipush hX (v := 10000) (by decide) dX1_readUnit_42 ?_
      refine nq_iload_n hX rfl 0 rfl dX1_readUnit_45 ?_
      refine nq_iadd hX dX1_readUnit_46 ?_
      obtain ⟨M28, hc27, h⟩ := nq_bE h
      refine nq_callVv hX (tX1_add hL hc27) gX1_readUnit_X1_add rfl rfl dsX1_add (nq_room (by decide) (by omega)) (nq_Reader_0 hL) rfl rfl (Nat.le_of_ble_eq_true rfl) dX1_readUnit_47 ?_
      refine nq_iconst hX (v := 1) (by decide) dX1_readUnit_50 ?_
      obtain ⟨rfl, rfl⟩ := nq_sE2 h; exact nq_zret hX hr rfl dX1_readUnit_51
  · rw [if_neg c5] at h
    refine nq_aload_n hX rfl 1 rfl dX1_readUnit_12 ?_
    obtain ⟨M30, hc29, h⟩ := nq_bE h
    refine nq_callVv hX (tX1_readNumber hL hc29) gX1_readUnit_X1_readNumber rfl rfl dsX1_readNumber (nq_room (by decide) (by omega)) (nq_Reader_0 hL) rfl rfl (Nat.le_of_ble_eq_true rfl) dX1_readUnit_13 ?_
    refine nq_iconst hX (v := 1) (by decide) dX1_readUnit_16 ?_
    obtain ⟨rfl, rfl⟩ := nq_sE2 h; exact nq_zret hX hr rfl dX1_readUnit_17
theorem tX1_readUnit {l : Launch} {E : Ev} {K : List Sh} {n : Nat} {g_readNot : Nat → Nat → Int32 → Mem → Option (Int32 × Mem)} {g_readInside : Nat → Nat → Int32 → Mem → Option (Int32 × Mem)} {p : Nat} {q : Nat} {x1 : Int32} {M : Mem} {r : Int32} {M' : Mem} (hL : nq_atReader E K p q) (h_readNot : ∀ {p : Nat} {q : Nat} {x1 : Int32} {M : Mem} {r : Int32} {M' : Mem} (hL : nq_atReader E K p q), g_readNot p q x1 M = some (r, M') → nq_MA l E yX1_readNot wsX1_readNot (nq_rm n) [.ref (nq_ad E p), .int x1] K M (some (.int r)) K M') (h_readInside : ∀ {p : Nat} {q : Nat} {x1 : Int32} {M : Mem} {r : Int32} {M' : Mem} (hL : nq_atReader E K p q), g_readInside p q x1 M = some (r, M') → nq_MA l E yX1_readInside wsX1_readInside (nq_rm n) [.ref (nq_ad E p), .int x1] K M (some (.int r)) K M') (hn : 8 ≤ n) (h : fX1_readUnit g_readNot g_readInside p q x1 M = some (r, M')) : nq_MA l E yX1_readUnit wsX1_readUnit (nq_rm (n + 1)) [.ref (nq_ad E p), .int x1] K M (some (.int r)) K M' :=
  nq_met (own := RX1) (cc := cX1_readUnit) (maxL := 4) (ret := (some .boolean)) (by decide) rfl rfl (Nat.le_of_ble_eq_true rfl) (fun X hX hr => mX1_readUnit hL h_readNot h_readInside hn hX hr h)

def fX1_readNot (g_readUnit : Nat → Nat → Int32 → Mem → Option (Int32 × Mem)) (p : Nat) (q : Nat) (x1 : Int32) (M : Mem) : Option (Int32 × Mem) :=
  nq_b2 (g_readUnit p q x1 M) fun v2 M3 =>
  if v2 = 0 then
  (some ((0 : Int32), M3))
  else
  ((fX1_add p q (-33 : Int32) M3).bind fun M6 =>
  some ((1 : Int32), M6))
set_option maxHeartbeats 4000000 in
theorem mX1_readNot {X : Cx} {E : Ev} {l : Launch} {K : List Sh} {n : Nat} {g_readUnit : Nat → Nat → Int32 → Mem → Option (Int32 × Mem)} {p : Nat} {q : Nat} {x1 : Int32} {M : Mem} {r : Int32} {M' : Mem} (hL : nq_atReader E K p q) (h_readUnit : ∀ {p : Nat} {q : Nat} {x1 : Int32} {M : Mem} {r : Int32} {M' : Mem} (hL : nq_atReader E K p q), g_readUnit p q x1 M = some (r, M') → nq_MA l E yX1_readUnit wsX1_readUnit (nq_rm n) [.ref (nq_ad E p), .int x1] K M (some (.int r)) K M') (hn : 8 ≤ n) (hX : nq_OK X E l (nq_rm (n + 1)) cX1_readNot 2 RX1 wsX1_readNot) (hr : nq_RT X E (some .boolean) (some (.int r)) K M') (h : fX1_readNot g_readUnit p q x1 M = some (r, M')) : nq_G X E 2 0 [(0, .ref (nq_ad E p)), (1, .int x1)] [] K M := by
  unfold fX1_readNot at h
  refine nq_aload_n hX rfl 0 rfl dX1_readNot_0 ?_
  refine nq_iload_n hX rfl 1 rfl dX1_readNot_1 ?_
  obtain ⟨v2, M3, hc1, h⟩ := nq_b2E h
  refine nq_callVi hX (h_readUnit hL hc1) gX1_readNot_X1_readUnit rfl rfl dsX1_readUnit (nq_room (by decide) (by omega)) (nq_Reader_0 hL) rfl rfl (Nat.le_of_ble_eq_true rfl) dX1_readNot_2 ?_
  refine nq_if_ne hX (tgt := 10) (by decide) dX1_readNot_5 (fun c4 => ?_) (fun c4 => ?_)
  · rw [if_pos c4] at h
    refine nq_iconst hX (v := 0) (by decide) dX1_readNot_8 ?_
    obtain ⟨rfl, rfl⟩ := nq_sE2 h; exact nq_zret hX hr rfl dX1_readNot_9
  · rw [if_neg c4] at h
    refine nq_aload_n hX rfl 0 rfl dX1_readNot_10 ?_
    refine nq_bipush hX (v := -33) (by decide) dX1_readNot_11 ?_
    obtain ⟨M6, hc5, h⟩ := nq_bE h
    refine nq_callVv hX (tX1_add hL hc5) gX1_readNot_X1_add rfl rfl dsX1_add (nq_room (by decide) (by omega)) (nq_Reader_0 hL) rfl rfl (Nat.le_of_ble_eq_true rfl) dX1_readNot_13 ?_
    refine nq_iconst hX (v := 1) (by decide) dX1_readNot_16 ?_
    obtain ⟨rfl, rfl⟩ := nq_sE2 h; exact nq_zret hX hr rfl dX1_readNot_17
theorem tX1_readNot {l : Launch} {E : Ev} {K : List Sh} {n : Nat} {g_readUnit : Nat → Nat → Int32 → Mem → Option (Int32 × Mem)} {p : Nat} {q : Nat} {x1 : Int32} {M : Mem} {r : Int32} {M' : Mem} (hL : nq_atReader E K p q) (h_readUnit : ∀ {p : Nat} {q : Nat} {x1 : Int32} {M : Mem} {r : Int32} {M' : Mem} (hL : nq_atReader E K p q), g_readUnit p q x1 M = some (r, M') → nq_MA l E yX1_readUnit wsX1_readUnit (nq_rm n) [.ref (nq_ad E p), .int x1] K M (some (.int r)) K M') (hn : 8 ≤ n) (h : fX1_readNot g_readUnit p q x1 M = some (r, M')) : nq_MA l E yX1_readNot wsX1_readNot (nq_rm (n + 1)) [.ref (nq_ad E p), .int x1] K M (some (.int r)) K M' :=
  nq_met (own := RX1) (cc := cX1_readNot) (maxL := 2) (ret := (some .boolean)) (by decide) rfl rfl (Nat.le_of_ble_eq_true rfl) (fun X hX hr => mX1_readNot hL h_readUnit hn hX hr h)

theorem inX1_readInside_1 : ∀ w ∈ u_ws RX1 TX1 6, w ∈ wsX1_readInside := by
  intro w h; unfold wsX1_readInside; simp only [List.mem_cons, List.mem_append]; simp only [h, true_or, or_true]
theorem lkX1_readInside_28 : Cond.fieldLink RX1 28 (TX1 4).1 (TX1 4).2.1 (TX1 4).2.2.1 ∈ wsX1_readInside := by decide +kernel
def fX1_readInside (g_readLevel : Nat → Nat → Int32 → Int32 → Mem → Option (Int32 × Mem)) (p : Nat) (q : Nat) (x1 : Int32) (M : Mem) : Option (Int32 × Mem) :=
  nq_b2 (g_readLevel p q (0 : Int32) x1 M) fun v2 M3 =>
  if v2 = 0 then
  (some ((0 : Int32), M3))
  else
  ((fX1_next p q M3).bind fun v6 =>
  if v6 = (41 : Int32) then
  (nq_lt (M3 p 4) fun v8 =>
  nq_lt (nq_wr M3 p 4 (v8 + (1 : Int32))) fun M9 =>
  some ((1 : Int32), M9))
  else
  (some ((0 : Int32), M3)))
set_option maxHeartbeats 4000000 in
theorem mX1_readInside {X : Cx} {E : Ev} {l : Launch} {K : List Sh} {n : Nat} {g_readLevel : Nat → Nat → Int32 → Int32 → Mem → Option (Int32 × Mem)} {p : Nat} {q : Nat} {x1 : Int32} {M : Mem} {r : Int32} {M' : Mem} (hL : nq_atReader E K p q) (h_readLevel : ∀ {p : Nat} {q : Nat} {x1 : Int32} {x2 : Int32} {M : Mem} {r : Int32} {M' : Mem} (hL : nq_atReader E K p q), g_readLevel p q x1 x2 M = some (r, M') → nq_MA l E yX1_readLevel wsX1_readLevel (nq_rm n) [.ref (nq_ad E p), .int x1, .int x2] K M (some (.int r)) K M') (hn : 8 ≤ n) (hX : nq_OK X E l (nq_rm (n + 1)) cX1_readInside 2 RX1 wsX1_readInside) (hr : nq_RT X E (some .boolean) (some (.int r)) K M') (h : fX1_readInside g_readLevel p q x1 M = some (r, M')) : nq_G X E 2 0 [(0, .ref (nq_ad E p)), (1, .int x1)] [] K M := by
  unfold fX1_readInside at h
  refine nq_aload_n hX rfl 0 rfl dX1_readInside_0 ?_
  refine nq_iconst hX (v := 0) (by decide) dX1_readInside_1 ?_
  refine nq_iload_n hX rfl 1 rfl dX1_readInside_2 ?_
  obtain ⟨v2, M3, hc1, h⟩ := nq_b2E h
  refine nq_callVi hX (h_readLevel hL hc1) gX1_readInside_X1_readLevel rfl rfl dsX1_readLevel (nq_room (by decide) (by omega)) (nq_Reader_0 hL) rfl rfl (Nat.le_of_ble_eq_true rfl) dX1_readInside_3 ?_
  refine nq_if_eq hX (tgt := 18) (by decide) dX1_readInside_6 (fun c4 => ?_) (fun c4 => ?_)
  · rw [if_pos c4] at h
    refine nq_iconst hX (v := 0) (by decide) dX1_readInside_18 ?_
    obtain ⟨rfl, rfl⟩ := nq_sE2 h; exact nq_zret hX hr rfl dX1_readInside_19
  · rw [if_neg c4] at h
    refine nq_aload_n hX rfl 0 rfl dX1_readInside_9 ?_
    obtain ⟨v6, hc5, h⟩ := nq_bE h
    refine nq_callVi hX (tX1_next hL hc5) gX1_readInside_X1_next rfl rfl dsX1_next (nq_room (by decide) (by omega)) (nq_Reader_0 hL) rfl rfl (Nat.le_of_ble_eq_true rfl) dX1_readInside_10 ?_
    refine nq_bipush hX (v := 41) (by decide) dX1_readInside_13 ?_
    refine nq_icmp_eq hX (tgt := 20) (by decide) dX1_readInside_15 (fun c7 => ?_) (fun c7 => ?_)
    · rw [if_pos c7] at h
      refine nq_aload_n hX rfl 0 rfl dX1_readInside_20 ?_
      refine nq_dup hX rfl dX1_readInside_21 ?_
      obtain ⟨v8, e8, h⟩ := nq_ltE h
      refine nq_geti hX inX1_readInside_1 (nq_Reader_0 hL) rfl 4 (by decide) lkX1_readInside_28 rfl e8 dX1_readInside_22 ?_
      refine nq_iconst hX (v := 1) (by decide) dX1_readInside_25 ?_
      refine nq_iadd hX dX1_readInside_26 ?_
      obtain ⟨M9, eM9, h⟩ := nq_ltE h
      refine nq_puti hX inX1_readInside_1 tyX1 tyX1_ok nmX1 (nq_Reader_0 hL) rfl 4 (by decide) lkX1_readInside_28 rfl rfl rfl rfl rfl eM9 dX1_readInside_27 ?_
      refine nq_iconst hX (v := 1) (by decide) dX1_readInside_30 ?_
      obtain ⟨rfl, rfl⟩ := nq_sE2 h; exact nq_zret hX hr rfl dX1_readInside_31
    · rw [if_neg c7] at h
      refine nq_iconst hX (v := 0) (by decide) dX1_readInside_18 ?_
      obtain ⟨rfl, rfl⟩ := nq_sE2 h; exact nq_zret hX hr rfl dX1_readInside_19
theorem tX1_readInside {l : Launch} {E : Ev} {K : List Sh} {n : Nat} {g_readLevel : Nat → Nat → Int32 → Int32 → Mem → Option (Int32 × Mem)} {p : Nat} {q : Nat} {x1 : Int32} {M : Mem} {r : Int32} {M' : Mem} (hL : nq_atReader E K p q) (h_readLevel : ∀ {p : Nat} {q : Nat} {x1 : Int32} {x2 : Int32} {M : Mem} {r : Int32} {M' : Mem} (hL : nq_atReader E K p q), g_readLevel p q x1 x2 M = some (r, M') → nq_MA l E yX1_readLevel wsX1_readLevel (nq_rm n) [.ref (nq_ad E p), .int x1, .int x2] K M (some (.int r)) K M') (hn : 8 ≤ n) (h : fX1_readInside g_readLevel p q x1 M = some (r, M')) : nq_MA l E yX1_readInside wsX1_readInside (nq_rm (n + 1)) [.ref (nq_ad E p), .int x1] K M (some (.int r)) K M' :=
  nq_met (own := RX1) (cc := cX1_readInside) (maxL := 2) (ret := (some .boolean)) (by decide) rfl rfl (Nat.le_of_ble_eq_true rfl) (fun X hX hr => mX1_readInside hL h_readLevel hn hX hr h)

def gRd_step (g : (Nat → Nat → Int32 → Int32 → Mem → Option (Int32 × Mem)) × (Nat → Nat → Int32 → Mem → Option (Int32 × Mem)) × (Nat → Nat → Int32 → Mem → Option (Int32 × Mem)) × (Nat → Nat → Int32 → Mem → Option (Int32 × Mem))) : (Nat → Nat → Int32 → Int32 → Mem → Option (Int32 × Mem)) × (Nat → Nat → Int32 → Mem → Option (Int32 × Mem)) × (Nat → Nat → Int32 → Mem → Option (Int32 × Mem)) × (Nat → Nat → Int32 → Mem → Option (Int32 × Mem)) := ((fX1_readLevel g.2.1 g.1), (fX1_readUnit g.2.2.1 g.2.2.2), (fX1_readNot g.2.1), (fX1_readInside g.1))
def gRd_all : Nat → (Nat → Nat → Int32 → Int32 → Mem → Option (Int32 × Mem)) × (Nat → Nat → Int32 → Mem → Option (Int32 × Mem)) × (Nat → Nat → Int32 → Mem → Option (Int32 × Mem)) × (Nat → Nat → Int32 → Mem → Option (Int32 × Mem))
  | 0 => (fun _ _ _ _ _ => none, fun _ _ _ _ => none, fun _ _ _ _ => none, fun _ _ _ _ => none)
  | d + 1 => gRd_step (gRd_all d)
theorem gRd_ok {l : Launch} {E : Ev} {K : List Sh} : ∀ d : Nat, (∀ {p : Nat} {q : Nat} {x1 : Int32} {x2 : Int32} {M : Mem} {r : Int32} {M' : Mem} (hL : nq_atReader E K p q), ((gRd_all d).1) p q x1 x2 M = some (r, M') → nq_MA l E yX1_readLevel wsX1_readLevel (nq_rm (8 + d)) [.ref (nq_ad E p), .int x1, .int x2] K M (some (.int r)) K M') ∧
  (∀ {p : Nat} {q : Nat} {x1 : Int32} {M : Mem} {r : Int32} {M' : Mem} (hL : nq_atReader E K p q), ((gRd_all d).2.1) p q x1 M = some (r, M') → nq_MA l E yX1_readUnit wsX1_readUnit (nq_rm (8 + d)) [.ref (nq_ad E p), .int x1] K M (some (.int r)) K M') ∧
  (∀ {p : Nat} {q : Nat} {x1 : Int32} {M : Mem} {r : Int32} {M' : Mem} (hL : nq_atReader E K p q), ((gRd_all d).2.2.1) p q x1 M = some (r, M') → nq_MA l E yX1_readNot wsX1_readNot (nq_rm (8 + d)) [.ref (nq_ad E p), .int x1] K M (some (.int r)) K M') ∧
  (∀ {p : Nat} {q : Nat} {x1 : Int32} {M : Mem} {r : Int32} {M' : Mem} (hL : nq_atReader E K p q), ((gRd_all d).2.2.2) p q x1 M = some (r, M') → nq_MA l E yX1_readInside wsX1_readInside (nq_rm (8 + d)) [.ref (nq_ad E p), .int x1] K M (some (.int r)) K M') := by
  intro d
  induction d with
  | zero => exact ⟨(by intros; rename_i h; cases h), (by intros; rename_i h; cases h), (by intros; rename_i h; cases h), (by intros; rename_i h; cases h)⟩
  | succ d ih =>
    obtain ⟨i0, i1, i2, i3⟩ := ih
    exact ⟨(by
      intro _ _ _ _ _ _ _ h0 h
      exact tX1_readLevel (n := 8 + d) h0 i1 i0 (by omega) h),
     (by
      intro _ _ _ _ _ _ h0 h
      exact tX1_readUnit (n := 8 + d) h0 i2 i3 (by omega) h),
     (by
      intro _ _ _ _ _ _ h0 h
      exact tX1_readNot (n := 8 + d) h0 i1 (by omega) h),
     (by
      intro _ _ _ _ _ _ h0 h
      exact tX1_readInside (n := 8 + d) h0 i0 (by omega) h)⟩
def fX1_readLevelC : Nat → Nat → Int32 → Int32 → Mem → Option (Int32 × Mem) := (gRd_all 100).1
theorem tX1_readLevelC {l : Launch} {E : Ev} {K : List Sh} {p : Nat} {q : Nat} {x1 : Int32} {x2 : Int32} {M : Mem} {r : Int32} {M' : Mem} (hL : nq_atReader E K p q) (h : fX1_readLevelC p q x1 x2 M = some (r, M')) : nq_MA l E yX1_readLevel wsX1_readLevel (nq_rm 108) [.ref (nq_ad E p), .int x1, .int x2] K M (some (.int r)) K M' := (gRd_ok (l := l) (E := E) (K := K) 100).1 hL h
def fX1_readUnitC : Nat → Nat → Int32 → Mem → Option (Int32 × Mem) := (gRd_all 100).2.1
theorem tX1_readUnitC {l : Launch} {E : Ev} {K : List Sh} {p : Nat} {q : Nat} {x1 : Int32} {M : Mem} {r : Int32} {M' : Mem} (hL : nq_atReader E K p q) (h : fX1_readUnitC p q x1 M = some (r, M')) : nq_MA l E yX1_readUnit wsX1_readUnit (nq_rm 108) [.ref (nq_ad E p), .int x1] K M (some (.int r)) K M' := (gRd_ok (l := l) (E := E) (K := K) 100).2.1 hL h
def fX1_readNotC : Nat → Nat → Int32 → Mem → Option (Int32 × Mem) := (gRd_all 100).2.2.1
theorem tX1_readNotC {l : Launch} {E : Ev} {K : List Sh} {p : Nat} {q : Nat} {x1 : Int32} {M : Mem} {r : Int32} {M' : Mem} (hL : nq_atReader E K p q) (h : fX1_readNotC p q x1 M = some (r, M')) : nq_MA l E yX1_readNot wsX1_readNot (nq_rm 108) [.ref (nq_ad E p), .int x1] K M (some (.int r)) K M' := (gRd_ok (l := l) (E := E) (K := K) 100).2.2.1 hL h
def fX1_readInsideC : Nat → Nat → Int32 → Mem → Option (Int32 × Mem) := (gRd_all 100).2.2.2
theorem tX1_readInsideC {l : Launch} {E : Ev} {K : List Sh} {p : Nat} {q : Nat} {x1 : Int32} {M : Mem} {r : Int32} {M' : Mem} (hL : nq_atReader E K p q) (h : fX1_readInsideC p q x1 M = some (r, M')) : nq_MA l E yX1_readInside wsX1_readInside (nq_rm 108) [.ref (nq_ad E p), .int x1] K M (some (.int r)) K M' := (gRd_ok (l := l) (E := E) (K := K) 100).2.2.2 hL h

theorem inX1_read_1 : ∀ w ∈ u_ws RX1 TX1 6, w ∈ wsX1_read := by
  intro w h; unfold wsX1_read; simp only [List.mem_cons, List.mem_append]; simp only [h, true_or, or_true]
theorem lkX1_read_15 : Cond.fieldLink RX1 15 (TX1 2).1 (TX1 2).2.1 (TX1 2).2.2.1 ∈ wsX1_read := by decide +kernel
theorem lkX1_read_24 : Cond.fieldLink RX1 24 (TX1 3).1 (TX1 3).2.1 (TX1 3).2.2.1 ∈ wsX1_read := by decide +kernel
theorem lkX1_read_20 : Cond.fieldLink RX1 20 (TX1 5).1 (TX1 5).2.1 (TX1 5).2.2.1 ∈ wsX1_read := by decide +kernel
theorem lkX1_read_28 : Cond.fieldLink RX1 28 (TX1 4).1 (TX1 4).2.1 (TX1 4).2.2.1 ∈ wsX1_read := by decide +kernel
theorem lkX1_read_31 : Cond.fieldLink RX1 31 (TX1 1).1 (TX1 1).2.1 (TX1 1).2.2.1 ∈ wsX1_read := by decide +kernel
def fX1_read (p : Nat) (q : Nat) (x2 : Int32) (x3 : Int32) (M : Mem) : Option (Int32 × Mem) :=
  nq_lt (nq_wr M p 2 1) fun M1 =>
  nq_lt (nq_wr M1 p 3 x2) fun M2 =>
  nq_lt (nq_wr M2 p 5 x3) fun M3 =>
  nq_lt (nq_wr M3 p 4 (0 : Int32)) fun M4 =>
  nq_lt (nq_wr M4 p 1 (0 : Int32)) fun M5 =>
  nq_b2 (fX1_readLevelC p q (0 : Int32) (0 : Int32) M5) fun v7 M8 =>
  if v7 = 0 then
  (nq_lt (M8 p 4) fun v10 =>
  some (v10, M8))
  else
  (nq_lt (M8 p 4) fun v11 =>
  nq_lt (M8 p 3) fun v12 =>
  if v11 = v12 then
  (some ((-1 : Int32), M8))
  else
  (nq_lt (M8 p 4) fun v14 =>
  some (v14, M8)))
set_option maxHeartbeats 4000000 in
theorem mX1_read {X : Cx} {E : Ev} {l : Launch} {K : List Sh} {p : Nat} {q : Nat} {x2 : Int32} {x3 : Int32} {M : Mem} {r : Int32} {M' : Mem} (hL : nq_atReader E K p q) (hX : nq_OK X E l (nq_rm 109) cX1_read 4 RX1 wsX1_read) (hr : nq_RT X E (some .int) (some (.int r)) K M') (h : fX1_read p q x2 x3 M = some (r, M')) : nq_G X E 4 0 [(0, .ref (nq_ad E p)), (1, .ref (nq_ad E q)), (2, .int x2), (3, .ref (nq_xa E x3.toNatClampNeg))] [] K M := by
  unfold fX1_read at h
  refine nq_aload_n hX rfl 0 rfl dX1_read_0 ?_
  refine nq_aload_n hX rfl 1 rfl dX1_read_1 ?_
  obtain ⟨M1, eM1, h⟩ := nq_ltE h
  refine nq_putr hX inX1_read_1 tyX1 tyX1_ok nmX1 (nq_Reader_0 hL) rfl 2 (by decide) lkX1_read_15 rfl rfl rfl _ 1 rfl rfl eM1 dX1_read_2 ?_
  refine nq_aload_n hX rfl 0 rfl dX1_read_5 ?_
  refine nq_iload_n hX rfl 2 rfl dX1_read_6 ?_
  obtain ⟨M2, eM2, h⟩ := nq_ltE h
  refine nq_puti hX inX1_read_1 tyX1 tyX1_ok nmX1 (nq_Reader_0 hL) rfl 3 (by decide) lkX1_read_24 rfl rfl rfl rfl rfl eM2 dX1_read_7 ?_
  refine nq_aload_n hX rfl 0 rfl dX1_read_10 ?_
  refine nq_aload_n hX rfl 3 rfl dX1_read_11 ?_
  obtain ⟨M3, eM3, h⟩ := nq_ltE h
  refine nq_putr hX inX1_read_1 tyX1 tyX1_ok nmX1 (nq_Reader_0 hL) rfl 5 (by decide) lkX1_read_20 rfl rfl rfl _ x3 rfl rfl eM3 dX1_read_12 ?_
  refine nq_aload_n hX rfl 0 rfl dX1_read_15 ?_
  refine nq_iconst hX (v := 0) (by decide) dX1_read_16 ?_
  obtain ⟨M4, eM4, h⟩ := nq_ltE h
  refine nq_puti hX inX1_read_1 tyX1 tyX1_ok nmX1 (nq_Reader_0 hL) rfl 4 (by decide) lkX1_read_28 rfl rfl rfl rfl rfl eM4 dX1_read_17 ?_
  refine nq_aload_n hX rfl 0 rfl dX1_read_20 ?_
  refine nq_iconst hX (v := 0) (by decide) dX1_read_21 ?_
  obtain ⟨M5, eM5, h⟩ := nq_ltE h
  refine nq_puti hX inX1_read_1 tyX1 tyX1_ok nmX1 (nq_Reader_0 hL) rfl 1 (by decide) lkX1_read_31 rfl rfl rfl rfl rfl eM5 dX1_read_22 ?_
  refine nq_aload_n hX rfl 0 rfl dX1_read_25 ?_
  refine nq_iconst hX (v := 0) (by decide) dX1_read_26 ?_
  refine nq_iconst hX (v := 0) (by decide) dX1_read_27 ?_
  obtain ⟨v7, M8, hc6, h⟩ := nq_b2E h
  refine nq_callVi hX (tX1_readLevelC hL hc6) gX1_read_X1_readLevel rfl rfl dsX1_readLevel (by decide) (nq_Reader_0 hL) rfl rfl (Nat.le_of_ble_eq_true rfl) dX1_read_28 ?_
  refine nq_if_eq hX (tgt := 49) (by decide) dX1_read_31 (fun c9 => ?_) (fun c9 => ?_)
  · rw [if_pos c9] at h
    refine nq_aload_n hX rfl 0 rfl dX1_read_49 ?_
    obtain ⟨v10, e10, h⟩ := nq_ltE h
    refine nq_geti hX inX1_read_1 (nq_Reader_0 hL) rfl 4 (by decide) lkX1_read_28 rfl e10 dX1_read_50 ?_
    obtain ⟨rfl, rfl⟩ := nq_sE2 h; exact nq_iret hX hr dX1_read_53
  · rw [if_neg c9] at h
    refine nq_aload_n hX rfl 0 rfl dX1_read_34 ?_
    obtain ⟨v11, e11, h⟩ := nq_ltE h
    refine nq_geti hX inX1_read_1 (nq_Reader_0 hL) rfl 4 (by decide) lkX1_read_28 rfl e11 dX1_read_35 ?_
    refine nq_aload_n hX rfl 0 rfl dX1_read_38 ?_
    obtain ⟨v12, e12, h⟩ := nq_ltE h
    refine nq_geti hX inX1_read_1 (nq_Reader_0 hL) rfl 3 (by decide) lkX1_read_24 rfl e12 dX1_read_39 ?_
    refine nq_icmp_ne hX (tgt := 49) (by decide) dX1_read_42 (fun c13 => ?_) (fun c13 => ?_)
    · rw [if_pos c13] at h
      refine nq_iconst hX (v := -1) (by decide) dX1_read_45 ?_
      refine nq_goto hX (tgt := 53) (by decide) dX1_read_46 ?_
      obtain ⟨rfl, rfl⟩ := nq_sE2 h; exact nq_iret hX hr dX1_read_53
    · rw [if_neg c13] at h
      refine nq_aload_n hX rfl 0 rfl dX1_read_49 ?_
      obtain ⟨v14, e14, h⟩ := nq_ltE h
      refine nq_geti hX inX1_read_1 (nq_Reader_0 hL) rfl 4 (by decide) lkX1_read_28 rfl e14 dX1_read_50 ?_
      obtain ⟨rfl, rfl⟩ := nq_sE2 h; exact nq_iret hX hr dX1_read_53
theorem dsX1_read : yX1_read.cls ≠ "java/lang/invoke/MethodHandle" ∧ yX1_read.cls ≠ "java/lang/invoke/VarHandle" ∧ (parseMethodDescriptor yX1_read.desc).map (fun d => d.parameters.length) = some 3 := by decide +kernel
theorem tX1_read {l : Launch} {E : Ev} {K : List Sh} {p : Nat} {q : Nat} {x2 : Int32} {x3 : Int32} {M : Mem} {r : Int32} {M' : Mem} (hL : nq_atReader E K p q) (h : fX1_read p q x2 x3 M = some (r, M')) : nq_MA l E yX1_read wsX1_read (nq_rm 109) [.ref (nq_ad E p), .ref (nq_ad E q), .int x2, .ref (nq_xa E x3.toNatClampNeg)] K M (some (.int r)) K M' :=
  nq_met (own := RX1) (cc := cX1_read) (maxL := 4) (ret := (some .int)) (by decide) rfl rfl (Nat.le_of_ble_eq_true rfl) (fun X hX hr => mX1_read hL hX hr h)

