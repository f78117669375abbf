/-! printed by dec.py: Voices 0 -/
theorem inX6_begin_6 : ∀ w ∈ u_ws RX6 TX6 5, w ∈ wsX6_begin := by
  intro w h; unfold wsX6_begin; simp only [List.mem_cons, List.mem_append]; simp only [h, true_or, or_true]
theorem lkX6_begin_19 : Cond.fieldLink RX6 19 (TX6 2).1 (TX6 2).2.1 (TX6 2).2.2.1 ∈ wsX6_begin := by decide +kernel
theorem lkX6_begin_22 : Cond.fieldLink RX6 22 (TX6 3).1 (TX6 3).2.1 (TX6 3).2.2.1 ∈ wsX6_begin := by decide +kernel
theorem lkX6_begin_25 : Cond.fieldLink RX6 25 (TX6 4).1 (TX6 4).2.1 (TX6 4).2.2.1 ∈ wsX6_begin := by decide +kernel
theorem lkX6_begin_15 : Cond.fieldLink RX6 15 (TX6 1).1 (TX6 1).2.1 (TX6 1).2.2.1 ∈ wsX6_begin := by decide +kernel
def fX6_begin (p : Nat) (x1 : Int32) (x2 : Int32) (x3 : Int32) (M : Mem) : Option (Mem) :=
  nq_lt (nq_wr M p 2 x1) fun M1 =>
  nq_lt (nq_wr M1 p 3 x2) fun M2 =>
  nq_lt (nq_wr M2 p 4 x3) fun M3 =>
  nq_lt (nq_wr M3 p 1 (0 : Int32)) fun M4 =>
  some M4
set_option maxHeartbeats 4000000 in
theorem mX6_begin {X : Cx} {E : Ev} {l : Launch} {K : List Sh} {p : Nat} {x1 : Int32} {x2 : Int32} {x3 : Int32} {M : Mem} {M' : Mem} (hL : nq_atVoices E K p) (hX : nq_OK X E l (nq_rm 1) cX6_begin 4 RX6 wsX6_begin) (hr : nq_RT X E none none K M') (h : fX6_begin p x1 x2 x3 M = some M') : nq_G X E 4 0 [(0, .ref (nq_ad E p)), (1, .int x1), (2, .int x2), (3, .int x3)] [] K M := by
  unfold fX6_begin at h
  refine nq_aload_n hX rfl 0 rfl dX6_begin_0 ?_
  refine nq_iload_n hX rfl 1 rfl dX6_begin_1 ?_
  obtain ⟨M1, eM1, h⟩ := nq_ltE h
  refine nq_puti hX inX6_begin_6 tyX6 tyX6_ok nmX6 (nq_Voices_0 hL) rfl 2 (by decide) lkX6_begin_19 rfl rfl rfl rfl rfl eM1 dX6_begin_2 ?_
  refine nq_aload_n hX rfl 0 rfl dX6_begin_5 ?_
  refine nq_iload_n hX rfl 2 rfl dX6_begin_6 ?_
  obtain ⟨M2, eM2, h⟩ := nq_ltE h
  refine nq_puti hX inX6_begin_6 tyX6 tyX6_ok nmX6 (nq_Voices_0 hL) rfl 3 (by decide) lkX6_begin_22 rfl rfl rfl rfl rfl eM2 dX6_begin_7 ?_
  refine nq_aload_n hX rfl 0 rfl dX6_begin_10 ?_
  refine nq_iload_n hX rfl 3 rfl dX6_begin_11 ?_
  obtain ⟨M3, eM3, h⟩ := nq_ltE h
  refine nq_puti hX inX6_begin_6 tyX6 tyX6_ok nmX6 (nq_Voices_0 hL) rfl 4 (by decide) lkX6_begin_25 rfl rfl rfl rfl rfl eM3 dX6_begin_12 ?_
  refine nq_aload_n hX rfl 0 rfl dX6_begin_15 ?_
  refine nq_iconst hX (v := 0) (by decide) dX6_begin_16 ?_
  obtain ⟨M4, eM4, h⟩ := nq_ltE h
  refine nq_puti hX inX6_begin_6 tyX6 tyX6_ok nmX6 (nq_Voices_0 hL) rfl 1 (by decide) lkX6_begin_15 rfl rfl rfl rfl rfl eM4 dX6_begin_17 ?_
  obtain rfl := nq_sE1 h; exact nq_vret hX hr dX6_begin_20
theorem dsX6_begin : yX6_begin.cls ≠ "java/lang/invoke/MethodHandle" ∧ yX6_begin.cls ≠ "java/lang/invoke/VarHandle" ∧ (parseMethodDescriptor yX6_begin.desc).map (fun d => d.parameters.length) = some 3 := by decide +kernel
theorem tX6_begin {l : Launch} {E : Ev} {K : List Sh} {p : Nat} {x1 : Int32} {x2 : Int32} {x3 : Int32} {M : Mem} {M' : Mem} (hL : nq_atVoices E K p) (h : fX6_begin p x1 x2 x3 M = some M') : nq_MA l E yX6_begin wsX6_begin (nq_rm 1) [.ref (nq_ad E p), .int x1, .int x2, .int x3] K M none K M' :=
  nq_met (own := RX6) (cc := cX6_begin) (maxL := 4) (ret := none) (by decide) rfl rfl (Nat.le_of_ble_eq_true rfl) (fun X hX hr => mX6_begin hL hX hr h)

theorem mmX6_bodyOf_s39 : Cond.fieldLink RX6 39 "NineYears$Voices" "BODIES" "[I" ∈ wsX6_bodyOf := by decide +kernel
def fX6_bodyOf_B4 (x1 : Int32) (x2 : Int32) (x3 : Int32) (M : Mem) : Option ((Int32 × Int32) ⊕ (Int32)) :=
  if (7 : Int32) ≤ x3 then
  (some (.inr x2))
  else
  (if x2 ≤ 0 then
  (some (.inr x2))
  else
  ((nq_ag nq_bo 28 ((x2 * (4 : Int32)) + x1)).bind fun v3 =>
  if v3 = 0 then
  ((nq_ag nq_ka 7 x2).bind fun v5 =>
  nq_lt (x3 + (1 : Int32)) fun v6 =>
  some (.inl (v5, v6)))
  else
  (some (.inr x2))))
set_option maxHeartbeats 4000000 in
theorem mX6_bodyOf_B4 {X : Cx} {E : Ev} {l : Launch} {K : List Sh} {x1 : Int32} {x2 : Int32} {x3 : Int32} {M : Mem}  (hX : nq_OK X E l (nq_rm 1) cX6_bodyOf 4 RX6 wsX6_bodyOf) {x : (Int32 × Int32) ⊕ (Int32)} (hc : ∀ s' : Int32 × Int32, x = .inl s' → nq_G X E 4 4 [(1, .int x1), (2, .int s'.1), (3, .int s'.2)] [] K M) (he : ∀ s' : Int32, x = .inr s' → nq_G X E 4 40 [(1, .int x1), (2, .int s')] [] K M) (h : fX6_bodyOf_B4 x1 x2 x3 M = some x) : nq_G X E 4 4 [(1, .int x1), (2, .int x2), (3, .int x3)] [] K M := by
  unfold fX6_bodyOf_B4 at h
  refine nq_iload_n hX rfl 2 rfl dX6_bodyOf_4 ?_
  refine nq_getsKAN hX rfl dX6_bodyOf_5 ?_
  refine nq_tlKA hX (v := 7) (by decide) dX6_bodyOf_8 ?_
  refine nq_icmp_ge hX (tgt := 40) (by decide) dX6_bodyOf_9 (fun c1 => ?_) (fun c1 => ?_)
  · rw [if_pos c1] at h
    refine nq_sub (lv' := [(1, .int x1), (2, .int x2)]) [0, 1] rfl ?_
    exact he x2 (nq_sE h).symm
  · rw [if_neg c1] at h
    refine nq_iload_n hX rfl 1 rfl dX6_bodyOf_12 ?_
    refine nq_if_le hX (tgt := 40) (by decide) dX6_bodyOf_13 (fun c2 => ?_) (fun c2 => ?_)
    · rw [if_pos c2] at h
      refine nq_sub (lv' := [(1, .int x1), (2, .int x2)]) [0, 1] rfl ?_
      exact he x2 (nq_sE h).symm
    · rw [if_neg c2] at h
      refine nq_getsBO hX mmX6_bodyOf_s39 dX6_bodyOf_16 ?_
      refine nq_iload_n hX rfl 1 rfl dX6_bodyOf_19 ?_
      refine nq_iconst hX (v := 4) (by decide) dX6_bodyOf_20 ?_
      refine nq_imul hX dX6_bodyOf_21 ?_
      refine nq_iload_n hX rfl 0 rfl dX6_bodyOf_22 ?_
      refine nq_iadd hX dX6_bodyOf_23 ?_
      obtain ⟨v3, e3, hi3, h⟩ := nq_agE h
      refine nq_tiBO hX e3 hi3 dX6_bodyOf_24 ?_
      refine nq_if_ne hX (tgt := 40) (by decide) dX6_bodyOf_25 (fun c4 => ?_) (fun c4 => ?_)
      · rw [if_pos c4] at h
        refine nq_getsKAN hX rfl dX6_bodyOf_28 ?_
        refine nq_iload_n hX rfl 1 rfl dX6_bodyOf_31 ?_
        obtain ⟨v5, e5, hi5, h⟩ := nq_agE h
        refine nq_tiKA hX e5 hi5 dX6_bodyOf_32 ?_
        refine nq_istore_n hX (lv' := [(2, .int v5), (1, .int x1), (3, .int x3)]) rfl (by decide) rfl rfl dX6_bodyOf_33 ?_
        obtain ⟨v6, e6, h⟩ := nq_ltE h
        refine nq_iinc hX (lv' := [(3, .int v6), (2, .int v5), (1, .int x1)]) (j := 2) rfl (e6.trans rfl) (by decide) rfl dX6_bodyOf_34 ?_
        refine nq_goto hX (tgt := 4) (by decide) dX6_bodyOf_37 ?_
        refine nq_sub (lv' := [(1, .int x1), (2, .int v5), (3, .int v6)]) [2, 1, 0] rfl ?_
        exact hc (v5, v6) (nq_sE h).symm
      · rw [if_neg c4] at h
        refine nq_sub (lv' := [(1, .int x1), (2, .int x2)]) [0, 1] rfl ?_
        exact he x2 (nq_sE h).symm
def fX6_bodyOf_L40 (x1 : Int32) (x2 : Int32) (M : Mem) : Option (Int32) :=
  (nq_ag nq_bo 28 ((x2 * (4 : Int32)) + x1)).bind fun v7 =>
  some v7
set_option maxHeartbeats 4000000 in
theorem mX6_bodyOf_L40 {X : Cx} {E : Ev} {l : Launch} {K : List Sh} {x1 : Int32} {x2 : Int32} {M : Mem} {r : Int32}  (hX : nq_OK X E l (nq_rm 1) cX6_bodyOf 4 RX6 wsX6_bodyOf) (hr : nq_RT X E (some .int) (some (.int r)) K M) (h : fX6_bodyOf_L40 x1 x2 M = some r) : nq_G X E 4 40 [(1, .int x1), (2, .int x2)] [] K M := by
  unfold fX6_bodyOf_L40 at h
  refine nq_getsBO hX mmX6_bodyOf_s39 dX6_bodyOf_40 ?_
  refine nq_iload_n hX rfl 1 rfl dX6_bodyOf_43 ?_
  refine nq_iconst hX (v := 4) (by decide) dX6_bodyOf_44 ?_
  refine nq_imul hX dX6_bodyOf_45 ?_
  refine nq_iload_n hX rfl 0 rfl dX6_bodyOf_46 ?_
  refine nq_iadd hX dX6_bodyOf_47 ?_
  obtain ⟨v7, e7, hi7, h⟩ := nq_agE h
  refine nq_tiBO hX e7 hi7 dX6_bodyOf_48 ?_
  obtain rfl := nq_sE1 h; exact nq_iret hX hr dX6_bodyOf_49
def fX6_bodyOf_L4 (x1 : Int32) (x2 : Int32) (x3 : Int32) (M : Mem) : Option (Int32) :=
  (nq_lp (fun s : Int32 × Int32 => fX6_bodyOf_B4 x1 s.1 s.2 M) nq_fuel (x2, x3)).bind (fun e => fX6_bodyOf_L40 x1 e M)
set_option maxHeartbeats 4000000 in
theorem mX6_bodyOf_L4 {X : Cx} {E : Ev} {l : Launch} {K : List Sh} {x1 : Int32} {x2 : Int32} {x3 : Int32} {M : Mem} {r : Int32}  (hX : nq_OK X E l (nq_rm 1) cX6_bodyOf 4 RX6 wsX6_bodyOf) (hr : nq_RT X E (some .int) (some (.int r)) K M) (h : fX6_bodyOf_L4 x1 x2 x3 M = some r) : nq_G X E 4 4 [(1, .int x1), (2, .int x2), (3, .int x3)] [] K M := by
  unfold fX6_bodyOf_L4 at h
  obtain ⟨e, h1, h⟩ := nq_bE h
  have key : ∀ (ex : Int32), nq_lp (fun s : Int32 × Int32 => fX6_bodyOf_B4 x1 s.1 s.2 M) nq_fuel (x2, x3) = some ex → (∀ e, ex = e → nq_G X E 4 40 [(1, .int x1), (2, .int e)] [] K M) → nq_G X E 4 4 [(1, .int x1), (2, .int ((x2, x3).1)), (3, .int ((x2, x3).2))] [] K M := by
    intro ex h1 hE
    refine nq_lpE (P := fun s : Int32 × Int32 => nq_G X E 4 4 [(1, .int x1), (2, .int s.1), (3, .int s.2)] [] K M) (r := ex) ?_ nq_fuel (x2, x3) h1
    intro s xx hx1 hc1 he1
    exact mX6_bodyOf_B4  hX hc1 (fun e q => hE e (he1 _ q).symm) hx1
  refine key e h1 (fun e q => ?_)
  subst q
  exact mX6_bodyOf_L40  hX hr h
def fX6_bodyOf (x0 : Int32) (x1 : Int32) (M : Mem) : Option (Int32) :=
  fX6_bodyOf_L4 x1 x0 (0 : Int32) M
set_option maxHeartbeats 4000000 in
theorem mX6_bodyOf {X : Cx} {E : Ev} {l : Launch} {K : List Sh} {x0 : Int32} {x1 : Int32} {M : Mem} {r : Int32}  (hX : nq_OK X E l (nq_rm 1) cX6_bodyOf 4 RX6 wsX6_bodyOf) (hr : nq_RT X E (some .int) (some (.int r)) K M) (h : fX6_bodyOf x0 x1 M = some r) : nq_G X E 4 0 [(0, .int x0), (1, .int x1)] [] K M := by
  unfold fX6_bodyOf at h
  refine nq_iload_n hX rfl 0 rfl dX6_bodyOf_0 ?_
  refine nq_istore_n hX (lv' := [(2, .int x0), (0, .int x0), (1, .int x1)]) rfl (by decide) rfl rfl dX6_bodyOf_1 ?_
  refine nq_iconst hX (v := 0) (by decide) dX6_bodyOf_2 ?_
  refine nq_istore_n hX (lv' := [(3, .int (0 : Int32)), (2, .int x0), (0, .int x0), (1, .int x1)]) rfl (by decide) rfl rfl dX6_bodyOf_3 ?_
  refine nq_sub (lv' := [(1, .int x1), (2, .int x0), (3, .int (0 : Int32))]) [3, 1, 0] rfl ?_
  exact mX6_bodyOf_L4  hX hr h
theorem dsX6_bodyOf : yX6_bodyOf.cls ≠ "java/lang/invoke/MethodHandle" ∧ yX6_bodyOf.cls ≠ "java/lang/invoke/VarHandle" ∧ (parseMethodDescriptor yX6_bodyOf.desc).map (fun d => d.parameters.length) = some 2 := by decide +kernel
theorem tX6_bodyOf {l : Launch} {E : Ev} {K : List Sh} {x0 : Int32} {x1 : Int32} {M : Mem} {r : Int32}  (h : fX6_bodyOf x0 x1 M = some r) : nq_MA l E yX6_bodyOf wsX6_bodyOf (nq_rm 1) [.int x0, .int x1] K M (some (.int r)) K M :=
  nq_met (own := RX6) (cc := cX6_bodyOf) (maxL := 4) (ret := (some .int)) (by decide) rfl rfl (Nat.le_of_ble_eq_true rfl) (fun X hX hr => mX6_bodyOf  hX hr h)

theorem dsX6_say : yX6_say.cls ≠ "java/lang/invoke/MethodHandle" ∧ yX6_say.cls ≠ "java/lang/invoke/VarHandle" ∧ (parseMethodDescriptor yX6_say.desc).map (fun d => d.parameters.length) = some 4 := by decide +kernel
theorem dsX6_follow : yX6_follow.cls ≠ "java/lang/invoke/MethodHandle" ∧ yX6_follow.cls ≠ "java/lang/invoke/VarHandle" ∧ (parseMethodDescriptor yX6_follow.desc).map (fun d => d.parameters.length) = some 3 := by decide +kernel
theorem inX6_say_6 : ∀ w ∈ u_ws RX6 TX6 5, w ∈ wsX6_say := by
  intro w h; unfold wsX6_say; simp only [List.mem_cons, List.mem_append]; simp only [h, true_or, or_true]
theorem lkX6_say_15 : Cond.fieldLink RX6 15 (TX6 1).1 (TX6 1).2.1 (TX6 1).2.2.1 ∈ wsX6_say := by decide +kernel
theorem lkX6_say_11 : Cond.fieldLink RX6 11 (TX6 0).1 (TX6 0).2.1 (TX6 0).2.2.1 ∈ wsX6_say := by decide +kernel
def fX6_say_L46 (g_follow : Nat → Int32 → Int32 → Int32 → Mem → Option (Int32 × Mem)) (p : Nat) (x3 : Int32) (x4 : Int32) (x5 : Int32) (M : Mem) : Option (Int32 × Mem) :=
  nq_b2 (g_follow p x5 x3 (x4 + (1 : Int32)) M) fun v7 M8 =>
  some (v7, M8)
set_option maxHeartbeats 4000000 in
theorem mX6_say_L46 {X : Cx} {E : Ev} {l : Launch} {K : List Sh} {n : Nat} {g_follow : Nat → Int32 → Int32 → Int32 → Mem → Option (Int32 × Mem)} {p : Nat} {x3 : Int32} {x4 : Int32} {x5 : Int32} {M : Mem} {r : Int32} {M' : Mem} (hL : nq_atVoices E K p) (h_follow : ∀ {p : Nat} {x1 : Int32} {x2 : Int32} {x3 : Int32} {M : Mem} {r : Int32} {M' : Mem} (hL : nq_atVoices E K p), g_follow p x1 x2 x3 M = some (r, M') → nq_MA l E yX6_follow wsX6_follow (nq_rm n) [.ref (nq_ad E p), .int x1, .int x2, .int x3] K M (some (.int r)) K M') (hn : 2 ≤ n) (hX : nq_OK X E l (nq_rm (n + 1)) cX6_say 6 RX6 wsX6_say) (hr : nq_RT X E (some .int) (some (.int r)) K M') (h : fX6_say_L46 g_follow p x3 x4 x5 M = some (r, M')) : nq_G X E 6 46 [(0, .ref (nq_ad E p)), (3, .int x3), (4, .int x4), (5, .int x5)] [] K M := by
  unfold fX6_say_L46 at h
  refine nq_aload_n hX rfl 0 rfl dX6_say_46 ?_
  refine nq_iload hX 3 rfl dX6_say_47 ?_
  refine nq_iload_n hX rfl 1 rfl dX6_say_49 ?_
  refine nq_iload hX 2 rfl dX6_say_50 ?_
  refine nq_iconst hX (v := 1) (by decide) dX6_say_52 ?_
  refine nq_iadd hX dX6_say_53 ?_
  obtain ⟨v7, M8, hc6, h⟩ := nq_b2E h
  refine nq_callVi hX (h_follow hL hc6) gX6_say_X6_follow rfl rfl dsX6_follow (nq_room (by decide) (by omega)) (nq_Voices_0 hL) rfl rfl (Nat.le_of_ble_eq_true rfl) dX6_say_54 ?_
  obtain ⟨rfl, rfl⟩ := nq_sE2 h; exact nq_iret hX hr dX6_say_57
def fX6_say (g_follow : Nat → Int32 → Int32 → Int32 → Mem → Option (Int32 × Mem)) (p : Nat) (x1 : Int32) (x2 : Int32) (x3 : Int32) (x4 : Int32) (M : Mem) : Option (Int32 × Mem) :=
  if x4 ≤ (30 : Int32) then
  ((fX6_bodyOf x1 x2 M).bind fun v3 =>
  nq_lt (M p 1) fun v4 =>
  if (40 : Int32) ≤ v4 then
  (fX6_say_L46 g_follow p x3 x4 v3 M)
  else
  (nq_lt (M p 1) fun v9 =>
  (nq_as M (p + 1) 40 v9 v3).bind fun M10 =>
  nq_lt (M10 p 1) fun v11 =>
  nq_lt (nq_wr M10 p 1 (v11 + (1 : Int32))) fun M12 =>
  fX6_say_L46 g_follow p x3 x4 v3 M12))
  else
  (some ((0 : Int32), M))
set_option maxHeartbeats 4000000 in
theorem mX6_say {X : Cx} {E : Ev} {l : Launch} {K : List Sh} {n : Nat} {g_follow : Nat → Int32 → Int32 → Int32 → Mem → Option (Int32 × Mem)} {p : Nat} {x1 : Int32} {x2 : Int32} {x3 : Int32} {x4 : Int32} {M : Mem} {r : Int32} {M' : Mem} (hL : nq_atVoices E K p) (h_follow : ∀ {p : Nat} {x1 : Int32} {x2 : Int32} {x3 : Int32} {M : Mem} {r : Int32} {M' : Mem} (hL : nq_atVoices E K p), g_follow p x1 x2 x3 M = some (r, M') → nq_MA l E yX6_follow wsX6_follow (nq_rm n) [.ref (nq_ad E p), .int x1, .int x2, .int x3] K M (some (.int r)) K M') (hn : 2 ≤ n) (hX : nq_OK X E l (nq_rm (n + 1)) cX6_say 6 RX6 wsX6_say) (hr : nq_RT X E (some .int) (some (.int r)) K M') (h : fX6_say g_follow p x1 x2 x3 x4 M = some (r, M')) : nq_G X E 6 0 [(0, .ref (nq_ad E p)), (1, .int x1), (2, .int x2), (3, .int x3), (4, .int x4)] [] K M := by
  unfold fX6_say at h
  refine nq_iload hX 4 rfl dX6_say_0 ?_
  refine nq_bipush hX (v := 30) (by decide) dX6_say_2 ?_
  refine nq_icmp_le hX (tgt := 9) (by decide) dX6_say_4 (fun c1 => ?_) (fun c1 => ?_)
  · rw [if_pos c1] at h
    refine nq_iload_n hX rfl 1 rfl dX6_say_9 ?_
    refine nq_iload_n hX rfl 2 rfl dX6_say_10 ?_
    obtain ⟨v3, hc2, h⟩ := nq_bE h
    refine nq_callSi hX (tX6_bodyOf  hc2) gX6_say_X6_bodyOf rfl rfl dsX6_bodyOf (nq_room (by decide) (by omega)) rfl (Nat.le_of_ble_eq_true rfl) dX6_say_11 ?_
    refine nq_istore hX (lv' := [(5, .int v3), (0, .ref (nq_ad E p)), (1, .int x1), (2, .int x2), (3, .int x3), (4, .int x4)]) (by decide) rfl rfl dX6_say_14 ?_
    refine nq_aload_n hX rfl 1 rfl dX6_say_16 ?_
    obtain ⟨v4, e4, h⟩ := nq_ltE h
    refine nq_geti hX inX6_say_6 (nq_Voices_0 hL) rfl 1 (by decide) lkX6_say_15 rfl e4 dX6_say_17 ?_
    refine nq_bipush hX (v := 40) (by decide) dX6_say_20 ?_
    refine nq_icmp_ge hX (tgt := 46) (by decide) dX6_say_22 (fun c5 => ?_) (fun c5 => ?_)
    · rw [if_pos c5] at h
      refine nq_sub (lv' := [(0, .ref (nq_ad E p)), (3, .int x3), (4, .int x4), (5, .int v3)]) [1, 4, 5, 0] rfl ?_
      exact mX6_say_L46 hL h_follow hn hX hr h
    · rw [if_neg c5] at h
      refine nq_aload_n hX rfl 1 rfl dX6_say_25 ?_
      refine nq_getr (v := .ref (nq_ad E (p + 1))) hX inX6_say_6 (nq_Voices_0 hL) rfl 0 (by decide) lkX6_say_11 _ rfl rfl dX6_say_26 ?_
      refine nq_aload_n hX rfl 1 rfl dX6_say_29 ?_
      obtain ⟨v9, e9, h⟩ := nq_ltE h
      refine nq_geti hX inX6_say_6 (nq_Voices_0 hL) rfl 1 (by decide) lkX6_say_15 rfl e9 dX6_say_30 ?_
      refine nq_iload hX 0 rfl dX6_say_33 ?_
      obtain ⟨M10, e10, hi10, h⟩ := nq_asE h
      refine nq_iast hX (nq_Voices_bodies hL) e10 hi10 dX6_say_35 ?_
      refine nq_aload_n hX rfl 1 rfl dX6_say_36 ?_
      refine nq_dup hX rfl dX6_say_37 ?_
      obtain ⟨v11, e11, h⟩ := nq_ltE h
      refine nq_geti hX inX6_say_6 (nq_Voices_0 hL) rfl 1 (by decide) lkX6_say_15 rfl e11 dX6_say_38 ?_
      refine nq_iconst hX (v := 1) (by decide) dX6_say_41 ?_
      refine nq_iadd hX dX6_say_42 ?_
      obtain ⟨M12, eM12, h⟩ := nq_ltE h
      refine nq_puti hX inX6_say_6 tyX6 tyX6_ok nmX6 (nq_Voices_0 hL) rfl 1 (by decide) lkX6_say_15 rfl rfl rfl rfl rfl eM12 dX6_say_43 ?_
      refine nq_sub (lv' := [(0, .ref (nq_ad E p)), (3, .int x3), (4, .int x4), (5, .int v3)]) [1, 4, 5, 0] rfl ?_
      exact mX6_say_L46 hL h_follow hn hX hr h
  · rw [if_neg c1] at h
    refine nq_iconst hX (v := 0) (by decide) dX6_say_7 ?_
    obtain ⟨rfl, rfl⟩ := nq_sE2 h; exact nq_iret hX hr dX6_say_8
theorem tX6_say {l : Launch} {E : Ev} {K : List Sh} {n : Nat} {g_follow : Nat → Int32 → Int32 → Int32 → Mem → Option (Int32 × Mem)} {p : Nat} {x1 : Int32} {x2 : Int32} {x3 : Int32} {x4 : Int32} {M : Mem} {r : Int32} {M' : Mem} (hL : nq_atVoices E K p) (h_follow : ∀ {p : Nat} {x1 : Int32} {x2 : Int32} {x3 : Int32} {M : Mem} {r : Int32} {M' : Mem} (hL : nq_atVoices E K p), g_follow p x1 x2 x3 M = some (r, M') → nq_MA l E yX6_follow wsX6_follow (nq_rm n) [.ref (nq_ad E p), .int x1, .int x2, .int x3] K M (some (.int r)) K M') (hn : 2 ≤ n) (h : fX6_say g_follow p x1 x2 x3 x4 M = some (r, M')) : nq_MA l E yX6_say wsX6_say (nq_rm (n + 1)) [.ref (nq_ad E p), .int x1, .int x2, .int x3, .int x4] K M (some (.int r)) K M' :=
  nq_met (own := RX6) (cc := cX6_say) (maxL := 6) (ret := (some .int)) (by decide) rfl rfl (Nat.le_of_ble_eq_true rfl) (fun X hX hr => mX6_say hL h_follow hn hX hr h)

theorem inX6_follow_6 : ∀ w ∈ u_ws RX6 TX6 5, w ∈ wsX6_follow := by
  intro w h; unfold wsX6_follow; simp only [List.mem_cons, List.mem_append]; simp only [h, true_or, or_true]
theorem lkX6_follow_22 : Cond.fieldLink RX6 22 (TX6 3).1 (TX6 3).2.1 (TX6 3).2.2.1 ∈ wsX6_follow := by decide +kernel
theorem lkX6_follow_19 : Cond.fieldLink RX6 19 (TX6 2).1 (TX6 2).2.1 (TX6 2).2.2.1 ∈ wsX6_follow := by decide +kernel
theorem lkX6_follow_25 : Cond.fieldLink RX6 25 (TX6 4).1 (TX6 4).2.1 (TX6 4).2.2.1 ∈ wsX6_follow := by decide +kernel
def fX6_follow (g_say : Nat → Int32 → Int32 → Int32 → Int32 → Mem → Option (Int32 × Mem)) (p : Nat) (x1 : Int32) (x2 : Int32) (x3 : Int32) (M : Mem) : Option (Int32 × Mem) :=
  if x1 = 10 then
  (nq_lt (M p 3) fun v2 =>
  some ((x2 + v2), M))
  else if x1 = 11 then
  (nq_lt (M p 2) fun v3 =>
  nq_b2 (g_say p v3 (0 : Int32) x2 x3 M) fun v5 M6 =>
  some ((v5 * (2 : Int32)), M6))
  else if x1 = 12 then
  (nq_lt (M p 4) fun v7 =>
  some ((x2 - v7), M))
  else if x1 = 13 then
  (nq_lt (M p 2) fun v8 =>
  nq_b2 (g_say p v8 (1 : Int32) x2 x3 M) fun v10 M11 =>
  nq_lt (M11 p 2) fun v12 =>
  nq_b2 (g_say p v12 (2 : Int32) x2 x3 M11) fun v14 M15 =>
  some ((v10 ^^^ v14), M15))
  else if x1 = 20 then
  (nq_b2 (g_say p (0 : Int32) (0 : Int32) x2 x3 M) fun v17 M18 =>
  some ((v17 - (2 : Int32)), M18))
  else if x1 = 30 then
  (nq_b2 (g_say p (1 : Int32) (1 : Int32) x2 x3 M) fun v20 M21 =>
  nq_lt (M21 p 2) fun v22 =>
  nq_b2 (g_say p v22 (2 : Int32) (1 : Int32) x3 M21) fun v24 M25 =>
  some ((v20 + v24), M25))
  else if x1 = 31 then
  (nq_b2 (g_say p (1 : Int32) (0 : Int32) x2 x3 M) fun v27 M28 =>
  some ((v27 * (3 : Int32)), M28))
  else if x1 = 40 then
  (nq_b2 (g_say p (0 : Int32) (2 : Int32) x2 x3 M) fun v30 M31 =>
  some ((-v30), M31))
  else if x1 = 50 then
  (nq_lt (M p 2) fun v32 =>
  nq_b2 (g_say p v32 (0 : Int32) (2 : Int32) x3 M) fun v34 M35 =>
  nq_b2 (g_say p (0 : Int32) (3 : Int32) x2 x3 M35) fun v37 M38 =>
  some ((v34 - v37), M38))
  else if x1 = 60 then
  (nq_b2 (g_say p (3 : Int32) (2 : Int32) (x2 + (1 : Int32)) x3 M) fun v40 M41 =>
  some (v40, M41))
  else if x1 = 61 then
  (nq_b2 (g_say p (3 : Int32) (1 : Int32) x2 x3 M) fun v43 M44 =>
  nq_lt (M44 p 3) fun v45 =>
  some ((v43 ^^^ v45), M44))
  else if x1 = 70 then
  (nq_b2 (g_say p (0 : Int32) (0 : Int32) x2 x3 M) fun v47 M48 =>
  nq_lt (M48 p 4) fun v49 =>
  some ((v47 + v49), M48))
  else if x1 = 71 then
  (nq_b2 (g_say p (0 : Int32) (3 : Int32) x2 x3 M) fun v51 M52 =>
  some ((v51 * (5 : Int32)), M52))
  else (some ((0 : Int32), M))
set_option maxHeartbeats 4000000 in
theorem mX6_follow {X : Cx} {E : Ev} {l : Launch} {K : List Sh} {n : Nat} {g_say : Nat → Int32 → Int32 → Int32 → Int32 → Mem → Option (Int32 × Mem)} {p : Nat} {x1 : Int32} {x2 : Int32} {x3 : Int32} {M : Mem} {r : Int32} {M' : Mem} (hL : nq_atVoices E K p) (h_say : ∀ {p : Nat} {x1 : Int32} {x2 : Int32} {x3 : Int32} {x4 : Int32} {M : Mem} {r : Int32} {M' : Mem} (hL : nq_atVoices E K p), g_say p x1 x2 x3 x4 M = some (r, M') → nq_MA l E yX6_say wsX6_say (nq_rm n) [.ref (nq_ad E p), .int x1, .int x2, .int x3, .int x4] K M (some (.int r)) K M') (hn : 2 ≤ n) (hX : nq_OK X E l (nq_rm (n + 1)) cX6_follow 4 RX6 wsX6_follow) (hr : nq_RT X E (some .int) (some (.int r)) K M') (h : fX6_follow g_say p x1 x2 x3 M = some (r, M')) : nq_G X E 4 0 [(0, .ref (nq_ad E p)), (1, .int x1), (2, .int x2), (3, .int x3)] [] K M := by
  unfold fX6_follow at h
  refine nq_iload_n hX rfl 1 rfl dX6_follow_0 ?_
  by_cases c1_10 : x1 = 10
  · rw [if_pos c1_10] at h; refine nq_look hX (tgt := 116) (off := 115) dX6_follow_1 (by decide) (by rw [c1_10]; rfl) (by decide) ?_
    refine nq_iload_n hX rfl 2 rfl dX6_follow_116 ?_
    refine nq_aload_n hX rfl 0 rfl dX6_follow_117 ?_
    obtain ⟨v2, e2, h⟩ := nq_ltE h
    refine nq_geti hX inX6_follow_6 (nq_Voices_0 hL) rfl 3 (by decide) lkX6_follow_22 rfl e2 dX6_follow_118 ?_
    refine nq_iadd hX dX6_follow_121 ?_
    obtain ⟨rfl, rfl⟩ := nq_sE2 h; exact nq_iret hX hr dX6_follow_122
  rw [if_neg c1_10] at h
  by_cases c1_11 : x1 = 11
  · rw [if_pos c1_11] at h; refine nq_look hX (tgt := 123) (off := 122) dX6_follow_1 (by decide) (by rw [c1_11]; rfl) (by decide) ?_
    refine nq_aload_n hX rfl 0 rfl dX6_follow_123 ?_
    refine nq_aload_n hX rfl 0 rfl dX6_follow_124 ?_
    obtain ⟨v3, e3, h⟩ := nq_ltE h
    refine nq_geti hX inX6_follow_6 (nq_Voices_0 hL) rfl 2 (by decide) lkX6_follow_19 rfl e3 dX6_follow_125 ?_
    refine nq_iconst hX (v := 0) (by decide) dX6_follow_128 ?_
    refine nq_iload_n hX rfl 2 rfl dX6_follow_129 ?_
    refine nq_iload_n hX rfl 3 rfl dX6_follow_130 ?_
    obtain ⟨v5, M6, hc4, h⟩ := nq_b2E h
    refine nq_callVi hX (h_say hL hc4) gX6_follow_X6_say rfl rfl dsX6_say (nq_room (by decide) (by omega)) (nq_Voices_0 hL) rfl rfl (Nat.le_of_ble_eq_true rfl) dX6_follow_131 ?_
    refine nq_iconst hX (v := 2) (by decide) dX6_follow_134 ?_
    refine nq_imul hX dX6_follow_135 ?_
    obtain ⟨rfl, rfl⟩ := nq_sE2 h; exact nq_iret hX hr dX6_follow_136
  rw [if_neg c1_11] at h
  by_cases c1_12 : x1 = 12
  · rw [if_pos c1_12] at h; refine nq_look hX (tgt := 137) (off := 136) dX6_follow_1 (by decide) (by rw [c1_12]; rfl) (by decide) ?_
    refine nq_iload_n hX rfl 2 rfl dX6_follow_137 ?_
    refine nq_aload_n hX rfl 0 rfl dX6_follow_138 ?_
    obtain ⟨v7, e7, h⟩ := nq_ltE h
    refine nq_geti hX inX6_follow_6 (nq_Voices_0 hL) rfl 4 (by decide) lkX6_follow_25 rfl e7 dX6_follow_139 ?_
    refine nq_isub hX dX6_follow_142 ?_
    obtain ⟨rfl, rfl⟩ := nq_sE2 h; exact nq_iret hX hr dX6_follow_143
  rw [if_neg c1_12] at h
  by_cases c1_13 : x1 = 13
  · rw [if_pos c1_13] at h; refine nq_look hX (tgt := 144) (off := 143) dX6_follow_1 (by decide) (by rw [c1_13]; rfl) (by decide) ?_
    refine nq_aload_n hX rfl 0 rfl dX6_follow_144 ?_
    refine nq_aload_n hX rfl 0 rfl dX6_follow_145 ?_
    obtain ⟨v8, e8, h⟩ := nq_ltE h
    refine nq_geti hX inX6_follow_6 (nq_Voices_0 hL) rfl 2 (by decide) lkX6_follow_19 rfl e8 dX6_follow_146 ?_
    refine nq_iconst hX (v := 1) (by decide) dX6_follow_149 ?_
    refine nq_iload_n hX rfl 2 rfl dX6_follow_150 ?_
    refine nq_iload_n hX rfl 3 rfl dX6_follow_151 ?_
    obtain ⟨v10, M11, hc9, h⟩ := nq_b2E h
    refine nq_callVi hX (h_say hL hc9) gX6_follow_X6_say rfl rfl dsX6_say (nq_room (by decide) (by omega)) (nq_Voices_0 hL) rfl rfl (Nat.le_of_ble_eq_true rfl) dX6_follow_152 ?_
    refine nq_aload_n hX rfl 0 rfl dX6_follow_155 ?_
    refine nq_aload_n hX rfl 0 rfl dX6_follow_156 ?_
    obtain ⟨v12, e12, h⟩ := nq_ltE h
    refine nq_geti hX inX6_follow_6 (nq_Voices_0 hL) rfl 2 (by decide) lkX6_follow_19 rfl e12 dX6_follow_157 ?_
    refine nq_iconst hX (v := 2) (by decide) dX6_follow_160 ?_
    refine nq_iload_n hX rfl 2 rfl dX6_follow_161 ?_
    refine nq_iload_n hX rfl 3 rfl dX6_follow_162 ?_
    obtain ⟨v14, M15, hc13, h⟩ := nq_b2E h
    refine nq_callVi hX (h_say hL hc13) gX6_follow_X6_say rfl rfl dsX6_say (nq_room (by decide) (by omega)) (nq_Voices_0 hL) rfl rfl (Nat.le_of_ble_eq_true rfl) dX6_follow_163 ?_
    refine nq_ixor hX dX6_follow_166 ?_
    obtain ⟨rfl, rfl⟩ := nq_sE2 h; exact nq_iret hX hr dX6_follow_167
  rw [if_neg c1_13] at h
  by_cases c1_20 : x1 = 20
  · rw [if_pos c1_20] at h; refine nq_look hX (tgt := 168) (off := 167) dX6_follow_1 (by decide) (by rw [c1_20]; rfl) (by decide) ?_
    refine nq_aload_n hX rfl 0 rfl dX6_follow_168 ?_
    refine nq_iconst hX (v := 0) (by decide) dX6_follow_169 ?_
    refine nq_iconst hX (v := 0) (by decide) dX6_follow_170 ?_
    refine nq_iload_n hX rfl 2 rfl dX6_follow_171 ?_
    refine nq_iload_n hX rfl 3 rfl dX6_follow_172 ?_
    obtain ⟨v17, M18, hc16, h⟩ := nq_b2E h
    refine nq_callVi hX (h_say hL hc16) gX6_follow_X6_say rfl rfl dsX6_say (nq_room (by decide) (by omega)) (nq_Voices_0 hL) rfl rfl (Nat.le_of_ble_eq_true rfl) dX6_follow_173 ?_
    refine nq_iconst hX (v := 2) (by decide) dX6_follow_176 ?_
    refine nq_isub hX dX6_follow_177 ?_
    obtain ⟨rfl, rfl⟩ := nq_sE2 h; exact nq_iret hX hr dX6_follow_178
  rw [if_neg c1_20] at h
  by_cases c1_30 : x1 = 30
  · rw [if_pos c1_30] at h; refine nq_look hX (tgt := 179) (off := 178) dX6_follow_1 (by decide) (by rw [c1_30]; rfl) (by decide) ?_
    refine nq_aload_n hX rfl 0 rfl dX6_follow_179 ?_
    refine nq_iconst hX (v := 1) (by decide) dX6_follow_180 ?_
    refine nq_iconst hX (v := 1) (by decide) dX6_follow_181 ?_
    refine nq_iload_n hX rfl 2 rfl dX6_follow_182 ?_
    refine nq_iload_n hX rfl 3 rfl dX6_follow_183 ?_
    obtain ⟨v20, M21, hc19, h⟩ := nq_b2E h
    refine nq_callVi hX (h_say hL hc19) gX6_follow_X6_say rfl rfl dsX6_say (nq_room (by decide) (by omega)) (nq_Voices_0 hL) rfl rfl (Nat.le_of_ble_eq_true rfl) dX6_follow_184 ?_
    refine nq_aload_n hX rfl 0 rfl dX6_follow_187 ?_
    refine nq_aload_n hX rfl 0 rfl dX6_follow_188 ?_
    obtain ⟨v22, e22, h⟩ := nq_ltE h
    refine nq_geti hX inX6_follow_6 (nq_Voices_0 hL) rfl 2 (by decide) lkX6_follow_19 rfl e22 dX6_follow_189 ?_
    refine nq_iconst hX (v := 2) (by decide) dX6_follow_192 ?_
    refine nq_iconst hX (v := 1) (by decide) dX6_follow_193 ?_
    refine nq_iload_n hX rfl 3 rfl dX6_follow_194 ?_
    obtain ⟨v24, M25, hc23, h⟩ := nq_b2E h
    refine nq_callVi hX (h_say hL hc23) gX6_follow_X6_say rfl rfl dsX6_say (nq_room (by decide) (by omega)) (nq_Voices_0 hL) rfl rfl (Nat.le_of_ble_eq_true rfl) dX6_follow_195 ?_
    refine nq_iadd hX dX6_follow_198 ?_
    obtain ⟨rfl, rfl⟩ := nq_sE2 h; exact nq_iret hX hr dX6_follow_199
  rw [if_neg c1_30] at h
  by_cases c1_31 : x1 = 31
  · rw [if_pos c1_31] at h; refine nq_look hX (tgt := 200) (off := 199) dX6_follow_1 (by decide) (by rw [c1_31]; rfl) (by decide) ?_
    refine nq_aload_n hX rfl 0 rfl dX6_follow_200 ?_
    refine nq_iconst hX (v := 1) (by decide) dX6_follow_201 ?_
    refine nq_iconst hX (v := 0) (by decide) dX6_follow_202 ?_
    refine nq_iload_n hX rfl 2 rfl dX6_follow_203 ?_
    refine nq_iload_n hX rfl 3 rfl dX6_follow_204 ?_
    obtain ⟨v27, M28, hc26, h⟩ := nq_b2E h
    refine nq_callVi hX (h_say hL hc26) gX6_follow_X6_say rfl rfl dsX6_say (nq_room (by decide) (by omega)) (nq_Voices_0 hL) rfl rfl (Nat.le_of_ble_eq_true rfl) dX6_follow_205 ?_
    refine nq_iconst hX (v := 3) (by decide) dX6_follow_208 ?_
    refine nq_imul hX dX6_follow_209 ?_
    obtain ⟨rfl, rfl⟩ := nq_sE2 h; exact nq_iret hX hr dX6_follow_210
  rw [if_neg c1_31] at h
  by_cases c1_40 : x1 = 40
  · rw [if_pos c1_40] at h; refine nq_look hX (tgt := 211) (off := 210) dX6_follow_1 (by decide) (by rw [c1_40]; rfl) (by decide) ?_
    refine nq_aload_n hX rfl 0 rfl dX6_follow_211 ?_
    refine nq_iconst hX (v := 0) (by decide) dX6_follow_212 ?_
    refine nq_iconst hX (v := 2) (by decide) dX6_follow_213 ?_
    refine nq_iload_n hX rfl 2 rfl dX6_follow_214 ?_
    refine nq_iload_n hX rfl 3 rfl dX6_follow_215 ?_
    obtain ⟨v30, M31, hc29, h⟩ := nq_b2E h
    refine nq_callVi hX (h_say hL hc29) gX6_follow_X6_say rfl rfl dsX6_say (nq_room (by decide) (by omega)) (nq_Voices_0 hL) rfl rfl (Nat.le_of_ble_eq_true rfl) dX6_follow_216 ?_
    refine nq_ineg hX dX6_follow_219 ?_
    obtain ⟨rfl, rfl⟩ := nq_sE2 h; exact nq_iret hX hr dX6_follow_220
  rw [if_neg c1_40] at h
  by_cases c1_50 : x1 = 50
  · rw [if_pos c1_50] at h; refine nq_look hX (tgt := 221) (off := 220) dX6_follow_1 (by decide) (by rw [c1_50]; rfl) (by decide) ?_
    refine nq_aload_n hX rfl 0 rfl dX6_follow_221 ?_
    refine nq_aload_n hX rfl 0 rfl dX6_follow_222 ?_
    obtain ⟨v32, e32, h⟩ := nq_ltE h
    refine nq_geti hX inX6_follow_6 (nq_Voices_0 hL) rfl 2 (by decide) lkX6_follow_19 rfl e32 dX6_follow_223 ?_
    refine nq_iconst hX (v := 0) (by decide) dX6_follow_226 ?_
    refine nq_iconst hX (v := 2) (by decide) dX6_follow_227 ?_
    refine nq_iload_n hX rfl 3 rfl dX6_follow_228 ?_
    obtain ⟨v34, M35, hc33, h⟩ := nq_b2E h
    refine nq_callVi hX (h_say hL hc33) gX6_follow_X6_say rfl rfl dsX6_say (nq_room (by decide) (by omega)) (nq_Voices_0 hL) rfl rfl (Nat.le_of_ble_eq_true rfl) dX6_follow_229 ?_
    refine nq_aload_n hX rfl 0 rfl dX6_follow_232 ?_
    refine nq_iconst hX (v := 0) (by decide) dX6_follow_233 ?_
    refine nq_iconst hX (v := 3) (by decide) dX6_follow_234 ?_
    refine nq_iload_n hX rfl 2 rfl dX6_follow_235 ?_
    refine nq_iload_n hX rfl 3 rfl dX6_follow_236 ?_
    obtain ⟨v37, M38, hc36, h⟩ := nq_b2E h
    refine nq_callVi hX (h_say hL hc36) gX6_follow_X6_say rfl rfl dsX6_say (nq_room (by decide) (by omega)) (nq_Voices_0 hL) rfl rfl (Nat.le_of_ble_eq_true rfl) dX6_follow_237 ?_
    refine nq_isub hX dX6_follow_240 ?_
    obtain ⟨rfl, rfl⟩ := nq_sE2 h; exact nq_iret hX hr dX6_follow_241
  rw [if_neg c1_50] at h
  by_cases c1_60 : x1 = 60
  · rw [if_pos c1_60] at h; refine nq_look hX (tgt := 242) (off := 241) dX6_follow_1 (by decide) (by rw [c1_60]; rfl) (by decide) ?_
    refine nq_aload_n hX rfl 0 rfl dX6_follow_242 ?_
    refine nq_iconst hX (v := 3) (by decide) dX6_follow_243 ?_
    refine nq_iconst hX (v := 2) (by decide) dX6_follow_244 ?_
    refine nq_iload_n hX rfl 2 rfl dX6_follow_245 ?_
    refine nq_iconst hX (v := 1) (by decide) dX6_follow_246 ?_
    refine nq_iadd hX dX6_follow_247 ?_
    refine nq_iload_n hX rfl 3 rfl dX6_follow_248 ?_
    obtain ⟨v40, M41, hc39, h⟩ := nq_b2E h
    refine nq_callVi hX (h_say hL hc39) gX6_follow_X6_say rfl rfl dsX6_say (nq_room (by decide) (by omega)) (nq_Voices_0 hL) rfl rfl (Nat.le_of_ble_eq_true rfl) dX6_follow_249 ?_
    obtain ⟨rfl, rfl⟩ := nq_sE2 h; exact nq_iret hX hr dX6_follow_252
  rw [if_neg c1_60] at h
  by_cases c1_61 : x1 = 61
  · rw [if_pos c1_61] at h; refine nq_look hX (tgt := 253) (off := 252) dX6_follow_1 (by decide) (by rw [c1_61]; rfl) (by decide) ?_
    refine nq_aload_n hX rfl 0 rfl dX6_follow_253 ?_
    refine nq_iconst hX (v := 3) (by decide) dX6_follow_254 ?_
    refine nq_iconst hX (v := 1) (by decide) dX6_follow_255 ?_
    refine nq_iload_n hX rfl 2 rfl dX6_follow_256 ?_
    refine nq_iload_n hX rfl 3 rfl dX6_follow_257 ?_
    obtain ⟨v43, M44, hc42, h⟩ := nq_b2E h
    refine nq_callVi hX (h_say hL hc42) gX6_follow_X6_say rfl rfl dsX6_say (nq_room (by decide) (by omega)) (nq_Voices_0 hL) rfl rfl (Nat.le_of_ble_eq_true rfl) dX6_follow_258 ?_
    refine nq_aload_n hX rfl 0 rfl dX6_follow_261 ?_
    obtain ⟨v45, e45, h⟩ := nq_ltE h
    refine nq_geti hX inX6_follow_6 (nq_Voices_0 hL) rfl 3 (by decide) lkX6_follow_22 rfl e45 dX6_follow_262 ?_
    refine nq_ixor hX dX6_follow_265 ?_
    obtain ⟨rfl, rfl⟩ := nq_sE2 h; exact nq_iret hX hr dX6_follow_266
  rw [if_neg c1_61] at h
  by_cases c1_70 : x1 = 70
  · rw [if_pos c1_70] at h; refine nq_look hX (tgt := 267) (off := 266) dX6_follow_1 (by decide) (by rw [c1_70]; rfl) (by decide) ?_
    refine nq_aload_n hX rfl 0 rfl dX6_follow_267 ?_
    refine nq_iconst hX (v := 0) (by decide) dX6_follow_268 ?_
    refine nq_iconst hX (v := 0) (by decide) dX6_follow_269 ?_
    refine nq_iload_n hX rfl 2 rfl dX6_follow_270 ?_
    refine nq_iload_n hX rfl 3 rfl dX6_follow_271 ?_
    obtain ⟨v47, M48, hc46, h⟩ := nq_b2E h
    refine nq_callVi hX (h_say hL hc46) gX6_follow_X6_say rfl rfl dsX6_say (nq_room (by decide) (by omega)) (nq_Voices_0 hL) rfl rfl (Nat.le_of_ble_eq_true rfl) dX6_follow_272 ?_
    refine nq_aload_n hX rfl 0 rfl dX6_follow_275 ?_
    obtain ⟨v49, e49, h⟩ := nq_ltE h
    refine nq_geti hX inX6_follow_6 (nq_Voices_0 hL) rfl 4 (by decide) lkX6_follow_25 rfl e49 dX6_follow_276 ?_
    refine nq_iadd hX dX6_follow_279 ?_
    obtain ⟨rfl, rfl⟩ := nq_sE2 h; exact nq_iret hX hr dX6_follow_280
  rw [if_neg c1_70] at h
  by_cases c1_71 : x1 = 71
  · rw [if_pos c1_71] at h; refine nq_look hX (tgt := 281) (off := 280) dX6_follow_1 (by decide) (by rw [c1_71]; rfl) (by decide) ?_
    refine nq_aload_n hX rfl 0 rfl dX6_follow_281 ?_
    refine nq_iconst hX (v := 0) (by decide) dX6_follow_282 ?_
    refine nq_iconst hX (v := 3) (by decide) dX6_follow_283 ?_
    refine nq_iload_n hX rfl 2 rfl dX6_follow_284 ?_
    refine nq_iload_n hX rfl 3 rfl dX6_follow_285 ?_
    obtain ⟨v51, M52, hc50, h⟩ := nq_b2E h
    refine nq_callVi hX (h_say hL hc50) gX6_follow_X6_say rfl rfl dsX6_say (nq_room (by decide) (by omega)) (nq_Voices_0 hL) rfl rfl (Nat.le_of_ble_eq_true rfl) dX6_follow_286 ?_
    refine nq_iconst hX (v := 5) (by decide) dX6_follow_289 ?_
    refine nq_imul hX dX6_follow_290 ?_
    obtain ⟨rfl, rfl⟩ := nq_sE2 h; exact nq_iret hX hr dX6_follow_291
  rw [if_neg c1_71] at h
  refine nq_look hX (tgt := 292) (off := 291) dX6_follow_1 (by decide) (by have z10 := nq_tnf (k := 10) (n := 10) (by decide) c1_10; have z11 := nq_tnf (k := 11) (n := 11) (by decide) c1_11; have z12 := nq_tnf (k := 12) (n := 12) (by decide) c1_12; have z13 := nq_tnf (k := 13) (n := 13) (by decide) c1_13; have z20 := nq_tnf (k := 20) (n := 20) (by decide) c1_20; have z30 := nq_tnf (k := 30) (n := 30) (by decide) c1_30; have z31 := nq_tnf (k := 31) (n := 31) (by decide) c1_31; have z40 := nq_tnf (k := 40) (n := 40) (by decide) c1_40; have z50 := nq_tnf (k := 50) (n := 50) (by decide) c1_50; have z60 := nq_tnf (k := 60) (n := 60) (by decide) c1_60; have z61 := nq_tnf (k := 61) (n := 61) (by decide) c1_61; have z70 := nq_tnf (k := 70) (n := 70) (by decide) c1_70; have z71 := nq_tnf (k := 71) (n := 71) (by decide) c1_71; simp [Op.lookupswitch.offset, *]) (by decide) ?_
  refine nq_iconst hX (v := 0) (by decide) dX6_follow_292 ?_
  obtain ⟨rfl, rfl⟩ := nq_sE2 h; exact nq_iret hX hr dX6_follow_293
theorem tX6_follow {l : Launch} {E : Ev} {K : List Sh} {n : Nat} {g_say : Nat → Int32 → Int32 → Int32 → Int32 → Mem → Option (Int32 × Mem)} {p : Nat} {x1 : Int32} {x2 : Int32} {x3 : Int32} {M : Mem} {r : Int32} {M' : Mem} (hL : nq_atVoices E K p) (h_say : ∀ {p : Nat} {x1 : Int32} {x2 : Int32} {x3 : Int32} {x4 : Int32} {M : Mem} {r : Int32} {M' : Mem} (hL : nq_atVoices E K p), g_say p x1 x2 x3 x4 M = some (r, M') → nq_MA l E yX6_say wsX6_say (nq_rm n) [.ref (nq_ad E p), .int x1, .int x2, .int x3, .int x4] K M (some (.int r)) K M') (hn : 2 ≤ n) (h : fX6_follow g_say p x1 x2 x3 M = some (r, M')) : nq_MA l E yX6_follow wsX6_follow (nq_rm (n + 1)) [.ref (nq_ad E p), .int x1, .int x2, .int x3] K M (some (.int r)) K M' :=
  nq_met (own := RX6) (cc := cX6_follow) (maxL := 4) (ret := (some .int)) (by decide) rfl rfl (Nat.le_of_ble_eq_true rfl) (fun X hX hr => mX6_follow hL h_say hn hX hr h)

def gVo_step (g : (Nat → Int32 → Int32 → Int32 → Int32 → Mem → Option (Int32 × Mem)) × (Nat → Int32 → Int32 → Int32 → Mem → Option (Int32 × Mem))) : (Nat → Int32 → Int32 → Int32 → Int32 → Mem → Option (Int32 × Mem)) × (Nat → Int32 → Int32 → Int32 → Mem → Option (Int32 × Mem)) := ((fX6_say g.2), (fX6_follow g.1))
def gVo_all : Nat → (Nat → Int32 → Int32 → Int32 → Int32 → Mem → Option (Int32 × Mem)) × (Nat → Int32 → Int32 → Int32 → Mem → Option (Int32 × Mem))
  | 0 => (fun _ _ _ _ _ _ => none, fun _ _ _ _ _ => none)
  | d + 1 => gVo_step (gVo_all d)
theorem gVo_ok {l : Launch} {E : Ev} {K : List Sh} : ∀ d : Nat, (∀ {p : Nat} {x1 : Int32} {x2 : Int32} {x3 : Int32} {x4 : Int32} {M : Mem} {r : Int32} {M' : Mem} (hL : nq_atVoices E K p), ((gVo_all d).1) p x1 x2 x3 x4 M = some (r, M') → nq_MA l E yX6_say wsX6_say (nq_rm (2 + d)) [.ref (nq_ad E p), .int x1, .int x2, .int x3, .int x4] K M (some (.int r)) K M') ∧
  (∀ {p : Nat} {x1 : Int32} {x2 : Int32} {x3 : Int32} {M : Mem} {r : Int32} {M' : Mem} (hL : nq_atVoices E K p), ((gVo_all d).2) p x1 x2 x3 M = some (r, M') → nq_MA l E yX6_follow wsX6_follow (nq_rm (2 + d)) [.ref (nq_ad E p), .int x1, .int x2, .int x3] K M (some (.int r)) K M') := by
  intro d
  induction d with
  | zero => exact ⟨(by intros; rename_i h; cases h), (by intros; rename_i h; cases h)⟩
  | succ d ih =>
    obtain ⟨i0, i1⟩ := ih
    exact ⟨(by
      intro _ _ _ _ _ _ _ _ h0 h
      exact tX6_say (n := 2 + d) h0 i1 (by omega) h),
     (by
      intro _ _ _ _ _ _ _ h0 h
      exact tX6_follow (n := 2 + d) h0 i0 (by omega) h)⟩
def fX6_sayC : Nat → Int32 → Int32 → Int32 → Int32 → Mem → Option (Int32 × Mem) := (gVo_all 80).1
theorem tX6_sayC {l : Launch} {E : Ev} {K : List Sh} {p : Nat} {x1 : Int32} {x2 : Int32} {x3 : Int32} {x4 : Int32} {M : Mem} {r : Int32} {M' : Mem} (hL : nq_atVoices E K p) (h : fX6_sayC p x1 x2 x3 x4 M = some (r, M')) : nq_MA l E yX6_say wsX6_say (nq_rm 82) [.ref (nq_ad E p), .int x1, .int x2, .int x3, .int x4] K M (some (.int r)) K M' := (gVo_ok (l := l) (E := E) (K := K) 80).1 hL h
def fX6_followC : Nat → Int32 → Int32 → Int32 → Mem → Option (Int32 × Mem) := (gVo_all 80).2
theorem tX6_followC {l : Launch} {E : Ev} {K : List Sh} {p : Nat} {x1 : Int32} {x2 : Int32} {x3 : Int32} {M : Mem} {r : Int32} {M' : Mem} (hL : nq_atVoices E K p) (h : fX6_followC p x1 x2 x3 M = some (r, M')) : nq_MA l E yX6_follow wsX6_follow (nq_rm 82) [.ref (nq_ad E p), .int x1, .int x2, .int x3] K M (some (.int r)) K M' := (gVo_ok (l := l) (E := E) (K := K) 80).2 hL h

