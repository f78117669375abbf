/-! printed by dec.py: Model 8 -/
theorem dsX9_binds : yX9_binds.cls ≠ "java/lang/invoke/MethodHandle" ∧ yX9_binds.cls ≠ "java/lang/invoke/VarHandle" ∧ (parseMethodDescriptor yX9_binds.desc).map (fun d => d.parameters.length) = some 2 := by decide +kernel
theorem inX9_binds_9 : ∀ w ∈ u_ws RX9 TX9 23, w ∈ wsX9_binds := by
  intro w h; unfold wsX9_binds; simp only [List.mem_cons, List.mem_append]; simp only [h, true_or, or_true]
theorem lkX9_binds_300 : Cond.fieldLink RX9 300 (TX9 18).1 (TX9 18).2.1 (TX9 18).2.2.1 ∈ wsX9_binds := by decide +kernel
def fX9_binds_L121 (g_binds : Int32 → Int32 → Mem → Option (Int32 × Mem)) (x1 : Int32) (x2 : Int32) (M : Mem) : Option (Int32 × Mem) :=
  (fX9_above x1 M).bind fun v30 =>
  nq_b2 (g_binds v30 x2 M) fun v32 M33 =>
  some (v32, M33)
set_option maxHeartbeats 4000000 in
theorem mX9_binds_L121 {X : Cx} {E : Ev} {l : Launch} {K : List Sh} {n : Nat} {g_binds : Int32 → Int32 → Mem → Option (Int32 × Mem)} {x1 : Int32} {x2 : Int32} {M : Mem} {r : Int32} {M' : Mem} (hL : nq_atModel E K) (h_binds : ∀ {x1 : Int32} {x2 : Int32} {M : Mem} {r : Int32} {M' : Mem} (hL : nq_atModel E K), g_binds x1 x2 M = some (r, M') → nq_MA l E yX9_binds wsX9_binds (nq_rm n) [.ref (nq_ad E 0), .int x1, .int x2] K M (some (.int r)) K M') (hn : 2 ≤ n) (hX : nq_OK X E l (nq_rm (n + 1)) cX9_binds 3 RX9 wsX9_binds) (hr : nq_RT X E (some .int) (some (.int r)) K M') (h : fX9_binds_L121 g_binds x1 x2 M = some (r, M')) : nq_G X E 3 121 [(0, .ref (nq_ad E 0)), (1, .int x1), (2, .int x2)] [] K M := by
  unfold fX9_binds_L121 at h
  refine nq_aload_n hX rfl 0 rfl dX9_binds_121 ?_
  refine nq_iload_n hX rfl 1 rfl dX9_binds_122 ?_
  obtain ⟨v30, hc29, h⟩ := nq_bE h
  refine nq_callSi hX (tX9_above  hc29) gX9_binds_X9_above rfl rfl dsX9_above (nq_room (by decide) (by omega)) rfl (Nat.le_of_ble_eq_true rfl) dX9_binds_123 ?_
  refine nq_iload_n hX rfl 2 rfl dX9_binds_126 ?_
  obtain ⟨v32, M33, hc31, h⟩ := nq_b2E h
  refine nq_callVi hX (h_binds hL hc31) gX9_binds_X9_binds rfl rfl dsX9_binds (nq_room (by decide) (by omega)) (nq_Model_0 hL) rfl rfl (Nat.le_of_ble_eq_true rfl) dX9_binds_127 ?_
  obtain ⟨rfl, rfl⟩ := nq_sE2 h; exact nq_iret hX hr dX9_binds_130
def fX9_binds (g_binds : Int32 → Int32 → Mem → Option (Int32 × Mem)) (x1 : Int32) (x2 : Int32) (M : Mem) : Option (Int32 × Mem) :=
  if x1 = 0 then
  ((fX9_ran (10 : Int32) M).bind fun M3 =>
  nq_lt (M3 0 18) fun v4 =>
  some ((x2 + v4), M3))
  else if x1 = 1 then
  ((fX9_ran (20 : Int32) M).bind fun M6 =>
  (fX9_above (1 : Int32) M6).bind fun v8 =>
  nq_b2 (g_binds v8 x2 M6) fun v10 M11 =>
  some ((v10 - (2 : Int32)), M11))
  else if x1 = 2 then
  ((fX9_ran (31 : Int32) M).bind fun M13 =>
  (fX9_above (2 : Int32) M13).bind fun v15 =>
  nq_b2 (g_binds v15 x2 M13) fun v17 M18 =>
  some ((v17 * (3 : Int32)), M18))
  else if x1 = 6 then
  ((fX9_ran (70 : Int32) M).bind fun M20 =>
  (fX9_above (6 : Int32) M20).bind fun v22 =>
  nq_b2 (g_binds v22 x2 M20) fun v24 M25 =>
  nq_lt (M25 0 18) fun v26 =>
  (fX9_wo v26 (6 : Int32) M25).bind fun v28 =>
  some ((v24 + v28), M25))
  else (fX9_binds_L121 g_binds x1 x2 M)
set_option maxHeartbeats 4000000 in
theorem mX9_binds {X : Cx} {E : Ev} {l : Launch} {K : List Sh} {n : Nat} {g_binds : Int32 → Int32 → Mem → Option (Int32 × Mem)} {x1 : Int32} {x2 : Int32} {M : Mem} {r : Int32} {M' : Mem} (hL : nq_atModel E K) (h_binds : ∀ {x1 : Int32} {x2 : Int32} {M : Mem} {r : Int32} {M' : Mem} (hL : nq_atModel E K), g_binds x1 x2 M = some (r, M') → nq_MA l E yX9_binds wsX9_binds (nq_rm n) [.ref (nq_ad E 0), .int x1, .int x2] K M (some (.int r)) K M') (hn : 2 ≤ n) (hX : nq_OK X E l (nq_rm (n + 1)) cX9_binds 3 RX9 wsX9_binds) (hr : nq_RT X E (some .int) (some (.int r)) K M') (h : fX9_binds g_binds x1 x2 M = some (r, M')) : nq_G X E 3 0 [(0, .ref (nq_ad E 0)), (1, .int x1), (2, .int x2)] [] K M := by
  unfold fX9_binds at h
  refine nq_iload_n hX rfl 1 rfl dX9_binds_0 ?_
  by_cases c1_0 : x1 = 0
  · rw [if_pos c1_0] at h; refine nq_tabI hX (tgt := 44) (off := 43) dX9_binds_1 (by rw [c1_0]; decide) (by rw [c1_0]; decide) (by rw [c1_0]; rfl) (by decide) ?_
    refine nq_aload_n hX rfl 0 rfl dX9_binds_44 ?_
    refine nq_bipush hX (v := 10) (by decide) dX9_binds_45 ?_
    obtain ⟨M3, hc2, h⟩ := nq_bE h
    refine nq_callVv hX (tX9_ran hL hc2) gX9_binds_X9_ran rfl rfl dsX9_ran (nq_room (by decide) (by omega)) (nq_Model_0 hL) rfl rfl (Nat.le_of_ble_eq_true rfl) dX9_binds_47 ?_
    refine nq_iload_n hX rfl 2 rfl dX9_binds_50 ?_
    refine nq_aload_n hX rfl 0 rfl dX9_binds_51 ?_
    obtain ⟨v4, e4, h⟩ := nq_ltE h
    refine nq_geti hX inX9_binds_9 (nq_Model_0 hL) rfl 18 (by decide) lkX9_binds_300 rfl e4 dX9_binds_52 ?_
    refine nq_iadd hX dX9_binds_55 ?_
    obtain ⟨rfl, rfl⟩ := nq_sE2 h; exact nq_iret hX hr dX9_binds_56
  rw [if_neg c1_0] at h
  by_cases c1_1 : x1 = 1
  · rw [if_pos c1_1] at h; refine nq_tabI hX (tgt := 57) (off := 56) dX9_binds_1 (by rw [c1_1]; decide) (by rw [c1_1]; decide) (by rw [c1_1]; rfl) (by decide) ?_
    refine nq_aload_n hX rfl 0 rfl dX9_binds_57 ?_
    refine nq_bipush hX (v := 20) (by decide) dX9_binds_58 ?_
    obtain ⟨M6, hc5, h⟩ := nq_bE h
    refine nq_callVv hX (tX9_ran hL hc5) gX9_binds_X9_ran rfl rfl dsX9_ran (nq_room (by decide) (by omega)) (nq_Model_0 hL) rfl rfl (Nat.le_of_ble_eq_true rfl) dX9_binds_60 ?_
    refine nq_aload_n hX rfl 0 rfl dX9_binds_63 ?_
    refine nq_iconst hX (v := 1) (by decide) dX9_binds_64 ?_
    obtain ⟨v8, hc7, h⟩ := nq_bE h
    refine nq_callSi hX (tX9_above  hc7) gX9_binds_X9_above rfl rfl dsX9_above (nq_room (by decide) (by omega)) rfl (Nat.le_of_ble_eq_true rfl) dX9_binds_65 ?_
    refine nq_iload_n hX rfl 2 rfl dX9_binds_68 ?_
    obtain ⟨v10, M11, hc9, h⟩ := nq_b2E h
    refine nq_callVi hX (h_binds hL hc9) gX9_binds_X9_binds rfl rfl dsX9_binds (nq_room (by decide) (by omega)) (nq_Model_0 hL) rfl rfl (Nat.le_of_ble_eq_true rfl) dX9_binds_69 ?_
    refine nq_iconst hX (v := 2) (by decide) dX9_binds_72 ?_
    refine nq_isub hX dX9_binds_73 ?_
    obtain ⟨rfl, rfl⟩ := nq_sE2 h; exact nq_iret hX hr dX9_binds_74
  rw [if_neg c1_1] at h
  by_cases c1_2 : x1 = 2
  · rw [if_pos c1_2] at h; refine nq_tabI hX (tgt := 75) (off := 74) dX9_binds_1 (by rw [c1_2]; decide) (by rw [c1_2]; decide) (by rw [c1_2]; rfl) (by decide) ?_
    refine nq_aload_n hX rfl 0 rfl dX9_binds_75 ?_
    refine nq_bipush hX (v := 31) (by decide) dX9_binds_76 ?_
    obtain ⟨M13, hc12, h⟩ := nq_bE h
    refine nq_callVv hX (tX9_ran hL hc12) gX9_binds_X9_ran rfl rfl dsX9_ran (nq_room (by decide) (by omega)) (nq_Model_0 hL) rfl rfl (Nat.le_of_ble_eq_true rfl) dX9_binds_78 ?_
    refine nq_aload_n hX rfl 0 rfl dX9_binds_81 ?_
    refine nq_iconst hX (v := 2) (by decide) dX9_binds_82 ?_
    obtain ⟨v15, hc14, h⟩ := nq_bE h
    refine nq_callSi hX (tX9_above  hc14) gX9_binds_X9_above rfl rfl dsX9_above (nq_room (by decide) (by omega)) rfl (Nat.le_of_ble_eq_true rfl) dX9_binds_83 ?_
    refine nq_iload_n hX rfl 2 rfl dX9_binds_86 ?_
    obtain ⟨v17, M18, hc16, h⟩ := nq_b2E h
    refine nq_callVi hX (h_binds hL hc16) gX9_binds_X9_binds rfl rfl dsX9_binds (nq_room (by decide) (by omega)) (nq_Model_0 hL) rfl rfl (Nat.le_of_ble_eq_true rfl) dX9_binds_87 ?_
    refine nq_iconst hX (v := 3) (by decide) dX9_binds_90 ?_
    refine nq_imul hX dX9_binds_91 ?_
    obtain ⟨rfl, rfl⟩ := nq_sE2 h; exact nq_iret hX hr dX9_binds_92
  rw [if_neg c1_2] at h
  by_cases c1_6 : x1 = 6
  · rw [if_pos c1_6] at h; refine nq_tabI hX (tgt := 93) (off := 92) dX9_binds_1 (by rw [c1_6]; decide) (by rw [c1_6]; decide) (by rw [c1_6]; rfl) (by decide) ?_
    refine nq_aload_n hX rfl 0 rfl dX9_binds_93 ?_
    refine nq_bipush hX (v := 70) (by decide) dX9_binds_94 ?_
    obtain ⟨M20, hc19, h⟩ := nq_bE h
    refine nq_callVv hX (tX9_ran hL hc19) gX9_binds_X9_ran rfl rfl dsX9_ran (nq_room (by decide) (by omega)) (nq_Model_0 hL) rfl rfl (Nat.le_of_ble_eq_true rfl) dX9_binds_96 ?_
    refine nq_aload_n hX rfl 0 rfl dX9_binds_99 ?_
    refine nq_bipush hX (v := 6) (by decide) dX9_binds_100 ?_
    obtain ⟨v22, hc21, h⟩ := nq_bE h
    refine nq_callSi hX (tX9_above  hc21) gX9_binds_X9_above rfl rfl dsX9_above (nq_room (by decide) (by omega)) rfl (Nat.le_of_ble_eq_true rfl) dX9_binds_102 ?_
    refine nq_iload_n hX rfl 2 rfl dX9_binds_105 ?_
    obtain ⟨v24, M25, hc23, h⟩ := nq_b2E h
    refine nq_callVi hX (h_binds hL hc23) gX9_binds_X9_binds rfl rfl dsX9_binds (nq_room (by decide) (by omega)) (nq_Model_0 hL) rfl rfl (Nat.le_of_ble_eq_true rfl) dX9_binds_106 ?_
    refine nq_aload_n hX rfl 0 rfl dX9_binds_109 ?_
    refine nq_aload_n hX rfl 0 rfl dX9_binds_110 ?_
    obtain ⟨v26, e26, h⟩ := nq_ltE h
    refine nq_geti hX inX9_binds_9 (nq_Model_0 hL) rfl 18 (by decide) lkX9_binds_300 rfl e26 dX9_binds_111 ?_
    refine nq_bipush hX (v := 6) (by decide) dX9_binds_114 ?_
    obtain ⟨v28, hc27, h⟩ := nq_bE h
    refine nq_callVi hX (tX9_wo hL hc27) gX9_binds_X9_wo rfl rfl dsX9_wo (nq_room (by decide) (by omega)) (nq_Model_0 hL) rfl rfl (Nat.le_of_ble_eq_true rfl) dX9_binds_116 ?_
    refine nq_iadd hX dX9_binds_119 ?_
    obtain ⟨rfl, rfl⟩ := nq_sE2 h; exact nq_iret hX hr dX9_binds_120
  rw [if_neg c1_6] at h
  have kd : nq_G X E 3 121 [(0, .ref (nq_ad E 0)), (1, .int x1), (2, .int x2)] [] K M := by
    exact mX9_binds_L121 hL h_binds hn hX hr h
  by_cases c1_3 : x1 = 3
  · exact nq_tabI hX (tgt := 121) (off := 120) dX9_binds_1 (by rw [c1_3]; decide) (by rw [c1_3]; decide) (by rw [c1_3]; rfl) (by decide) kd
  by_cases c1_4 : x1 = 4
  · exact nq_tabI hX (tgt := 121) (off := 120) dX9_binds_1 (by rw [c1_4]; decide) (by rw [c1_4]; decide) (by rw [c1_4]; rfl) (by decide) kd
  by_cases c1_5 : x1 = 5
  · exact nq_tabI hX (tgt := 121) (off := 120) dX9_binds_1 (by rw [c1_5]; decide) (by rw [c1_5]; decide) (by rw [c1_5]; rfl) (by decide) kd
  refine nq_tabO hX (tgt := 121) dX9_binds_1 (by have := nq_tne (k := 0) (n := 0) (by decide) c1_0; have := nq_tne (k := 1) (n := 1) (by decide) c1_1; have := nq_tne (k := 2) (n := 2) (by decide) c1_2; have := nq_tne (k := 6) (n := 6) (by decide) c1_6; have := nq_tne (k := 3) (n := 3) (by decide) c1_3; have := nq_tne (k := 4) (n := 4) (by decide) c1_4; have := nq_tne (k := 5) (n := 5) (by decide) c1_5; omega) (by decide) ?_
  exact kd
theorem tX9_binds {l : Launch} {E : Ev} {K : List Sh} {n : Nat} {g_binds : Int32 → Int32 → Mem → Option (Int32 × Mem)} {x1 : Int32} {x2 : Int32} {M : Mem} {r : Int32} {M' : Mem} (hL : nq_atModel E K) (h_binds : ∀ {x1 : Int32} {x2 : Int32} {M : Mem} {r : Int32} {M' : Mem} (hL : nq_atModel E K), g_binds x1 x2 M = some (r, M') → nq_MA l E yX9_binds wsX9_binds (nq_rm n) [.ref (nq_ad E 0), .int x1, .int x2] K M (some (.int r)) K M') (hn : 2 ≤ n) (h : fX9_binds g_binds x1 x2 M = some (r, M')) : nq_MA l E yX9_binds wsX9_binds (nq_rm (n + 1)) [.ref (nq_ad E 0), .int x1, .int x2] K M (some (.int r)) K M' :=
  nq_met (own := RX9) (cc := cX9_binds) (maxL := 3) (ret := (some .int)) (by decide) rfl rfl (Nat.le_of_ble_eq_true rfl) (fun X hX hr => mX9_binds hL h_binds hn hX hr h)

def gBi_step (g : (Int32 → Int32 → Mem → Option (Int32 × Mem))) : (Int32 → Int32 → Mem → Option (Int32 × Mem)) := (fX9_binds g)
def gBi_all : Nat → (Int32 → Int32 → Mem → Option (Int32 × Mem))
  | 0 => fun _ _ _ => none
  | d + 1 => gBi_step (gBi_all d)
theorem gBi_ok {l : Launch} {E : Ev} {K : List Sh} : ∀ d : Nat, (∀ {x1 : Int32} {x2 : Int32} {M : Mem} {r : Int32} {M' : Mem} (hL : nq_atModel E K), ((gBi_all d)) x1 x2 M = some (r, M') → nq_MA l E yX9_binds wsX9_binds (nq_rm (2 + d)) [.ref (nq_ad E 0), .int x1, .int x2] K M (some (.int r)) K M') := by
  intro d
  induction d with
  | zero => exact (by intros; rename_i h; cases h)
  | succ d ih =>
    have i0 := @ih
    exact (by
      intro _ _ _ _ _ h0 h
      exact tX9_binds (n := 2 + d) h0 i0 (by omega) h)
def fX9_bindsC : Int32 → Int32 → Mem → Option (Int32 × Mem) := (gBi_all 12)
theorem tX9_bindsC {l : Launch} {E : Ev} {K : List Sh} {x1 : Int32} {x2 : Int32} {M : Mem} {r : Int32} {M' : Mem} (hL : nq_atModel E K) (h : fX9_bindsC x1 x2 M = some (r, M')) : nq_MA l E yX9_binds wsX9_binds (nq_rm 14) [.ref (nq_ad E 0), .int x1, .int x2] K M (some (.int r)) K M' := (gBi_ok (l := l) (E := E) (K := K) 12) hL h

theorem dsX9_from : yX9_from.cls ≠ "java/lang/invoke/MethodHandle" ∧ yX9_from.cls ≠ "java/lang/invoke/VarHandle" ∧ (parseMethodDescriptor yX9_from.desc).map (fun d => d.parameters.length) = some 2 := by decide +kernel
theorem inX9_from_9 : ∀ w ∈ u_ws RX9 TX9 23, w ∈ wsX9_from := by
  intro w h; unfold wsX9_from; simp only [List.mem_cons, List.mem_append]; simp only [h, true_or, or_true]
theorem lkX9_from_300 : Cond.fieldLink RX9 300 (TX9 18).1 (TX9 18).2.1 (TX9 18).2.2.1 ∈ wsX9_from := by decide +kernel
def fX9_from (g_from : Int32 → Int32 → Mem → Option (Int32 × Mem)) (x1 : Int32) (x2 : Int32) (M : Mem) : Option (Int32 × Mem) :=
  if x1 = 0 then
  ((fX9_ran (12 : Int32) M).bind fun M3 =>
  nq_lt (M3 0 18) fun v4 =>
  (fX9_wo v4 (6 : Int32) M3).bind fun v6 =>
  some ((x2 - v6), M3))
  else if x1 = 3 then
  ((fX9_ran (40 : Int32) M).bind fun M8 =>
  (fX9_above (3 : Int32) M8).bind fun v10 =>
  nq_b2 (g_from v10 x2 M8) fun v12 M13 =>
  some ((-v12), M13))
  else if x1 = 5 then
  ((fX9_ran (60 : Int32) M).bind fun M15 =>
  (fX9_above (5 : Int32) M15).bind fun v17 =>
  nq_b2 (g_from v17 (x2 + (1 : Int32)) M15) fun v19 M20 =>
  some (v19, M20))
  else ((fX9_above x1 M).bind fun v22 =>
  nq_b2 (g_from v22 x2 M) fun v24 M25 =>
  some (v24, M25))
set_option maxHeartbeats 4000000 in
theorem mX9_from {X : Cx} {E : Ev} {l : Launch} {K : List Sh} {n : Nat} {g_from : Int32 → Int32 → Mem → Option (Int32 × Mem)} {x1 : Int32} {x2 : Int32} {M : Mem} {r : Int32} {M' : Mem} (hL : nq_atModel E K) (h_from : ∀ {x1 : Int32} {x2 : Int32} {M : Mem} {r : Int32} {M' : Mem} (hL : nq_atModel E K), g_from x1 x2 M = some (r, M') → nq_MA l E yX9_from wsX9_from (nq_rm n) [.ref (nq_ad E 0), .int x1, .int x2] K M (some (.int r)) K M') (hn : 2 ≤ n) (hX : nq_OK X E l (nq_rm (n + 1)) cX9_from 3 RX9 wsX9_from) (hr : nq_RT X E (some .int) (some (.int r)) K M') (h : fX9_from g_from x1 x2 M = some (r, M')) : nq_G X E 3 0 [(0, .ref (nq_ad E 0)), (1, .int x1), (2, .int x2)] [] K M := by
  unfold fX9_from at h
  refine nq_iload_n hX rfl 1 rfl dX9_from_0 ?_
  by_cases c1_0 : x1 = 0
  · rw [if_pos c1_0] at h; refine nq_look hX (tgt := 36) (off := 35) dX9_from_1 (by decide) (by rw [c1_0]; rfl) (by decide) ?_
    refine nq_aload_n hX rfl 0 rfl dX9_from_36 ?_
    refine nq_bipush hX (v := 12) (by decide) dX9_from_37 ?_
    obtain ⟨M3, hc2, h⟩ := nq_bE h
    refine nq_callVv hX (tX9_ran hL hc2) gX9_from_X9_ran rfl rfl dsX9_ran (nq_room (by decide) (by omega)) (nq_Model_0 hL) rfl rfl (Nat.le_of_ble_eq_true rfl) dX9_from_39 ?_
    refine nq_iload_n hX rfl 2 rfl dX9_from_42 ?_
    refine nq_aload_n hX rfl 0 rfl dX9_from_43 ?_
    refine nq_aload_n hX rfl 0 rfl dX9_from_44 ?_
    obtain ⟨v4, e4, h⟩ := nq_ltE h
    refine nq_geti hX inX9_from_9 (nq_Model_0 hL) rfl 18 (by decide) lkX9_from_300 rfl e4 dX9_from_45 ?_
    refine nq_bipush hX (v := 6) (by decide) dX9_from_48 ?_
    obtain ⟨v6, hc5, h⟩ := nq_bE h
    refine nq_callVi hX (tX9_wo hL hc5) gX9_from_X9_wo rfl rfl dsX9_wo (nq_room (by decide) (by omega)) (nq_Model_0 hL) rfl rfl (Nat.le_of_ble_eq_true rfl) dX9_from_50 ?_
    refine nq_isub hX dX9_from_53 ?_
    obtain ⟨rfl, rfl⟩ := nq_sE2 h; exact nq_iret hX hr dX9_from_54
  rw [if_neg c1_0] at h
  by_cases c1_3 : x1 = 3
  · rw [if_pos c1_3] at h; refine nq_look hX (tgt := 55) (off := 54) dX9_from_1 (by decide) (by rw [c1_3]; rfl) (by decide) ?_
    refine nq_aload_n hX rfl 0 rfl dX9_from_55 ?_
    refine nq_bipush hX (v := 40) (by decide) dX9_from_56 ?_
    obtain ⟨M8, hc7, h⟩ := nq_bE h
    refine nq_callVv hX (tX9_ran hL hc7) gX9_from_X9_ran rfl rfl dsX9_ran (nq_room (by decide) (by omega)) (nq_Model_0 hL) rfl rfl (Nat.le_of_ble_eq_true rfl) dX9_from_58 ?_
    refine nq_aload_n hX rfl 0 rfl dX9_from_61 ?_
    refine nq_iconst hX (v := 3) (by decide) dX9_from_62 ?_
    obtain ⟨v10, hc9, h⟩ := nq_bE h
    refine nq_callSi hX (tX9_above  hc9) gX9_from_X9_above rfl rfl dsX9_above (nq_room (by decide) (by omega)) rfl (Nat.le_of_ble_eq_true rfl) dX9_from_63 ?_
    refine nq_iload_n hX rfl 2 rfl dX9_from_66 ?_
    obtain ⟨v12, M13, hc11, h⟩ := nq_b2E h
    refine nq_callVi hX (h_from hL hc11) gX9_from_X9_from rfl rfl dsX9_from (nq_room (by decide) (by omega)) (nq_Model_0 hL) rfl rfl (Nat.le_of_ble_eq_true rfl) dX9_from_67 ?_
    refine nq_ineg hX dX9_from_70 ?_
    obtain ⟨rfl, rfl⟩ := nq_sE2 h; exact nq_iret hX hr dX9_from_71
  rw [if_neg c1_3] at h
  by_cases c1_5 : x1 = 5
  · rw [if_pos c1_5] at h; refine nq_look hX (tgt := 72) (off := 71) dX9_from_1 (by decide) (by rw [c1_5]; rfl) (by decide) ?_
    refine nq_aload_n hX rfl 0 rfl dX9_from_72 ?_
    refine nq_bipush hX (v := 60) (by decide) dX9_from_73 ?_
    obtain ⟨M15, hc14, h⟩ := nq_bE h
    refine nq_callVv hX (tX9_ran hL hc14) gX9_from_X9_ran rfl rfl dsX9_ran (nq_room (by decide) (by omega)) (nq_Model_0 hL) rfl rfl (Nat.le_of_ble_eq_true rfl) dX9_from_75 ?_
    refine nq_aload_n hX rfl 0 rfl dX9_from_78 ?_
    refine nq_iconst hX (v := 5) (by decide) dX9_from_79 ?_
    obtain ⟨v17, hc16, h⟩ := nq_bE h
    refine nq_callSi hX (tX9_above  hc16) gX9_from_X9_above rfl rfl dsX9_above (nq_room (by decide) (by omega)) rfl (Nat.le_of_ble_eq_true rfl) dX9_from_80 ?_
    refine nq_iload_n hX rfl 2 rfl dX9_from_83 ?_
    refine nq_iconst hX (v := 1) (by decide) dX9_from_84 ?_
    refine nq_iadd hX dX9_from_85 ?_
    obtain ⟨v19, M20, hc18, h⟩ := nq_b2E h
    refine nq_callVi hX (h_from hL hc18) gX9_from_X9_from rfl rfl dsX9_from (nq_room (by decide) (by omega)) (nq_Model_0 hL) rfl rfl (Nat.le_of_ble_eq_true rfl) dX9_from_86 ?_
    obtain ⟨rfl, rfl⟩ := nq_sE2 h; exact nq_iret hX hr dX9_from_89
  rw [if_neg c1_5] at h
  refine nq_look hX (tgt := 90) (off := 89) dX9_from_1 (by decide) (by have z0 := nq_tnf (k := 0) (n := 0) (by decide) c1_0; have z3 := nq_tnf (k := 3) (n := 3) (by decide) c1_3; have z5 := nq_tnf (k := 5) (n := 5) (by decide) c1_5; simp [Op.lookupswitch.offset, *]) (by decide) ?_
  refine nq_aload_n hX rfl 0 rfl dX9_from_90 ?_
  refine nq_iload_n hX rfl 1 rfl dX9_from_91 ?_
  obtain ⟨v22, hc21, h⟩ := nq_bE h
  refine nq_callSi hX (tX9_above  hc21) gX9_from_X9_above rfl rfl dsX9_above (nq_room (by decide) (by omega)) rfl (Nat.le_of_ble_eq_true rfl) dX9_from_92 ?_
  refine nq_iload_n hX rfl 2 rfl dX9_from_95 ?_
  obtain ⟨v24, M25, hc23, h⟩ := nq_b2E h
  refine nq_callVi hX (h_from hL hc23) gX9_from_X9_from rfl rfl dsX9_from (nq_room (by decide) (by omega)) (nq_Model_0 hL) rfl rfl (Nat.le_of_ble_eq_true rfl) dX9_from_96 ?_
  obtain ⟨rfl, rfl⟩ := nq_sE2 h; exact nq_iret hX hr dX9_from_99
theorem tX9_from {l : Launch} {E : Ev} {K : List Sh} {n : Nat} {g_from : Int32 → Int32 → Mem → Option (Int32 × Mem)} {x1 : Int32} {x2 : Int32} {M : Mem} {r : Int32} {M' : Mem} (hL : nq_atModel E K) (h_from : ∀ {x1 : Int32} {x2 : Int32} {M : Mem} {r : Int32} {M' : Mem} (hL : nq_atModel E K), g_from x1 x2 M = some (r, M') → nq_MA l E yX9_from wsX9_from (nq_rm n) [.ref (nq_ad E 0), .int x1, .int x2] K M (some (.int r)) K M') (hn : 2 ≤ n) (h : fX9_from g_from x1 x2 M = some (r, M')) : nq_MA l E yX9_from wsX9_from (nq_rm (n + 1)) [.ref (nq_ad E 0), .int x1, .int x2] K M (some (.int r)) K M' :=
  nq_met (own := RX9) (cc := cX9_from) (maxL := 3) (ret := (some .int)) (by decide) rfl rfl (Nat.le_of_ble_eq_true rfl) (fun X hX hr => mX9_from hL h_from hn hX hr h)

def gFr_step (g : (Int32 → Int32 → Mem → Option (Int32 × Mem))) : (Int32 → Int32 → Mem → Option (Int32 × Mem)) := (fX9_from g)
def gFr_all : Nat → (Int32 → Int32 → Mem → Option (Int32 × Mem))
  | 0 => fun _ _ _ => none
  | d + 1 => gFr_step (gFr_all d)
theorem gFr_ok {l : Launch} {E : Ev} {K : List Sh} : ∀ d : Nat, (∀ {x1 : Int32} {x2 : Int32} {M : Mem} {r : Int32} {M' : Mem} (hL : nq_atModel E K), ((gFr_all d)) x1 x2 M = some (r, M') → nq_MA l E yX9_from wsX9_from (nq_rm (2 + d)) [.ref (nq_ad E 0), .int x1, .int x2] K M (some (.int r)) K M') := by
  intro d
  induction d with
  | zero => exact (by intros; rename_i h; cases h)
  | succ d ih =>
    have i0 := @ih
    exact (by
      intro _ _ _ _ _ h0 h
      exact tX9_from (n := 2 + d) h0 i0 (by omega) h)
def fX9_fromC : Int32 → Int32 → Mem → Option (Int32 × Mem) := (gFr_all 12)
theorem tX9_fromC {l : Launch} {E : Ev} {K : List Sh} {x1 : Int32} {x2 : Int32} {M : Mem} {r : Int32} {M' : Mem} (hL : nq_atModel E K) (h : fX9_fromC x1 x2 M = some (r, M')) : nq_MA l E yX9_from wsX9_from (nq_rm 14) [.ref (nq_ad E 0), .int x1, .int x2] K M (some (.int r)) K M' := (gFr_ok (l := l) (E := E) (K := K) 12) hL h

theorem dsX9_whom : yX9_whom.cls ≠ "java/lang/invoke/MethodHandle" ∧ yX9_whom.cls ≠ "java/lang/invoke/VarHandle" ∧ (parseMethodDescriptor yX9_whom.desc).map (fun d => d.parameters.length) = some 2 := by decide +kernel
theorem inX9_whom_9 : ∀ w ∈ u_ws RX9 TX9 23, w ∈ wsX9_whom := by
  intro w h; unfold wsX9_whom; simp only [List.mem_cons, List.mem_append]; simp only [h, true_or, or_true]
theorem lkX9_whom_300 : Cond.fieldLink RX9 300 (TX9 18).1 (TX9 18).2.1 (TX9 18).2.2.1 ∈ wsX9_whom := by decide +kernel
def fX9_whom (g_whom : Int32 → Int32 → Mem → Option (Int32 × Mem)) (x1 : Int32) (x2 : Int32) (M : Mem) : Option (Int32 × Mem) :=
  if x1 = 0 then
  ((fX9_ran (11 : Int32) M).bind fun M3 =>
  (fX9_own  M3).bind fun v5 =>
  nq_b2 (fX9_bindsC v5 x2 M3) fun v7 M8 =>
  some ((v7 * (2 : Int32)), M8))
  else if x1 = 2 then
  ((fX9_ran (30 : Int32) M).bind fun M10 =>
  (fX9_above (2 : Int32) M10).bind fun v12 =>
  nq_b2 (g_whom v12 x2 M10) fun v14 M15 =>
  (fX9_own  M15).bind fun v17 =>
  nq_b2 (fX9_fromC v17 (1 : Int32) M15) fun v19 M20 =>
  some ((v14 + v19), M20))
  else if x1 = 5 then
  ((fX9_ran (61 : Int32) M).bind fun M22 =>
  (fX9_above (5 : Int32) M22).bind fun v24 =>
  nq_b2 (g_whom v24 x2 M22) fun v26 M27 =>
  nq_lt (M27 0 18) fun v28 =>
  some ((v26 ^^^ v28), M27))
  else ((fX9_above x1 M).bind fun v30 =>
  nq_b2 (g_whom v30 x2 M) fun v32 M33 =>
  some (v32, M33))
set_option maxHeartbeats 4000000 in
theorem mX9_whom {X : Cx} {E : Ev} {l : Launch} {K : List Sh} {n : Nat} {g_whom : Int32 → Int32 → Mem → Option (Int32 × Mem)} {x1 : Int32} {x2 : Int32} {M : Mem} {r : Int32} {M' : Mem} (hL : nq_atModel E K) (h_whom : ∀ {x1 : Int32} {x2 : Int32} {M : Mem} {r : Int32} {M' : Mem} (hL : nq_atModel E K), g_whom x1 x2 M = some (r, M') → nq_MA l E yX9_whom wsX9_whom (nq_rm n) [.ref (nq_ad E 0), .int x1, .int x2] K M (some (.int r)) K M') (hn : 14 ≤ n) (hX : nq_OK X E l (nq_rm (n + 1)) cX9_whom 4 RX9 wsX9_whom) (hr : nq_RT X E (some .int) (some (.int r)) K M') (h : fX9_whom g_whom x1 x2 M = some (r, M')) : nq_G X E 4 0 [(0, .ref (nq_ad E 0)), (1, .int x1), (2, .int x2)] [] K M := by
  unfold fX9_whom at h
  refine nq_iload_n hX rfl 1 rfl dX9_whom_0 ?_
  by_cases c1_0 : x1 = 0
  · rw [if_pos c1_0] at h; refine nq_look hX (tgt := 36) (off := 35) dX9_whom_1 (by decide) (by rw [c1_0]; rfl) (by decide) ?_
    refine nq_aload_n hX rfl 0 rfl dX9_whom_36 ?_
    refine nq_bipush hX (v := 11) (by decide) dX9_whom_37 ?_
    obtain ⟨M3, hc2, h⟩ := nq_bE h
    refine nq_callVv hX (tX9_ran hL hc2) gX9_whom_X9_ran rfl rfl dsX9_ran (nq_room (by decide) (by omega)) (nq_Model_0 hL) rfl rfl (Nat.le_of_ble_eq_true rfl) dX9_whom_39 ?_
    refine nq_aload_n hX rfl 0 rfl dX9_whom_42 ?_
    refine nq_aload_n hX rfl 0 rfl dX9_whom_43 ?_
    obtain ⟨v5, hc4, h⟩ := nq_bE h
    refine nq_callVi hX (tX9_own hL hc4) gX9_whom_X9_own rfl rfl dsX9_own (nq_room (by decide) (by omega)) (nq_Model_0 hL) rfl rfl (Nat.le_of_ble_eq_true rfl) dX9_whom_44 ?_
    refine nq_iload_n hX rfl 2 rfl dX9_whom_47 ?_
    obtain ⟨v7, M8, hc6, h⟩ := nq_b2E h
    refine nq_callVi hX (tX9_bindsC hL hc6) gX9_whom_X9_binds rfl rfl dsX9_binds (nq_room (by decide) (by omega)) (nq_Model_0 hL) rfl rfl (Nat.le_of_ble_eq_true rfl) dX9_whom_48 ?_
    refine nq_iconst hX (v := 2) (by decide) dX9_whom_51 ?_
    refine nq_imul hX dX9_whom_52 ?_
    obtain ⟨rfl, rfl⟩ := nq_sE2 h; exact nq_iret hX hr dX9_whom_53
  rw [if_neg c1_0] at h
  by_cases c1_2 : x1 = 2
  · rw [if_pos c1_2] at h; refine nq_look hX (tgt := 54) (off := 53) dX9_whom_1 (by decide) (by rw [c1_2]; rfl) (by decide) ?_
    refine nq_aload_n hX rfl 0 rfl dX9_whom_54 ?_
    refine nq_bipush hX (v := 30) (by decide) dX9_whom_55 ?_
    obtain ⟨M10, hc9, h⟩ := nq_bE h
    refine nq_callVv hX (tX9_ran hL hc9) gX9_whom_X9_ran rfl rfl dsX9_ran (nq_room (by decide) (by omega)) (nq_Model_0 hL) rfl rfl (Nat.le_of_ble_eq_true rfl) dX9_whom_57 ?_
    refine nq_aload_n hX rfl 0 rfl dX9_whom_60 ?_
    refine nq_iconst hX (v := 2) (by decide) dX9_whom_61 ?_
    obtain ⟨v12, hc11, h⟩ := nq_bE h
    refine nq_callSi hX (tX9_above  hc11) gX9_whom_X9_above rfl rfl dsX9_above (nq_room (by decide) (by omega)) rfl (Nat.le_of_ble_eq_true rfl) dX9_whom_62 ?_
    refine nq_iload_n hX rfl 2 rfl dX9_whom_65 ?_
    obtain ⟨v14, M15, hc13, h⟩ := nq_b2E h
    refine nq_callVi hX (h_whom hL hc13) gX9_whom_X9_whom rfl rfl dsX9_whom (nq_room (by decide) (by omega)) (nq_Model_0 hL) rfl rfl (Nat.le_of_ble_eq_true rfl) dX9_whom_66 ?_
    refine nq_istore_n hX (lv' := [(3, .int v14), (0, .ref (nq_ad E 0)), (1, .int x1), (2, .int x2)]) rfl (by decide) rfl rfl dX9_whom_69 ?_
    refine nq_iload_n hX rfl 0 rfl dX9_whom_70 ?_
    refine nq_aload_n hX rfl 1 rfl dX9_whom_71 ?_
    refine nq_aload_n hX rfl 1 rfl dX9_whom_72 ?_
    obtain ⟨v17, hc16, h⟩ := nq_bE h
    refine nq_callVi hX (tX9_own hL hc16) gX9_whom_X9_own rfl rfl dsX9_own (nq_room (by decide) (by omega)) (nq_Model_0 hL) rfl rfl (Nat.le_of_ble_eq_true rfl) dX9_whom_73 ?_
    refine nq_iconst hX (v := 1) (by decide) dX9_whom_76 ?_
    obtain ⟨v19, M20, hc18, h⟩ := nq_b2E h
    refine nq_callVi hX (tX9_fromC hL hc18) gX9_whom_X9_from rfl rfl dsX9_from (nq_room (by decide) (by omega)) (nq_Model_0 hL) rfl rfl (Nat.le_of_ble_eq_true rfl) dX9_whom_77 ?_
    refine nq_iadd hX dX9_whom_80 ?_
    obtain ⟨rfl, rfl⟩ := nq_sE2 h; exact nq_iret hX hr dX9_whom_81
  rw [if_neg c1_2] at h
  by_cases c1_5 : x1 = 5
  · rw [if_pos c1_5] at h; refine nq_look hX (tgt := 82) (off := 81) dX9_whom_1 (by decide) (by rw [c1_5]; rfl) (by decide) ?_
    refine nq_aload_n hX rfl 0 rfl dX9_whom_82 ?_
    refine nq_bipush hX (v := 61) (by decide) dX9_whom_83 ?_
    obtain ⟨M22, hc21, h⟩ := nq_bE h
    refine nq_callVv hX (tX9_ran hL hc21) gX9_whom_X9_ran rfl rfl dsX9_ran (nq_room (by decide) (by omega)) (nq_Model_0 hL) rfl rfl (Nat.le_of_ble_eq_true rfl) dX9_whom_85 ?_
    refine nq_aload_n hX rfl 0 rfl dX9_whom_88 ?_
    refine nq_iconst hX (v := 5) (by decide) dX9_whom_89 ?_
    obtain ⟨v24, hc23, h⟩ := nq_bE h
    refine nq_callSi hX (tX9_above  hc23) gX9_whom_X9_above rfl rfl dsX9_above (nq_room (by decide) (by omega)) rfl (Nat.le_of_ble_eq_true rfl) dX9_whom_90 ?_
    refine nq_iload_n hX rfl 2 rfl dX9_whom_93 ?_
    obtain ⟨v26, M27, hc25, h⟩ := nq_b2E h
    refine nq_callVi hX (h_whom hL hc25) gX9_whom_X9_whom rfl rfl dsX9_whom (nq_room (by decide) (by omega)) (nq_Model_0 hL) rfl rfl (Nat.le_of_ble_eq_true rfl) dX9_whom_94 ?_
    refine nq_aload_n hX rfl 0 rfl dX9_whom_97 ?_
    obtain ⟨v28, e28, h⟩ := nq_ltE h
    refine nq_geti hX inX9_whom_9 (nq_Model_0 hL) rfl 18 (by decide) lkX9_whom_300 rfl e28 dX9_whom_98 ?_
    refine nq_ixor hX dX9_whom_101 ?_
    obtain ⟨rfl, rfl⟩ := nq_sE2 h; exact nq_iret hX hr dX9_whom_102
  rw [if_neg c1_5] at h
  refine nq_look hX (tgt := 103) (off := 102) dX9_whom_1 (by decide) (by have z0 := nq_tnf (k := 0) (n := 0) (by decide) c1_0; have z2 := nq_tnf (k := 2) (n := 2) (by decide) c1_2; have z5 := nq_tnf (k := 5) (n := 5) (by decide) c1_5; simp [Op.lookupswitch.offset, *]) (by decide) ?_
  refine nq_aload_n hX rfl 0 rfl dX9_whom_103 ?_
  refine nq_iload_n hX rfl 1 rfl dX9_whom_104 ?_
  obtain ⟨v30, hc29, h⟩ := nq_bE h
  refine nq_callSi hX (tX9_above  hc29) gX9_whom_X9_above rfl rfl dsX9_above (nq_room (by decide) (by omega)) rfl (Nat.le_of_ble_eq_true rfl) dX9_whom_105 ?_
  refine nq_iload_n hX rfl 2 rfl dX9_whom_108 ?_
  obtain ⟨v32, M33, hc31, h⟩ := nq_b2E h
  refine nq_callVi hX (h_whom hL hc31) gX9_whom_X9_whom rfl rfl dsX9_whom (nq_room (by decide) (by omega)) (nq_Model_0 hL) rfl rfl (Nat.le_of_ble_eq_true rfl) dX9_whom_109 ?_
  obtain ⟨rfl, rfl⟩ := nq_sE2 h; exact nq_iret hX hr dX9_whom_112
theorem tX9_whom {l : Launch} {E : Ev} {K : List Sh} {n : Nat} {g_whom : Int32 → Int32 → Mem → Option (Int32 × Mem)} {x1 : Int32} {x2 : Int32} {M : Mem} {r : Int32} {M' : Mem} (hL : nq_atModel E K) (h_whom : ∀ {x1 : Int32} {x2 : Int32} {M : Mem} {r : Int32} {M' : Mem} (hL : nq_atModel E K), g_whom x1 x2 M = some (r, M') → nq_MA l E yX9_whom wsX9_whom (nq_rm n) [.ref (nq_ad E 0), .int x1, .int x2] K M (some (.int r)) K M') (hn : 14 ≤ n) (h : fX9_whom g_whom x1 x2 M = some (r, M')) : nq_MA l E yX9_whom wsX9_whom (nq_rm (n + 1)) [.ref (nq_ad E 0), .int x1, .int x2] K M (some (.int r)) K M' :=
  nq_met (own := RX9) (cc := cX9_whom) (maxL := 4) (ret := (some .int)) (by decide) rfl rfl (Nat.le_of_ble_eq_true rfl) (fun X hX hr => mX9_whom hL h_whom hn hX hr h)

def gWh_step (g : (Int32 → Int32 → Mem → Option (Int32 × Mem))) : (Int32 → Int32 → Mem → Option (Int32 × Mem)) := (fX9_whom g)
def gWh_all : Nat → (Int32 → Int32 → Mem → Option (Int32 × Mem))
  | 0 => fun _ _ _ => none
  | d + 1 => gWh_step (gWh_all d)
theorem gWh_ok {l : Launch} {E : Ev} {K : List Sh} : ∀ d : Nat, (∀ {x1 : Int32} {x2 : Int32} {M : Mem} {r : Int32} {M' : Mem} (hL : nq_atModel E K), ((gWh_all d)) x1 x2 M = some (r, M') → nq_MA l E yX9_whom wsX9_whom (nq_rm (14 + d)) [.ref (nq_ad E 0), .int x1, .int x2] K M (some (.int r)) K M') := by
  intro d
  induction d with
  | zero => exact (by intros; rename_i h; cases h)
  | succ d ih =>
    have i0 := @ih
    exact (by
      intro _ _ _ _ _ h0 h
      exact tX9_whom (n := 14 + d) h0 i0 (by omega) h)
def fX9_whomC : Int32 → Int32 → Mem → Option (Int32 × Mem) := (gWh_all 12)
theorem tX9_whomC {l : Launch} {E : Ev} {K : List Sh} {x1 : Int32} {x2 : Int32} {M : Mem} {r : Int32} {M' : Mem} (hL : nq_atModel E K) (h : fX9_whomC x1 x2 M = some (r, M')) : nq_MA l E yX9_whom wsX9_whom (nq_rm 26) [.ref (nq_ad E 0), .int x1, .int x2] K M (some (.int r)) K M' := (gWh_ok (l := l) (E := E) (K := K) 12) hL h

theorem dsX9_tells : yX9_tells.cls ≠ "java/lang/invoke/MethodHandle" ∧ yX9_tells.cls ≠ "java/lang/invoke/VarHandle" ∧ (parseMethodDescriptor yX9_tells.desc).map (fun d => d.parameters.length) = some 2 := by decide +kernel
def fX9_tells (g_tells : Int32 → Int32 → Mem → Option (Int32 × Mem)) (x1 : Int32) (x2 : Int32) (M : Mem) : Option (Int32 × Mem) :=
  if x1 = 0 then
  ((fX9_ran (13 : Int32) M).bind fun M3 =>
  (fX9_own  M3).bind fun v5 =>
  nq_b2 (fX9_whomC v5 x2 M3) fun v7 M8 =>
  (fX9_own  M8).bind fun v10 =>
  nq_b2 (fX9_fromC v10 x2 M8) fun v12 M13 =>
  some ((v7 ^^^ v12), M13))
  else if x1 = 4 then
  ((fX9_ran (50 : Int32) M).bind fun M15 =>
  (fX9_own  M15).bind fun v17 =>
  nq_b2 (fX9_bindsC v17 (2 : Int32) M15) fun v19 M20 =>
  (fX9_above (4 : Int32) M20).bind fun v22 =>
  nq_b2 (g_tells v22 x2 M20) fun v24 M25 =>
  some ((v19 - v24), M25))
  else if x1 = 6 then
  ((fX9_ran (71 : Int32) M).bind fun M27 =>
  (fX9_above (6 : Int32) M27).bind fun v29 =>
  nq_b2 (g_tells v29 x2 M27) fun v31 M32 =>
  some ((v31 * (5 : Int32)), M32))
  else ((fX9_above x1 M).bind fun v34 =>
  nq_b2 (g_tells v34 x2 M) fun v36 M37 =>
  some (v36, M37))
set_option maxHeartbeats 4000000 in
theorem mX9_tells {X : Cx} {E : Ev} {l : Launch} {K : List Sh} {n : Nat} {g_tells : Int32 → Int32 → Mem → Option (Int32 × Mem)} {x1 : Int32} {x2 : Int32} {M : Mem} {r : Int32} {M' : Mem} (hL : nq_atModel E K) (h_tells : ∀ {x1 : Int32} {x2 : Int32} {M : Mem} {r : Int32} {M' : Mem} (hL : nq_atModel E K), g_tells x1 x2 M = some (r, M') → nq_MA l E yX9_tells wsX9_tells (nq_rm n) [.ref (nq_ad E 0), .int x1, .int x2] K M (some (.int r)) K M') (hn : 26 ≤ n) (hX : nq_OK X E l (nq_rm (n + 1)) cX9_tells 4 RX9 wsX9_tells) (hr : nq_RT X E (some .int) (some (.int r)) K M') (h : fX9_tells g_tells x1 x2 M = some (r, M')) : nq_G X E 4 0 [(0, .ref (nq_ad E 0)), (1, .int x1), (2, .int x2)] [] K M := by
  unfold fX9_tells at h
  refine nq_iload_n hX rfl 1 rfl dX9_tells_0 ?_
  by_cases c1_0 : x1 = 0
  · rw [if_pos c1_0] at h; refine nq_look hX (tgt := 36) (off := 35) dX9_tells_1 (by decide) (by rw [c1_0]; rfl) (by decide) ?_
    refine nq_aload_n hX rfl 0 rfl dX9_tells_36 ?_
    refine nq_bipush hX (v := 13) (by decide) dX9_tells_37 ?_
    obtain ⟨M3, hc2, h⟩ := nq_bE h
    refine nq_callVv hX (tX9_ran hL hc2) gX9_tells_X9_ran rfl rfl dsX9_ran (nq_room (by decide) (by omega)) (nq_Model_0 hL) rfl rfl (Nat.le_of_ble_eq_true rfl) dX9_tells_39 ?_
    refine nq_aload_n hX rfl 0 rfl dX9_tells_42 ?_
    refine nq_aload_n hX rfl 0 rfl dX9_tells_43 ?_
    obtain ⟨v5, hc4, h⟩ := nq_bE h
    refine nq_callVi hX (tX9_own hL hc4) gX9_tells_X9_own rfl rfl dsX9_own (nq_room (by decide) (by omega)) (nq_Model_0 hL) rfl rfl (Nat.le_of_ble_eq_true rfl) dX9_tells_44 ?_
    refine nq_iload_n hX rfl 2 rfl dX9_tells_47 ?_
    obtain ⟨v7, M8, hc6, h⟩ := nq_b2E h
    refine nq_callVi hX (tX9_whomC hL hc6) gX9_tells_X9_whom rfl rfl dsX9_whom (nq_room (by decide) (by omega)) (nq_Model_0 hL) rfl rfl (Nat.le_of_ble_eq_true rfl) dX9_tells_48 ?_
    refine nq_istore_n hX (lv' := [(3, .int v7), (0, .ref (nq_ad E 0)), (1, .int x1), (2, .int x2)]) rfl (by decide) rfl rfl dX9_tells_51 ?_
    refine nq_iload_n hX rfl 0 rfl dX9_tells_52 ?_
    refine nq_aload_n hX rfl 1 rfl dX9_tells_53 ?_
    refine nq_aload_n hX rfl 1 rfl dX9_tells_54 ?_
    obtain ⟨v10, hc9, h⟩ := nq_bE h
    refine nq_callVi hX (tX9_own hL hc9) gX9_tells_X9_own rfl rfl dsX9_own (nq_room (by decide) (by omega)) (nq_Model_0 hL) rfl rfl (Nat.le_of_ble_eq_true rfl) dX9_tells_55 ?_
    refine nq_iload_n hX rfl 3 rfl dX9_tells_58 ?_
    obtain ⟨v12, M13, hc11, h⟩ := nq_b2E h
    refine nq_callVi hX (tX9_fromC hL hc11) gX9_tells_X9_from rfl rfl dsX9_from (nq_room (by decide) (by omega)) (nq_Model_0 hL) rfl rfl (Nat.le_of_ble_eq_true rfl) dX9_tells_59 ?_
    refine nq_ixor hX dX9_tells_62 ?_
    obtain ⟨rfl, rfl⟩ := nq_sE2 h; exact nq_iret hX hr dX9_tells_63
  rw [if_neg c1_0] at h
  by_cases c1_4 : x1 = 4
  · rw [if_pos c1_4] at h; refine nq_look hX (tgt := 64) (off := 63) dX9_tells_1 (by decide) (by rw [c1_4]; rfl) (by decide) ?_
    refine nq_aload_n hX rfl 0 rfl dX9_tells_64 ?_
    refine nq_bipush hX (v := 50) (by decide) dX9_tells_65 ?_
    obtain ⟨M15, hc14, h⟩ := nq_bE h
    refine nq_callVv hX (tX9_ran hL hc14) gX9_tells_X9_ran rfl rfl dsX9_ran (nq_room (by decide) (by omega)) (nq_Model_0 hL) rfl rfl (Nat.le_of_ble_eq_true rfl) dX9_tells_67 ?_
    refine nq_aload_n hX rfl 0 rfl dX9_tells_70 ?_
    refine nq_aload_n hX rfl 0 rfl dX9_tells_71 ?_
    obtain ⟨v17, hc16, h⟩ := nq_bE h
    refine nq_callVi hX (tX9_own hL hc16) gX9_tells_X9_own rfl rfl dsX9_own (nq_room (by decide) (by omega)) (nq_Model_0 hL) rfl rfl (Nat.le_of_ble_eq_true rfl) dX9_tells_72 ?_
    refine nq_iconst hX (v := 2) (by decide) dX9_tells_75 ?_
    obtain ⟨v19, M20, hc18, h⟩ := nq_b2E h
    refine nq_callVi hX (tX9_bindsC hL hc18) gX9_tells_X9_binds rfl rfl dsX9_binds (nq_room (by decide) (by omega)) (nq_Model_0 hL) rfl rfl (Nat.le_of_ble_eq_true rfl) dX9_tells_76 ?_
    refine nq_istore_n hX (lv' := [(3, .int v19), (0, .ref (nq_ad E 0)), (1, .int x1), (2, .int x2)]) rfl (by decide) rfl rfl dX9_tells_79 ?_
    refine nq_iload_n hX rfl 0 rfl dX9_tells_80 ?_
    refine nq_aload_n hX rfl 1 rfl dX9_tells_81 ?_
    refine nq_iconst hX (v := 4) (by decide) dX9_tells_82 ?_
    obtain ⟨v22, hc21, h⟩ := nq_bE h
    refine nq_callSi hX (tX9_above  hc21) gX9_tells_X9_above rfl rfl dsX9_above (nq_room (by decide) (by omega)) rfl (Nat.le_of_ble_eq_true rfl) dX9_tells_83 ?_
    refine nq_iload_n hX rfl 3 rfl dX9_tells_86 ?_
    obtain ⟨v24, M25, hc23, h⟩ := nq_b2E h
    refine nq_callVi hX (h_tells hL hc23) gX9_tells_X9_tells rfl rfl dsX9_tells (nq_room (by decide) (by omega)) (nq_Model_0 hL) rfl rfl (Nat.le_of_ble_eq_true rfl) dX9_tells_87 ?_
    refine nq_isub hX dX9_tells_90 ?_
    obtain ⟨rfl, rfl⟩ := nq_sE2 h; exact nq_iret hX hr dX9_tells_91
  rw [if_neg c1_4] at h
  by_cases c1_6 : x1 = 6
  · rw [if_pos c1_6] at h; refine nq_look hX (tgt := 92) (off := 91) dX9_tells_1 (by decide) (by rw [c1_6]; rfl) (by decide) ?_
    refine nq_aload_n hX rfl 0 rfl dX9_tells_92 ?_
    refine nq_bipush hX (v := 71) (by decide) dX9_tells_93 ?_
    obtain ⟨M27, hc26, h⟩ := nq_bE h
    refine nq_callVv hX (tX9_ran hL hc26) gX9_tells_X9_ran rfl rfl dsX9_ran (nq_room (by decide) (by omega)) (nq_Model_0 hL) rfl rfl (Nat.le_of_ble_eq_true rfl) dX9_tells_95 ?_
    refine nq_aload_n hX rfl 0 rfl dX9_tells_98 ?_
    refine nq_bipush hX (v := 6) (by decide) dX9_tells_99 ?_
    obtain ⟨v29, hc28, h⟩ := nq_bE h
    refine nq_callSi hX (tX9_above  hc28) gX9_tells_X9_above rfl rfl dsX9_above (nq_room (by decide) (by omega)) rfl (Nat.le_of_ble_eq_true rfl) dX9_tells_101 ?_
    refine nq_iload_n hX rfl 2 rfl dX9_tells_104 ?_
    obtain ⟨v31, M32, hc30, h⟩ := nq_b2E h
    refine nq_callVi hX (h_tells hL hc30) gX9_tells_X9_tells rfl rfl dsX9_tells (nq_room (by decide) (by omega)) (nq_Model_0 hL) rfl rfl (Nat.le_of_ble_eq_true rfl) dX9_tells_105 ?_
    refine nq_iconst hX (v := 5) (by decide) dX9_tells_108 ?_
    refine nq_imul hX dX9_tells_109 ?_
    obtain ⟨rfl, rfl⟩ := nq_sE2 h; exact nq_iret hX hr dX9_tells_110
  rw [if_neg c1_6] at h
  refine nq_look hX (tgt := 111) (off := 110) dX9_tells_1 (by decide) (by have z0 := nq_tnf (k := 0) (n := 0) (by decide) c1_0; have z4 := nq_tnf (k := 4) (n := 4) (by decide) c1_4; have z6 := nq_tnf (k := 6) (n := 6) (by decide) c1_6; simp [Op.lookupswitch.offset, *]) (by decide) ?_
  refine nq_aload_n hX rfl 0 rfl dX9_tells_111 ?_
  refine nq_iload_n hX rfl 1 rfl dX9_tells_112 ?_
  obtain ⟨v34, hc33, h⟩ := nq_bE h
  refine nq_callSi hX (tX9_above  hc33) gX9_tells_X9_above rfl rfl dsX9_above (nq_room (by decide) (by omega)) rfl (Nat.le_of_ble_eq_true rfl) dX9_tells_113 ?_
  refine nq_iload_n hX rfl 2 rfl dX9_tells_116 ?_
  obtain ⟨v36, M37, hc35, h⟩ := nq_b2E h
  refine nq_callVi hX (h_tells hL hc35) gX9_tells_X9_tells rfl rfl dsX9_tells (nq_room (by decide) (by omega)) (nq_Model_0 hL) rfl rfl (Nat.le_of_ble_eq_true rfl) dX9_tells_117 ?_
  obtain ⟨rfl, rfl⟩ := nq_sE2 h; exact nq_iret hX hr dX9_tells_120
theorem tX9_tells {l : Launch} {E : Ev} {K : List Sh} {n : Nat} {g_tells : Int32 → Int32 → Mem → Option (Int32 × Mem)} {x1 : Int32} {x2 : Int32} {M : Mem} {r : Int32} {M' : Mem} (hL : nq_atModel E K) (h_tells : ∀ {x1 : Int32} {x2 : Int32} {M : Mem} {r : Int32} {M' : Mem} (hL : nq_atModel E K), g_tells x1 x2 M = some (r, M') → nq_MA l E yX9_tells wsX9_tells (nq_rm n) [.ref (nq_ad E 0), .int x1, .int x2] K M (some (.int r)) K M') (hn : 26 ≤ n) (h : fX9_tells g_tells x1 x2 M = some (r, M')) : nq_MA l E yX9_tells wsX9_tells (nq_rm (n + 1)) [.ref (nq_ad E 0), .int x1, .int x2] K M (some (.int r)) K M' :=
  nq_met (own := RX9) (cc := cX9_tells) (maxL := 4) (ret := (some .int)) (by decide) rfl rfl (Nat.le_of_ble_eq_true rfl) (fun X hX hr => mX9_tells hL h_tells hn hX hr h)

def gTe_step (g : (Int32 → Int32 → Mem → Option (Int32 × Mem))) : (Int32 → Int32 → Mem → Option (Int32 × Mem)) := (fX9_tells g)
def gTe_all : Nat → (Int32 → Int32 → Mem → Option (Int32 × Mem))
  | 0 => fun _ _ _ => none
  | d + 1 => gTe_step (gTe_all d)
theorem gTe_ok {l : Launch} {E : Ev} {K : List Sh} : ∀ d : Nat, (∀ {x1 : Int32} {x2 : Int32} {M : Mem} {r : Int32} {M' : Mem} (hL : nq_atModel E K), ((gTe_all d)) x1 x2 M = some (r, M') → nq_MA l E yX9_tells wsX9_tells (nq_rm (26 + d)) [.ref (nq_ad E 0), .int x1, .int x2] K M (some (.int r)) K M') := by
  intro d
  induction d with
  | zero => exact (by intros; rename_i h; cases h)
  | succ d ih =>
    have i0 := @ih
    exact (by
      intro _ _ _ _ _ h0 h
      exact tX9_tells (n := 26 + d) h0 i0 (by omega) h)
def fX9_tellsC : Int32 → Int32 → Mem → Option (Int32 × Mem) := (gTe_all 12)
theorem tX9_tellsC {l : Launch} {E : Ev} {K : List Sh} {x1 : Int32} {x2 : Int32} {M : Mem} {r : Int32} {M' : Mem} (hL : nq_atModel E K) (h : fX9_tellsC x1 x2 M = some (r, M')) : nq_MA l E yX9_tells wsX9_tells (nq_rm 38) [.ref (nq_ad E 0), .int x1, .int x2] K M (some (.int r)) K M' := (gTe_ok (l := l) (E := E) (K := K) 12) hL h

theorem mmX9_voice_c66 : Cond.constantLong RX9 66 (3) ∈ wsX9_voice := by decide +kernel
theorem inX9_voice_9 : ∀ w ∈ u_ws RX9 TX9 23, w ∈ wsX9_voice := by
  intro w h; unfold wsX9_voice; simp only [List.mem_cons, List.mem_append]; simp only [h, true_or, or_true]
theorem lkX9_voice_297 : Cond.fieldLink RX9 297 (TX9 17).1 (TX9 17).2.1 (TX9 17).2.2.1 ∈ wsX9_voice := by decide +kernel
theorem lkX9_voice_300 : Cond.fieldLink RX9 300 (TX9 18).1 (TX9 18).2.1 (TX9 18).2.2.1 ∈ wsX9_voice := by decide +kernel
def fX9_voice (x1 : Int32) (x2 : Int32) (x3 : Int32) (M : Mem) : Option (Int32 × Mem) :=
  (fX9_isWord x1 M).bind fun v2 =>
  if v2 = 0 then
  (nq_b2 (fX9_finds (1 : Int32) M) fun v5 M6 =>
  some (v5, M6))
  else
  ((fX9_in x2.toInt64 (0 : Int64) (3 : Int64) M).bind fun v8 =>
  if v8 = 0 then
  (nq_b2 (fX9_finds (1 : Int32) M) fun v11 M12 =>
  some (v11, M12))
  else
  (nq_lt (nq_wr M 0 17 (0 : Int32)) fun M13 =>
  nq_lt (nq_wr M13 0 18 x1) fun M14 =>
  (fX9_own  M14).bind fun v16 =>
  if x2 = 0 then
  (nq_b2 (fX9_bindsC v16 x3 M14) fun v19 M20 =>
  some (v19, M20))
  else
  (if x2 = (1 : Int32) then
  (nq_b2 (fX9_whomC v16 x3 M14) fun v23 M24 =>
  some (v23, M24))
  else
  (if x2 = (2 : Int32) then
  (nq_b2 (fX9_fromC v16 x3 M14) fun v27 M28 =>
  some (v27, M28))
  else
  (nq_b2 (fX9_tellsC v16 x3 M14) fun v30 M31 =>
  some (v30, M31))))))
set_option maxHeartbeats 4000000 in
theorem mX9_voice {X : Cx} {E : Ev} {l : Launch} {K : List Sh} {x1 : Int32} {x2 : Int32} {x3 : Int32} {M : Mem} {r : Int32} {M' : Mem} (hL : nq_atModel E K) (hX : nq_OK X E l (nq_rm 39) cX9_voice 5 RX9 wsX9_voice) (hr : nq_RT X E (some .int) (some (.int r)) K M') (h : fX9_voice x1 x2 x3 M = some (r, M')) : nq_G X E 5 0 [(0, .ref (nq_ad E 0)), (1, .int x1), (2, .int x2), (3, .int x3)] [] K M := by
  unfold fX9_voice at h
  refine nq_aload_n hX rfl 0 rfl dX9_voice_0 ?_
  refine nq_iload_n hX rfl 1 rfl dX9_voice_1 ?_
  obtain ⟨v2, hc1, h⟩ := nq_bE h
  refine nq_callVi hX (tX9_isWord hL hc1) gX9_voice_X9_isWord rfl rfl dsX9_isWord (by decide) (nq_Model_0 hL) rfl rfl (Nat.le_of_ble_eq_true rfl) dX9_voice_2 ?_
  refine nq_if_eq hX (tgt := 20) (by decide) dX9_voice_5 (fun c3 => ?_) (fun c3 => ?_)
  · rw [if_pos c3] at h
    refine nq_aload_n hX rfl 0 rfl dX9_voice_20 ?_
    refine nq_iconst hX (v := 1) (by decide) dX9_voice_21 ?_
    obtain ⟨v5, M6, hc4, h⟩ := nq_b2E h
    refine nq_callVi hX (tX9_finds hL hc4) gX9_voice_X9_finds rfl rfl dsX9_finds (by decide) (nq_Model_0 hL) rfl rfl (Nat.le_of_ble_eq_true rfl) dX9_voice_22 ?_
    obtain ⟨rfl, rfl⟩ := nq_sE2 h; exact nq_iret hX hr dX9_voice_25
  · rw [if_neg c3] at h
    refine nq_iload_n hX rfl 2 rfl dX9_voice_8 ?_
    refine nq_i2l hX dX9_voice_9 ?_
    refine nq_lconst hX (v := 0) (by decide) dX9_voice_10 ?_
    refine nq_ldc2 hX (v := 3) mmX9_voice_c66 dX9_voice_11 ?_
    obtain ⟨v8, hc7, h⟩ := nq_bE h
    refine nq_callSi hX (tX9_in  hc7) gX9_voice_X9_in rfl rfl dsX9_in (by decide) rfl (Nat.le_of_ble_eq_true rfl) dX9_voice_14 ?_
    refine nq_if_ne hX (tgt := 26) (by decide) dX9_voice_17 (fun c9 => ?_) (fun c9 => ?_)
    · rw [if_pos c9] at h
      refine nq_aload_n hX rfl 0 rfl dX9_voice_20 ?_
      refine nq_iconst hX (v := 1) (by decide) dX9_voice_21 ?_
      obtain ⟨v11, M12, hc10, h⟩ := nq_b2E h
      refine nq_callVi hX (tX9_finds hL hc10) gX9_voice_X9_finds rfl rfl dsX9_finds (by decide) (nq_Model_0 hL) rfl rfl (Nat.le_of_ble_eq_true rfl) dX9_voice_22 ?_
      obtain ⟨rfl, rfl⟩ := nq_sE2 h; exact nq_iret hX hr dX9_voice_25
    · rw [if_neg c9] at h
      refine nq_aload_n hX rfl 0 rfl dX9_voice_26 ?_
      refine nq_iconst hX (v := 0) (by decide) dX9_voice_27 ?_
      obtain ⟨M13, eM13, h⟩ := nq_ltE h
      refine nq_puti hX inX9_voice_9 tyX9 tyX9_ok nmX9 (nq_Model_0 hL) rfl 17 (by decide) lkX9_voice_297 rfl rfl rfl rfl rfl eM13 dX9_voice_28 ?_
      refine nq_aload_n hX rfl 0 rfl dX9_voice_31 ?_
      refine nq_iload_n hX rfl 1 rfl dX9_voice_32 ?_
      obtain ⟨M14, eM14, h⟩ := nq_ltE h
      refine nq_puti hX inX9_voice_9 tyX9 tyX9_ok nmX9 (nq_Model_0 hL) rfl 18 (by decide) lkX9_voice_300 rfl rfl rfl rfl rfl eM14 dX9_voice_33 ?_
      refine nq_aload_n hX rfl 0 rfl dX9_voice_36 ?_
      obtain ⟨v16, hc15, h⟩ := nq_bE h
      refine nq_callVi hX (tX9_own hL hc15) gX9_voice_X9_own rfl rfl dsX9_own (by decide) (nq_Model_0 hL) rfl rfl (Nat.le_of_ble_eq_true rfl) dX9_voice_37 ?_
      refine nq_istore hX (lv' := [(4, .int v16), (0, .ref (nq_ad E 0)), (1, .int x1), (2, .int x2), (3, .int x3)]) (by decide) rfl rfl dX9_voice_40 ?_
      refine nq_iload_n hX rfl 3 rfl dX9_voice_42 ?_
      refine nq_if_ne hX (tgt := 56) (by decide) dX9_voice_43 (fun c17 => ?_) (fun c17 => ?_)
      · rw [if_pos c17] at h
        refine nq_aload_n hX rfl 1 rfl dX9_voice_46 ?_
        refine nq_iload hX 0 rfl dX9_voice_47 ?_
        refine nq_iload_n hX rfl 4 rfl dX9_voice_49 ?_
        obtain ⟨v19, M20, hc18, h⟩ := nq_b2E h
        refine nq_callVi hX (tX9_bindsC hL hc18) gX9_voice_X9_binds rfl rfl dsX9_binds (by decide) (nq_Model_0 hL) rfl rfl (Nat.le_of_ble_eq_true rfl) dX9_voice_50 ?_
        refine nq_goto hX (tgt := 93) (by decide) dX9_voice_53 ?_
        obtain ⟨rfl, rfl⟩ := nq_sE2 h; exact nq_iret hX hr dX9_voice_93
      · rw [if_neg c17] at h
        refine nq_iload_n hX rfl 3 rfl dX9_voice_56 ?_
        refine nq_iconst hX (v := 1) (by decide) dX9_voice_57 ?_
        refine nq_icmp_ne hX (tgt := 71) (by decide) dX9_voice_58 (fun c21 => ?_) (fun c21 => ?_)
        · rw [if_pos c21] at h
          refine nq_aload_n hX rfl 1 rfl dX9_voice_61 ?_
          refine nq_iload hX 0 rfl dX9_voice_62 ?_
          refine nq_iload_n hX rfl 4 rfl dX9_voice_64 ?_
          obtain ⟨v23, M24, hc22, h⟩ := nq_b2E h
          refine nq_callVi hX (tX9_whomC hL hc22) gX9_voice_X9_whom rfl rfl dsX9_whom (by decide) (nq_Model_0 hL) rfl rfl (Nat.le_of_ble_eq_true rfl) dX9_voice_65 ?_
          refine nq_goto hX (tgt := 93) (by decide) dX9_voice_68 ?_
          obtain ⟨rfl, rfl⟩ := nq_sE2 h; exact nq_iret hX hr dX9_voice_93
        · rw [if_neg c21] at h
          refine nq_iload_n hX rfl 3 rfl dX9_voice_71 ?_
          refine nq_iconst hX (v := 2) (by decide) dX9_voice_72 ?_
          refine nq_icmp_ne hX (tgt := 86) (by decide) dX9_voice_73 (fun c25 => ?_) (fun c25 => ?_)
          · rw [if_pos c25] at h
            refine nq_aload_n hX rfl 1 rfl dX9_voice_76 ?_
            refine nq_iload hX 0 rfl dX9_voice_77 ?_
            refine nq_iload_n hX rfl 4 rfl dX9_voice_79 ?_
            obtain ⟨v27, M28, hc26, h⟩ := nq_b2E h
            refine nq_callVi hX (tX9_fromC hL hc26) gX9_voice_X9_from rfl rfl dsX9_from (by decide) (nq_Model_0 hL) rfl rfl (Nat.le_of_ble_eq_true rfl) dX9_voice_80 ?_
            refine nq_goto hX (tgt := 93) (by decide) dX9_voice_83 ?_
            obtain ⟨rfl, rfl⟩ := nq_sE2 h; exact nq_iret hX hr dX9_voice_93
          · rw [if_neg c25] at h
            refine nq_aload_n hX rfl 1 rfl dX9_voice_86 ?_
            refine nq_iload hX 0 rfl dX9_voice_87 ?_
            refine nq_iload_n hX rfl 4 rfl dX9_voice_89 ?_
            obtain ⟨v30, M31, hc29, h⟩ := nq_b2E h
            refine nq_callVi hX (tX9_tellsC hL hc29) gX9_voice_X9_tells rfl rfl dsX9_tells (by decide) (nq_Model_0 hL) rfl rfl (Nat.le_of_ble_eq_true rfl) dX9_voice_90 ?_
            obtain ⟨rfl, rfl⟩ := nq_sE2 h; exact nq_iret hX hr dX9_voice_93
theorem dsX9_voice : yX9_voice.cls ≠ "java/lang/invoke/MethodHandle" ∧ yX9_voice.cls ≠ "java/lang/invoke/VarHandle" ∧ (parseMethodDescriptor yX9_voice.desc).map (fun d => d.parameters.length) = some 3 := by decide +kernel
theorem tX9_voice {l : Launch} {E : Ev} {K : List Sh} {x1 : Int32} {x2 : Int32} {x3 : Int32} {M : Mem} {r : Int32} {M' : Mem} (hL : nq_atModel E K) (h : fX9_voice x1 x2 x3 M = some (r, M')) : nq_MA l E yX9_voice wsX9_voice (nq_rm 39) [.ref (nq_ad E 0), .int x1, .int x2, .int x3] K M (some (.int r)) K M' :=
  nq_met (own := RX9) (cc := cX9_voice) (maxL := 5) (ret := (some .int)) (by decide) rfl rfl (Nat.le_of_ble_eq_true rfl) (fun X hX hr => mX9_voice hL hX hr h)

theorem inX9_trace_9 : ∀ w ∈ u_ws RX9 TX9 23, w ∈ wsX9_trace := by
  intro w h; unfold wsX9_trace; simp only [List.mem_cons, List.mem_append]; simp only [h, true_or, or_true]
theorem lkX9_trace_297 : Cond.fieldLink RX9 297 (TX9 17).1 (TX9 17).2.1 (TX9 17).2.2.1 ∈ wsX9_trace := by decide +kernel
theorem lkX9_trace_38 : Cond.fieldLink RX9 38 (TX9 16).1 (TX9 16).2.1 (TX9 16).2.2.1 ∈ wsX9_trace := by decide +kernel
def fX9_trace (x1 : Int32) (M : Mem) : Option (Int32 × Mem) :=
  nq_lt (M 0 17) fun v1 =>
  (fX9_in x1.toInt64 (0 : Int64) ((v1 - (1 : Int32)).toInt64) M).bind fun v3 =>
  if v3 = 0 then
  (nq_b2 (fX9_finds (2 : Int32) M) fun v6 M7 =>
  some (v6, M7))
  else
  ((nq_ag (M 10) 40 x1).bind fun v8 =>
  some (v8, M))
set_option maxHeartbeats 4000000 in
theorem mX9_trace {X : Cx} {E : Ev} {l : Launch} {K : List Sh} {x1 : Int32} {M : Mem} {r : Int32} {M' : Mem} (hL : nq_atModel E K) (hX : nq_OK X E l (nq_rm 2) cX9_trace 2 RX9 wsX9_trace) (hr : nq_RT X E (some .int) (some (.int r)) K M') (h : fX9_trace x1 M = some (r, M')) : nq_G X E 2 0 [(0, .ref (nq_ad E 0)), (1, .int x1)] [] K M := by
  unfold fX9_trace at h
  refine nq_iload_n hX rfl 1 rfl dX9_trace_0 ?_
  refine nq_i2l hX dX9_trace_1 ?_
  refine nq_lconst hX (v := 0) (by decide) dX9_trace_2 ?_
  refine nq_aload_n hX rfl 0 rfl dX9_trace_3 ?_
  obtain ⟨v1, e1, h⟩ := nq_ltE h
  refine nq_geti hX inX9_trace_9 (nq_Model_0 hL) rfl 17 (by decide) lkX9_trace_297 rfl e1 dX9_trace_4 ?_
  refine nq_iconst hX (v := 1) (by decide) dX9_trace_7 ?_
  refine nq_isub hX dX9_trace_8 ?_
  refine nq_i2l hX dX9_trace_9 ?_
  obtain ⟨v3, hc2, h⟩ := nq_bE h
  refine nq_callSi hX (tX9_in  hc2) gX9_trace_X9_in rfl rfl dsX9_in (by decide) rfl (Nat.le_of_ble_eq_true rfl) dX9_trace_10 ?_
  refine nq_if_eq hX (tgt := 25) (by decide) dX9_trace_13 (fun c4 => ?_) (fun c4 => ?_)
  · rw [if_pos c4] at h
    refine nq_aload_n hX rfl 0 rfl dX9_trace_25 ?_
    refine nq_iconst hX (v := 2) (by decide) dX9_trace_26 ?_
    obtain ⟨v6, M7, hc5, h⟩ := nq_b2E h
    refine nq_callVi hX (tX9_finds hL hc5) gX9_trace_X9_finds rfl rfl dsX9_finds (by decide) (nq_Model_0 hL) rfl rfl (Nat.le_of_ble_eq_true rfl) dX9_trace_27 ?_
    obtain ⟨rfl, rfl⟩ := nq_sE2 h; exact nq_iret hX hr dX9_trace_30
  · rw [if_neg c4] at h
    refine nq_aload_n hX rfl 0 rfl dX9_trace_16 ?_
    refine nq_getr (v := .ref (nq_ad E 10)) hX inX9_trace_9 (nq_Model_0 hL) rfl 16 (by decide) lkX9_trace_38 _ rfl rfl dX9_trace_17 ?_
    refine nq_iload_n hX rfl 1 rfl dX9_trace_20 ?_
    obtain ⟨v8, e8, hi8, h⟩ := nq_agE h
    refine nq_iald hX (nq_Model_traced hL) e8 hi8 dX9_trace_21 ?_
    refine nq_goto hX (tgt := 30) (by decide) dX9_trace_22 ?_
    obtain ⟨rfl, rfl⟩ := nq_sE2 h; exact nq_iret hX hr dX9_trace_30
theorem dsX9_trace : yX9_trace.cls ≠ "java/lang/invoke/MethodHandle" ∧ yX9_trace.cls ≠ "java/lang/invoke/VarHandle" ∧ (parseMethodDescriptor yX9_trace.desc).map (fun d => d.parameters.length) = some 1 := by decide +kernel
theorem tX9_trace {l : Launch} {E : Ev} {K : List Sh} {x1 : Int32} {M : Mem} {r : Int32} {M' : Mem} (hL : nq_atModel E K) (h : fX9_trace x1 M = some (r, M')) : nq_MA l E yX9_trace wsX9_trace (nq_rm 2) [.ref (nq_ad E 0), .int x1] K M (some (.int r)) K M' :=
  nq_met (own := RX9) (cc := cX9_trace) (maxL := 2) (ret := (some .int)) (by decide) rfl rfl (Nat.le_of_ble_eq_true rfl) (fun X hX hr => mX9_trace hL hX hr h)

theorem inX9_sheet_9 : ∀ w ∈ u_ws RX9 TX9 23, w ∈ wsX9_sheet := by
  intro w h; unfold wsX9_sheet; simp only [List.mem_cons, List.mem_append]; simp only [h, true_or, or_true]
theorem lkX9_sheet_41 : Cond.fieldLink RX9 41 (TX9 19).1 (TX9 19).2.1 (TX9 19).2.2.1 ∈ wsX9_sheet := by decide +kernel
theorem lkX9_sheet_44 : Cond.fieldLink RX9 44 (TX9 20).1 (TX9 20).2.1 (TX9 20).2.2.1 ∈ wsX9_sheet := by decide +kernel
theorem lkX9_sheet_47 : Cond.fieldLink RX9 47 (TX9 21).1 (TX9 21).2.1 (TX9 21).2.2.1 ∈ wsX9_sheet := by decide +kernel
def fX9_sheet_B90 (x1 : Int32) (x4 : Int32) (M : Mem) : Option ((Int32 × Mem) ⊕ (Mem)) :=
  if (40 : Int32) ≤ x4 then
  (some (.inr M))
  else
  ((nq_as M 13 160 (((40 : Int32) * x1) + x4) (0 : Int32)).bind fun M14 =>
  nq_lt (x4 + (1 : Int32)) fun v15 =>
  some (.inl (v15, M14)))
set_option maxHeartbeats 4000000 in
theorem mX9_sheet_B90 {X : Cx} {E : Ev} {l : Launch} {K : List Sh} {x1 : Int32} {x4 : Int32} {M : Mem} (hL : nq_atModel E K) (hX : nq_OK X E l (nq_rm 3) cX9_sheet 5 RX9 wsX9_sheet) {x : (Int32 × Mem) ⊕ (Mem)} (hc : ∀ s' : Int32 × Mem, x = .inl s' → nq_G X E 5 90 [(0, .ref (nq_ad E 0)), (1, .int x1), (4, .int s'.1)] [] K s'.2) (he : ∀ s' : Mem, x = .inr s' → nq_G X E 5 116 [] [] K s') (h : fX9_sheet_B90 x1 x4 M = some x) : nq_G X E 5 90 [(0, .ref (nq_ad E 0)), (1, .int x1), (4, .int x4)] [] K M := by
  unfold fX9_sheet_B90 at h
  refine nq_iload hX 2 rfl dX9_sheet_90 ?_
  refine nq_bipush hX (v := 40) (by decide) dX9_sheet_92 ?_
  refine nq_icmp_ge hX (tgt := 116) (by decide) dX9_sheet_94 (fun c13 => ?_) (fun c13 => ?_)
  · rw [if_pos c13] at h
    refine nq_sub (lv' := []) [] rfl ?_
    exact he M (nq_sE h).symm
  · rw [if_neg c13] at h
    refine nq_aload_n hX rfl 0 rfl dX9_sheet_97 ?_
    refine nq_getr (v := .ref (nq_ad E 13)) hX inX9_sheet_9 (nq_Model_0 hL) rfl 21 (by decide) lkX9_sheet_47 _ rfl rfl dX9_sheet_98 ?_
    refine nq_bipush hX (v := 40) (by decide) dX9_sheet_101 ?_
    refine nq_iload_n hX rfl 1 rfl dX9_sheet_103 ?_
    refine nq_imul hX dX9_sheet_104 ?_
    refine nq_iload hX 2 rfl dX9_sheet_105 ?_
    refine nq_iadd hX dX9_sheet_107 ?_
    refine nq_iconst hX (v := 0) (by decide) dX9_sheet_108 ?_
    obtain ⟨M14, e14, hi14, h⟩ := nq_asE h
    refine nq_iast hX (nq_Model_number hL) e14 hi14 dX9_sheet_109 ?_
    obtain ⟨v15, e15, h⟩ := nq_ltE h
    refine nq_iinc hX (lv' := [(4, .int v15), (0, .ref (nq_ad E 0)), (1, .int x1)]) (j := 2) rfl (e15.trans rfl) (by decide) rfl dX9_sheet_110 ?_
    refine nq_goto hX (tgt := 90) (by decide) dX9_sheet_113 ?_
    refine nq_sub (lv' := [(0, .ref (nq_ad E 0)), (1, .int x1), (4, .int v15)]) [1, 2, 0] rfl ?_
    exact hc (v15, M14) (nq_sE h).symm
def fX9_sheet_L116 (M : Mem) : Option (Int32 × Mem) :=
  some ((1 : Int32), M)
set_option maxHeartbeats 4000000 in
theorem mX9_sheet_L116 {X : Cx} {E : Ev} {l : Launch} {K : List Sh} {M : Mem} {r : Int32} {M' : Mem} (hL : nq_atModel E K) (hX : nq_OK X E l (nq_rm 3) cX9_sheet 5 RX9 wsX9_sheet) (hr : nq_RT X E (some .int) (some (.int r)) K M') (h : fX9_sheet_L116 M = some (r, M')) : nq_G X E 5 116 [] [] K M := by
  unfold fX9_sheet_L116 at h
  refine nq_iconst hX (v := 1) (by decide) dX9_sheet_116 ?_
  obtain ⟨rfl, rfl⟩ := nq_sE2 h; exact nq_iret hX hr dX9_sheet_117
def fX9_sheet_L90 (x1 : Int32) (x4 : Int32) (M : Mem) : Option (Int32 × Mem) :=
  (nq_lp (fun s : Int32 × Mem => fX9_sheet_B90 x1 s.1 s.2) nq_fuel (x4, M)).bind (fun e => fX9_sheet_L116 e)
set_option maxHeartbeats 4000000 in
theorem mX9_sheet_L90 {X : Cx} {E : Ev} {l : Launch} {K : List Sh} {x1 : Int32} {x4 : Int32} {M : Mem} {r : Int32} {M' : Mem} (hL : nq_atModel E K) (hX : nq_OK X E l (nq_rm 3) cX9_sheet 5 RX9 wsX9_sheet) (hr : nq_RT X E (some .int) (some (.int r)) K M') (h : fX9_sheet_L90 x1 x4 M = some (r, M')) : nq_G X E 5 90 [(0, .ref (nq_ad E 0)), (1, .int x1), (4, .int x4)] [] K M := by
  unfold fX9_sheet_L90 at h
  obtain ⟨e, h1, h⟩ := nq_bE h
  have key : ∀ (ex : Mem), nq_lp (fun s : Int32 × Mem => fX9_sheet_B90 x1 s.1 s.2) nq_fuel (x4, M) = some ex → (∀ e, ex = e → nq_G X E 5 116 [] [] K e) → nq_G X E 5 90 [(0, .ref (nq_ad E 0)), (1, .int x1), (4, .int ((x4, M).1))] [] K (x4, M).2 := by
    intro ex h1 hE
    refine nq_lpE (P := fun s : Int32 × Mem => nq_G X E 5 90 [(0, .ref (nq_ad E 0)), (1, .int x1), (4, .int s.1)] [] K s.2) (r := ex) ?_ nq_fuel (x4, M) h1
    intro s xx hx1 hc1 he1
    exact mX9_sheet_B90 hL hX hc1 (fun e q => hE e (he1 _ q).symm) hx1
  refine key e h1 (fun e q => ?_)
  subst q
  exact mX9_sheet_L116 hL hX hr h
def fX9_sheet_L86 (x1 : Int32) (s0 : Int32) (s1 : Int32) (M : Mem) : Option (Int32 × Mem) :=
  (nq_as M 12 4 s1 s0).bind fun M12 =>
  fX9_sheet_L90 x1 (0 : Int32) M12
set_option maxHeartbeats 4000000 in
theorem mX9_sheet_L86 {X : Cx} {E : Ev} {l : Launch} {K : List Sh} {x1 : Int32} {s0 : Int32} {s1 : Int32} {M : Mem} {r : Int32} {M' : Mem} (hL : nq_atModel E K) (hX : nq_OK X E l (nq_rm 3) cX9_sheet 5 RX9 wsX9_sheet) (hr : nq_RT X E (some .int) (some (.int r)) K M') (h : fX9_sheet_L86 x1 s0 s1 M = some (r, M')) : nq_G X E 5 86 [(0, .ref (nq_ad E 0)), (1, .int x1)] [.int s0, .int s1, .ref (nq_ad E 12)] K M := by
  unfold fX9_sheet_L86 at h
  obtain ⟨M12, e12, hi12, h⟩ := nq_asE h
  refine nq_iast hX (nq_Model_sizeOf hL) e12 hi12 dX9_sheet_86 ?_
  refine nq_iconst hX (v := 0) (by decide) dX9_sheet_87 ?_
  refine nq_istore hX (lv' := [(4, .int (0 : Int32)), (0, .ref (nq_ad E 0)), (1, .int x1)]) (by decide) rfl rfl dX9_sheet_88 ?_
  refine nq_sub (lv' := [(0, .ref (nq_ad E 0)), (1, .int x1), (4, .int (0 : Int32))]) [1, 2, 0] rfl ?_
  exact mX9_sheet_L90 hL hX hr h
def fX9_sheet_L65 (x1 : Int32) (x2 : Int32) (x3 : Int32) (M : Mem) : Option (Int32 × Mem) :=
  (nq_as M 11 4 x1 x2).bind fun M10 =>
  if x2 = 0 then
  (fX9_sheet_L86 x1 (0 : Int32) x1 M10)
  else
  (fX9_sheet_L86 x1 x3 x1 M10)
set_option maxHeartbeats 4000000 in
theorem mX9_sheet_L65 {X : Cx} {E : Ev} {l : Launch} {K : List Sh} {x1 : Int32} {x2 : Int32} {x3 : Int32} {M : Mem} {r : Int32} {M' : Mem} (hL : nq_atModel E K) (hX : nq_OK X E l (nq_rm 3) cX9_sheet 5 RX9 wsX9_sheet) (hr : nq_RT X E (some .int) (some (.int r)) K M') (h : fX9_sheet_L65 x1 x2 x3 M = some (r, M')) : nq_G X E 5 65 [(0, .ref (nq_ad E 0)), (1, .int x1), (2, .int x2), (3, .int x3)] [] K M := by
  unfold fX9_sheet_L65 at h
  refine nq_aload_n hX rfl 0 rfl dX9_sheet_65 ?_
  refine nq_getr (v := .ref (nq_ad E 11)) hX inX9_sheet_9 (nq_Model_0 hL) rfl 19 (by decide) lkX9_sheet_41 _ rfl rfl dX9_sheet_66 ?_
  refine nq_iload_n hX rfl 1 rfl dX9_sheet_69 ?_
  refine nq_iload_n hX rfl 2 rfl dX9_sheet_70 ?_
  obtain ⟨M10, e10, hi10, h⟩ := nq_asE h
  refine nq_iast hX (nq_Model_bitsOf hL) e10 hi10 dX9_sheet_71 ?_
  refine nq_aload_n hX rfl 0 rfl dX9_sheet_72 ?_
  refine nq_getr (v := .ref (nq_ad E 12)) hX inX9_sheet_9 (nq_Model_0 hL) rfl 20 (by decide) lkX9_sheet_44 _ rfl rfl dX9_sheet_73 ?_
  refine nq_iload_n hX rfl 1 rfl dX9_sheet_76 ?_
  refine nq_iload_n hX rfl 2 rfl dX9_sheet_77 ?_
  refine nq_if_ne hX (tgt := 85) (by decide) dX9_sheet_78 (fun c11 => ?_) (fun c11 => ?_)
  · rw [if_pos c11] at h
    refine nq_iconst hX (v := 0) (by decide) dX9_sheet_81 ?_
    refine nq_goto hX (tgt := 86) (by decide) dX9_sheet_82 ?_
    refine nq_sub (lv' := [(0, .ref (nq_ad E 0)), (1, .int x1)]) [0, 1] rfl ?_
    exact mX9_sheet_L86 hL hX hr h
  · rw [if_neg c11] at h
    refine nq_iload_n hX rfl 3 rfl dX9_sheet_85 ?_
    refine nq_sub (lv' := [(0, .ref (nq_ad E 0)), (1, .int x1)]) [0, 1] rfl ?_
    exact mX9_sheet_L86 hL hX hr h
def fX9_sheet_L49 (x1 : Int32) (x2 : Int32) (x3 : Int32) (M : Mem) : Option (Int32 × Mem) :=
  if x2 = 0 then
  (fX9_sheet_L65 x1 x2 x3 M)
  else
  (if x3 ≤ (40 : Int32) then
  (fX9_sheet_L65 x1 x2 x3 M)
  else
  (nq_b2 (fX9_finds (1 : Int32) M) fun v18 M19 =>
  some (v18, M19)))
set_option maxHeartbeats 4000000 in
theorem mX9_sheet_L49 {X : Cx} {E : Ev} {l : Launch} {K : List Sh} {x1 : Int32} {x2 : Int32} {x3 : Int32} {M : Mem} {r : Int32} {M' : Mem} (hL : nq_atModel E K) (hX : nq_OK X E l (nq_rm 3) cX9_sheet 5 RX9 wsX9_sheet) (hr : nq_RT X E (some .int) (some (.int r)) K M') (h : fX9_sheet_L49 x1 x2 x3 M = some (r, M')) : nq_G X E 5 49 [(0, .ref (nq_ad E 0)), (1, .int x1), (2, .int x2), (3, .int x3)] [] K M := by
  unfold fX9_sheet_L49 at h
  refine nq_iload_n hX rfl 2 rfl dX9_sheet_49 ?_
  refine nq_if_eq hX (tgt := 65) (by decide) dX9_sheet_50 (fun c9 => ?_) (fun c9 => ?_)
  · rw [if_pos c9] at h
    exact mX9_sheet_L65 hL hX hr h
  · rw [if_neg c9] at h
    refine nq_iload_n hX rfl 3 rfl dX9_sheet_53 ?_
    refine nq_bipush hX (v := 40) (by decide) dX9_sheet_54 ?_
    refine nq_icmp_le hX (tgt := 65) (by decide) dX9_sheet_56 (fun c16 => ?_) (fun c16 => ?_)
    · rw [if_pos c16] at h
      exact mX9_sheet_L65 hL hX hr h
    · rw [if_neg c16] at h
      refine nq_aload_n hX rfl 0 rfl dX9_sheet_59 ?_
      refine nq_iconst hX (v := 1) (by decide) dX9_sheet_60 ?_
      obtain ⟨v18, M19, hc17, h⟩ := nq_b2E h
      refine nq_callVi hX (tX9_finds hL hc17) gX9_sheet_X9_finds rfl rfl dsX9_finds (by decide) (nq_Model_0 hL) rfl rfl (Nat.le_of_ble_eq_true rfl) dX9_sheet_61 ?_
      obtain ⟨rfl, rfl⟩ := nq_sE2 h; exact nq_iret hX hr dX9_sheet_64
def fX9_sheet_L35 (x1 : Int32) (x2 : Int32) (x3 : Int32) (M : Mem) : Option (Int32 × Mem) :=
  if x2 = 0 then
  (fX9_sheet_L49 x1 x2 x3 M)
  else
  (if 0 ≤ x3 then
  (fX9_sheet_L49 x1 x2 x3 M)
  else
  (nq_b2 (fX9_finds (3 : Int32) M) fun v22 M23 =>
  some (v22, M23)))
set_option maxHeartbeats 4000000 in
theorem mX9_sheet_L35 {X : Cx} {E : Ev} {l : Launch} {K : List Sh} {x1 : Int32} {x2 : Int32} {x3 : Int32} {M : Mem} {r : Int32} {M' : Mem} (hL : nq_atModel E K) (hX : nq_OK X E l (nq_rm 3) cX9_sheet 5 RX9 wsX9_sheet) (hr : nq_RT X E (some .int) (some (.int r)) K M') (h : fX9_sheet_L35 x1 x2 x3 M = some (r, M')) : nq_G X E 5 35 [(0, .ref (nq_ad E 0)), (1, .int x1), (2, .int x2), (3, .int x3)] [] K M := by
  unfold fX9_sheet_L35 at h
  refine nq_iload_n hX rfl 2 rfl dX9_sheet_35 ?_
  refine nq_if_eq hX (tgt := 49) (by decide) dX9_sheet_36 (fun c8 => ?_) (fun c8 => ?_)
  · rw [if_pos c8] at h
    exact mX9_sheet_L49 hL hX hr h
  · rw [if_neg c8] at h
    refine nq_iload_n hX rfl 3 rfl dX9_sheet_39 ?_
    refine nq_if_ge hX (tgt := 49) (by decide) dX9_sheet_40 (fun c20 => ?_) (fun c20 => ?_)
    · rw [if_pos c20] at h
      exact mX9_sheet_L49 hL hX hr h
    · rw [if_neg c20] at h
      refine nq_aload_n hX rfl 0 rfl dX9_sheet_43 ?_
      refine nq_iconst hX (v := 3) (by decide) dX9_sheet_44 ?_
      obtain ⟨v22, M23, hc21, h⟩ := nq_b2E h
      refine nq_callVi hX (tX9_finds hL hc21) gX9_sheet_X9_finds rfl rfl dsX9_finds (by decide) (nq_Model_0 hL) rfl rfl (Nat.le_of_ble_eq_true rfl) dX9_sheet_45 ?_
      obtain ⟨rfl, rfl⟩ := nq_sE2 h; exact nq_iret hX hr dX9_sheet_48
def fX9_sheet (x1 : Int32) (x2 : Int32) (x3 : Int32) (M : Mem) : Option (Int32 × Mem) :=
  (fX9_isSheet x1 M).bind fun v2 =>
  if v2 = 0 then
  (nq_b2 (fX9_finds (1 : Int32) M) fun v5 M6 =>
  some (v5, M6))
  else
  (if x2 = 0 then
  (fX9_sheet_L35 x1 x2 x3 M)
  else
  (if x2 = (8 : Int32) then
  (fX9_sheet_L35 x1 x2 x3 M)
  else
  (if x2 = (16 : Int32) then
  (fX9_sheet_L35 x1 x2 x3 M)
  else
  (if x2 = (32 : Int32) then
  (fX9_sheet_L35 x1 x2 x3 M)
  else
  (nq_b2 (fX9_finds (1 : Int32) M) fun v28 M29 =>
  some (v28, M29))))))
set_option maxHeartbeats 4000000 in
theorem mX9_sheet {X : Cx} {E : Ev} {l : Launch} {K : List Sh} {x1 : Int32} {x2 : Int32} {x3 : Int32} {M : Mem} {r : Int32} {M' : Mem} (hL : nq_atModel E K) (hX : nq_OK X E l (nq_rm 3) cX9_sheet 5 RX9 wsX9_sheet) (hr : nq_RT X E (some .int) (some (.int r)) K M') (h : fX9_sheet x1 x2 x3 M = some (r, M')) : nq_G X E 5 0 [(0, .ref (nq_ad E 0)), (1, .int x1), (2, .int x2), (3, .int x3)] [] K M := by
  unfold fX9_sheet at h
  refine nq_iload_n hX rfl 1 rfl dX9_sheet_0 ?_
  obtain ⟨v2, hc1, h⟩ := nq_bE h
  refine nq_callSi hX (tX9_isSheet  hc1) gX9_sheet_X9_isSheet rfl rfl dsX9_isSheet (by decide) rfl (Nat.le_of_ble_eq_true rfl) dX9_sheet_1 ?_
  refine nq_if_eq hX (tgt := 29) (by decide) dX9_sheet_4 (fun c3 => ?_) (fun c3 => ?_)
  · rw [if_pos c3] at h
    refine nq_aload_n hX rfl 0 rfl dX9_sheet_29 ?_
    refine nq_iconst hX (v := 1) (by decide) dX9_sheet_30 ?_
    obtain ⟨v5, M6, hc4, h⟩ := nq_b2E h
    refine nq_callVi hX (tX9_finds hL hc4) gX9_sheet_X9_finds rfl rfl dsX9_finds (by decide) (nq_Model_0 hL) rfl rfl (Nat.le_of_ble_eq_true rfl) dX9_sheet_31 ?_
    obtain ⟨rfl, rfl⟩ := nq_sE2 h; exact nq_iret hX hr dX9_sheet_34
  · rw [if_neg c3] at h
    refine nq_iload_n hX rfl 2 rfl dX9_sheet_7 ?_
    refine nq_if_eq hX (tgt := 35) (by decide) dX9_sheet_8 (fun c7 => ?_) (fun c7 => ?_)
    · rw [if_pos c7] at h
      exact mX9_sheet_L35 hL hX hr h
    · rw [if_neg c7] at h
      refine nq_iload_n hX rfl 2 rfl dX9_sheet_11 ?_
      refine nq_bipush hX (v := 8) (by decide) dX9_sheet_12 ?_
      refine nq_icmp_eq hX (tgt := 35) (by decide) dX9_sheet_14 (fun c24 => ?_) (fun c24 => ?_)
      · rw [if_pos c24] at h
        exact mX9_sheet_L35 hL hX hr h
      · rw [if_neg c24] at h
        refine nq_iload_n hX rfl 2 rfl dX9_sheet_17 ?_
        refine nq_bipush hX (v := 16) (by decide) dX9_sheet_18 ?_
        refine nq_icmp_eq hX (tgt := 35) (by decide) dX9_sheet_20 (fun c25 => ?_) (fun c25 => ?_)
        · rw [if_pos c25] at h
          exact mX9_sheet_L35 hL hX hr h
        · rw [if_neg c25] at h
          refine nq_iload_n hX rfl 2 rfl dX9_sheet_23 ?_
          refine nq_bipush hX (v := 32) (by decide) dX9_sheet_24 ?_
          refine nq_icmp_eq hX (tgt := 35) (by decide) dX9_sheet_26 (fun c26 => ?_) (fun c26 => ?_)
          · rw [if_pos c26] at h
            exact mX9_sheet_L35 hL hX hr h
          · rw [if_neg c26] at h
            refine nq_aload_n hX rfl 0 rfl dX9_sheet_29 ?_
            refine nq_iconst hX (v := 1) (by decide) dX9_sheet_30 ?_
            obtain ⟨v28, M29, hc27, h⟩ := nq_b2E h
            refine nq_callVi hX (tX9_finds hL hc27) gX9_sheet_X9_finds rfl rfl dsX9_finds (by decide) (nq_Model_0 hL) rfl rfl (Nat.le_of_ble_eq_true rfl) dX9_sheet_31 ?_
            obtain ⟨rfl, rfl⟩ := nq_sE2 h; exact nq_iret hX hr dX9_sheet_34
theorem dsX9_sheet : yX9_sheet.cls ≠ "java/lang/invoke/MethodHandle" ∧ yX9_sheet.cls ≠ "java/lang/invoke/VarHandle" ∧ (parseMethodDescriptor yX9_sheet.desc).map (fun d => d.parameters.length) = some 3 := by decide +kernel
theorem tX9_sheet {l : Launch} {E : Ev} {K : List Sh} {x1 : Int32} {x2 : Int32} {x3 : Int32} {M : Mem} {r : Int32} {M' : Mem} (hL : nq_atModel E K) (h : fX9_sheet x1 x2 x3 M = some (r, M')) : nq_MA l E yX9_sheet wsX9_sheet (nq_rm 3) [.ref (nq_ad E 0), .int x1, .int x2, .int x3] K M (some (.int r)) K M' :=
  nq_met (own := RX9) (cc := cX9_sheet) (maxL := 5) (ret := (some .int)) (by decide) rfl rfl (Nat.le_of_ble_eq_true rfl) (fun X hX hr => mX9_sheet hL hX hr h)

theorem inX9_put_9 : ∀ w ∈ u_ws RX9 TX9 23, w ∈ wsX9_put := by
  intro w h; unfold wsX9_put; simp only [List.mem_cons, List.mem_append]; simp only [h, true_or, or_true]
theorem lkX9_put_41 : Cond.fieldLink RX9 41 (TX9 19).1 (TX9 19).2.1 (TX9 19).2.2.1 ∈ wsX9_put := by decide +kernel
theorem lkX9_put_44 : Cond.fieldLink RX9 44 (TX9 20).1 (TX9 20).2.1 (TX9 20).2.2.1 ∈ wsX9_put := by decide +kernel
theorem lkX9_put_47 : Cond.fieldLink RX9 47 (TX9 21).1 (TX9 21).2.1 (TX9 21).2.2.1 ∈ wsX9_put := by decide +kernel
def fX9_put (x1 : Int32) (x2 : Int32) (x3 : Int32) (M : Mem) : Option (Int32 × Mem) :=
  (fX9_isSheet x1 M).bind fun v2 =>
  if v2 = 0 then
  (nq_b2 (fX9_finds (1 : Int32) M) fun v5 M6 =>
  some (v5, M6))
  else
  ((nq_ag (M 11) 4 x1).bind fun v7 =>
  if v7 = 0 then
  (nq_b2 (fX9_finds (2 : Int32) M) fun v10 M11 =>
  some (v10, M11))
  else
  ((nq_ag (M 12) 4 x1).bind fun v12 =>
  (fX9_in x2.toInt64 (0 : Int64) ((v12 - (1 : Int32)).toInt64) M).bind fun v14 =>
  if v14 = 0 then
  (nq_b2 (fX9_finds (1 : Int32) M) fun v17 M18 =>
  some (v17, M18))
  else
  ((nq_ag (M 11) 4 x1).bind fun v19 =>
  if v19 = (8 : Int32) then
  ((nq_as M 13 160 (((40 : Int32) * x1) + x2) x3.toInt8.toInt32).bind fun M21 =>
  some ((1 : Int32), M21))
  else
  ((nq_ag (M 11) 4 x1).bind fun v22 =>
  if v22 = (16 : Int32) then
  ((nq_as M 13 160 (((40 : Int32) * x1) + x2) x3.toInt16.toInt32).bind fun M24 =>
  some ((1 : Int32), M24))
  else
  ((nq_as M 13 160 (((40 : Int32) * x1) + x2) x3).bind fun M25 =>
  some ((1 : Int32), M25))))))
set_option maxHeartbeats 4000000 in
theorem mX9_put {X : Cx} {E : Ev} {l : Launch} {K : List Sh} {x1 : Int32} {x2 : Int32} {x3 : Int32} {M : Mem} {r : Int32} {M' : Mem} (hL : nq_atModel E K) (hX : nq_OK X E l (nq_rm 3) cX9_put 4 RX9 wsX9_put) (hr : nq_RT X E (some .int) (some (.int r)) K M') (h : fX9_put x1 x2 x3 M = some (r, M')) : nq_G X E 4 0 [(0, .ref (nq_ad E 0)), (1, .int x1), (2, .int x2), (3, .int x3)] [] K M := by
  unfold fX9_put at h
  refine nq_iload_n hX rfl 1 rfl dX9_put_0 ?_
  obtain ⟨v2, hc1, h⟩ := nq_bE h
  refine nq_callSi hX (tX9_isSheet  hc1) gX9_put_X9_isSheet rfl rfl dsX9_isSheet (by decide) rfl (Nat.le_of_ble_eq_true rfl) dX9_put_1 ?_
  refine nq_if_ne hX (tgt := 13) (by decide) dX9_put_4 (fun c3 => ?_) (fun c3 => ?_)
  · rw [if_pos c3] at h
    refine nq_aload_n hX rfl 0 rfl dX9_put_7 ?_
    refine nq_iconst hX (v := 1) (by decide) dX9_put_8 ?_
    obtain ⟨v5, M6, hc4, h⟩ := nq_b2E h
    refine nq_callVi hX (tX9_finds hL hc4) gX9_put_X9_finds rfl rfl dsX9_finds (by decide) (nq_Model_0 hL) rfl rfl (Nat.le_of_ble_eq_true rfl) dX9_put_9 ?_
    obtain ⟨rfl, rfl⟩ := nq_sE2 h; exact nq_iret hX hr dX9_put_12
  · rw [if_neg c3] at h
    refine nq_aload_n hX rfl 0 rfl dX9_put_13 ?_
    refine nq_getr (v := .ref (nq_ad E 11)) hX inX9_put_9 (nq_Model_0 hL) rfl 19 (by decide) lkX9_put_41 _ rfl rfl dX9_put_14 ?_
    refine nq_iload_n hX rfl 1 rfl dX9_put_17 ?_
    obtain ⟨v7, e7, hi7, h⟩ := nq_agE h
    refine nq_iald hX (nq_Model_bitsOf hL) e7 hi7 dX9_put_18 ?_
    refine nq_if_ne hX (tgt := 28) (by decide) dX9_put_19 (fun c8 => ?_) (fun c8 => ?_)
    · rw [if_pos c8] at h
      refine nq_aload_n hX rfl 0 rfl dX9_put_22 ?_
      refine nq_iconst hX (v := 2) (by decide) dX9_put_23 ?_
      obtain ⟨v10, M11, hc9, h⟩ := nq_b2E h
      refine nq_callVi hX (tX9_finds hL hc9) gX9_put_X9_finds rfl rfl dsX9_finds (by decide) (nq_Model_0 hL) rfl rfl (Nat.le_of_ble_eq_true rfl) dX9_put_24 ?_
      obtain ⟨rfl, rfl⟩ := nq_sE2 h; exact nq_iret hX hr dX9_put_27
    · rw [if_neg c8] at h
      refine nq_iload_n hX rfl 2 rfl dX9_put_28 ?_
      refine nq_i2l hX dX9_put_29 ?_
      refine nq_lconst hX (v := 0) (by decide) dX9_put_30 ?_
      refine nq_aload_n hX rfl 0 rfl dX9_put_31 ?_
      refine nq_getr (v := .ref (nq_ad E 12)) hX inX9_put_9 (nq_Model_0 hL) rfl 20 (by decide) lkX9_put_44 _ rfl rfl dX9_put_32 ?_
      refine nq_iload_n hX rfl 1 rfl dX9_put_35 ?_
      obtain ⟨v12, e12, hi12, h⟩ := nq_agE h
      refine nq_iald hX (nq_Model_sizeOf hL) e12 hi12 dX9_put_36 ?_
      refine nq_iconst hX (v := 1) (by decide) dX9_put_37 ?_
      refine nq_isub hX dX9_put_38 ?_
      refine nq_i2l hX dX9_put_39 ?_
      obtain ⟨v14, hc13, h⟩ := nq_bE h
      refine nq_callSi hX (tX9_in  hc13) gX9_put_X9_in rfl rfl dsX9_in (by decide) rfl (Nat.le_of_ble_eq_true rfl) dX9_put_40 ?_
      refine nq_if_ne hX (tgt := 52) (by decide) dX9_put_43 (fun c15 => ?_) (fun c15 => ?_)
      · rw [if_pos c15] at h
        refine nq_aload_n hX rfl 0 rfl dX9_put_46 ?_
        refine nq_iconst hX (v := 1) (by decide) dX9_put_47 ?_
        obtain ⟨v17, M18, hc16, h⟩ := nq_b2E h
        refine nq_callVi hX (tX9_finds hL hc16) gX9_put_X9_finds rfl rfl dsX9_finds (by decide) (nq_Model_0 hL) rfl rfl (Nat.le_of_ble_eq_true rfl) dX9_put_48 ?_
        obtain ⟨rfl, rfl⟩ := nq_sE2 h; exact nq_iret hX hr dX9_put_51
      · rw [if_neg c15] at h
        refine nq_aload_n hX rfl 0 rfl dX9_put_52 ?_
        refine nq_getr (v := .ref (nq_ad E 13)) hX inX9_put_9 (nq_Model_0 hL) rfl 21 (by decide) lkX9_put_47 _ rfl rfl dX9_put_53 ?_
        refine nq_bipush hX (v := 40) (by decide) dX9_put_56 ?_
        refine nq_iload_n hX rfl 1 rfl dX9_put_58 ?_
        refine nq_imul hX dX9_put_59 ?_
        refine nq_iload_n hX rfl 2 rfl dX9_put_60 ?_
        refine nq_iadd hX dX9_put_61 ?_
        refine nq_aload_n hX rfl 0 rfl dX9_put_62 ?_
        refine nq_getr (v := .ref (nq_ad E 11)) hX inX9_put_9 (nq_Model_0 hL) rfl 19 (by decide) lkX9_put_41 _ rfl rfl dX9_put_63 ?_
        refine nq_iload_n hX rfl 1 rfl dX9_put_66 ?_
        obtain ⟨v19, e19, hi19, h⟩ := nq_agE h
        refine nq_iald hX (nq_Model_bitsOf hL) e19 hi19 dX9_put_67 ?_
        refine nq_bipush hX (v := 8) (by decide) dX9_put_68 ?_
        refine nq_icmp_ne hX (tgt := 78) (by decide) dX9_put_70 (fun c20 => ?_) (fun c20 => ?_)
        · rw [if_pos c20] at h
          refine nq_iload_n hX rfl 3 rfl dX9_put_73 ?_
          refine nq_i2b hX dX9_put_74 ?_
          refine nq_goto hX (tgt := 95) (by decide) dX9_put_75 ?_
          obtain ⟨M21, e21, hi21, h⟩ := nq_asE h
          refine nq_iast hX (nq_Model_number hL) e21 hi21 dX9_put_95 ?_
          refine nq_iconst hX (v := 1) (by decide) dX9_put_96 ?_
          obtain ⟨rfl, rfl⟩ := nq_sE2 h; exact nq_iret hX hr dX9_put_97
        · rw [if_neg c20] at h
          refine nq_aload_n hX rfl 0 rfl dX9_put_78 ?_
          refine nq_getr (v := .ref (nq_ad E 11)) hX inX9_put_9 (nq_Model_0 hL) rfl 19 (by decide) lkX9_put_41 _ rfl rfl dX9_put_79 ?_
          refine nq_iload_n hX rfl 1 rfl dX9_put_82 ?_
          obtain ⟨v22, e22, hi22, h⟩ := nq_agE h
          refine nq_iald hX (nq_Model_bitsOf hL) e22 hi22 dX9_put_83 ?_
          refine nq_bipush hX (v := 16) (by decide) dX9_put_84 ?_
          refine nq_icmp_ne hX (tgt := 94) (by decide) dX9_put_86 (fun c23 => ?_) (fun c23 => ?_)
          · rw [if_pos c23] at h
            refine nq_iload_n hX rfl 3 rfl dX9_put_89 ?_
            refine nq_i2s hX dX9_put_90 ?_
            refine nq_goto hX (tgt := 95) (by decide) dX9_put_91 ?_
            obtain ⟨M24, e24, hi24, h⟩ := nq_asE h
            refine nq_iast hX (nq_Model_number hL) e24 hi24 dX9_put_95 ?_
            refine nq_iconst hX (v := 1) (by decide) dX9_put_96 ?_
            obtain ⟨rfl, rfl⟩ := nq_sE2 h; exact nq_iret hX hr dX9_put_97
          · rw [if_neg c23] at h
            refine nq_iload_n hX rfl 3 rfl dX9_put_94 ?_
            obtain ⟨M25, e25, hi25, h⟩ := nq_asE h
            refine nq_iast hX (nq_Model_number hL) e25 hi25 dX9_put_95 ?_
            refine nq_iconst hX (v := 1) (by decide) dX9_put_96 ?_
            obtain ⟨rfl, rfl⟩ := nq_sE2 h; exact nq_iret hX hr dX9_put_97
theorem dsX9_put : yX9_put.cls ≠ "java/lang/invoke/MethodHandle" ∧ yX9_put.cls ≠ "java/lang/invoke/VarHandle" ∧ (parseMethodDescriptor yX9_put.desc).map (fun d => d.parameters.length) = some 3 := by decide +kernel
theorem tX9_put {l : Launch} {E : Ev} {K : List Sh} {x1 : Int32} {x2 : Int32} {x3 : Int32} {M : Mem} {r : Int32} {M' : Mem} (hL : nq_atModel E K) (h : fX9_put x1 x2 x3 M = some (r, M')) : nq_MA l E yX9_put wsX9_put (nq_rm 3) [.ref (nq_ad E 0), .int x1, .int x2, .int x3] K M (some (.int r)) K M' :=
  nq_met (own := RX9) (cc := cX9_put) (maxL := 4) (ret := (some .int)) (by decide) rfl rfl (Nat.le_of_ble_eq_true rfl) (fun X hX hr => mX9_put hL hX hr h)

