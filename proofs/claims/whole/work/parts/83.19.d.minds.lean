/-! 19.d: minds -/
def nmL (a b c d e : Int) : Nat → Int32 := fun i => if i = 0 then iI a else if i = 1 then iI b else if i = 2 then iI c else if i = 3 then iI d else iI e
theorem name8 {M : Mem} {a b c d e : Int} : ∃ M5, fX8_nameAll (iI a) (iI b) (iI c) (iI d) (iI e) M = some M5 ∧ (∀ k, k ≠ 82 → M5 k = M k) ∧ ∀ i, i < 5 → M5 82 i = nmL a b c d e i := by
  refine ⟨nq_wr (nq_wr (nq_wr (nq_wr (nq_wr M 82 0 (iI a)) 82 1 (iI b)) 82 2 (iI c)) 82 3 (iI d)) 82 4 (iI e), ?_, ?_, ?_⟩
  · unfold fX8_nameAll
    simp (disch := omega) only [il_0, il_1, il_2, il_3, il_4, il_5, il_6, il_7, il_8, il_9, il_10, il_11, il_12, il_13, il_16, il_20, il_30, il_31, il_32, il_33, il_36, il_37, il_38, il_40, il_41, il_42, il_43, il_45, il_47, il_48, il_50, il_57, il_60, il_61, il_62, il_70, il_71, il_79, il_80, il_97, il_98, il_99, il_100, il_107, il_110, il_111, il_114, il_115, il_116, il_121, il_124, il_128, il_130, il_140, il_160, il_255, il_399, il_540, il_590, il_610, il_999, il_1000, il_1250, il_10000, il_12345, il_99999, il_1000000, il_1103515245, ll_0, ll_1, ll_2, ll_3, ll_4, ll_5, ll_6, ll_7, ll_8, ll_9, ll_30, ll_48, ll_50, ll_57, ll_99, ll_100, ll_255, ll_399, ll_999, ll_99999, nq_bs, nq_ltS, nq_b2S, b2_id, bi_id, iI_add, iI_sub, iI_mul, iI_neg, lI_neg, iI_64, iI_lt, iI_le, iI_eq, iI_ag, iI_as, iI_ar, iI_dv, iI_rem, isOut8, in9, bo_nz, bo_t, bo_f, wr_s, wr_n, wr_k, if_pos, if_neg, ↓reduceIte, Nat.reduceAdd, Nat.reduceMul, Nat.reduceSub, Nat.reduceEqDiff, Int.reduceToNat, Int.toNat_natCast, Int.reduceNeg, Int.reduceAdd, Int.reduceSub, Int.reduceMul]
  · intro k hk; simp (disch := omega) only [wr_k]
  · intro i hi
    have hc : i = 0 ∨ i = 1 ∨ i = 2 ∨ i = 3 ∨ i = 4 := by omega
    rcases hc with rfl | rfl | rfl | rfl | rfl <;> simp (disch := omega) only [wr_s, wr_n] <;> rfl
theorem name9 {M : Mem} {a b c d e : Int} : ∃ M5, ((nq_as M 9 5 (iI 0) (iI a)).bind fun M1 => (nq_as M1 9 5 (iI 1) (iI b)).bind fun M2 => (nq_as M2 9 5 (iI 2) (iI c)).bind fun M3 => (nq_as M3 9 5 (iI 3) (iI d)).bind fun M5 => nq_as M5 9 5 (iI 4) (iI e)) = some M5 ∧ (∀ k, k ≠ 9 → M5 k = M k) ∧ ∀ i, i < 5 → M5 9 i = nmL a b c d e i := by
  refine ⟨nq_wr (nq_wr (nq_wr (nq_wr (nq_wr M 9 0 (iI a)) 9 1 (iI b)) 9 2 (iI c)) 9 3 (iI d)) 9 4 (iI e), ?_, ?_, ?_⟩
  · simp (disch := omega) only [il_0, il_1, il_2, il_3, il_4, il_5, il_6, il_7, il_8, il_9, il_10, il_11, il_12, il_13, il_16, il_20, il_30, il_31, il_32, il_33, il_36, il_37, il_38, il_40, il_41, il_42, il_43, il_45, il_47, il_48, il_50, il_57, il_60, il_61, il_62, il_70, il_71, il_79, il_80, il_97, il_98, il_99, il_100, il_107, il_110, il_111, il_114, il_115, il_116, il_121, il_124, il_128, il_130, il_140, il_160, il_255, il_399, il_540, il_590, il_610, il_999, il_1000, il_1250, il_10000, il_12345, il_99999, il_1000000, il_1103515245, ll_0, ll_1, ll_2, ll_3, ll_4, ll_5, ll_6, ll_7, ll_8, ll_9, ll_30, ll_48, ll_50, ll_57, ll_99, ll_100, ll_255, ll_399, ll_999, ll_99999, nq_bs, nq_ltS, nq_b2S, b2_id, bi_id, iI_add, iI_sub, iI_mul, iI_neg, lI_neg, iI_64, iI_lt, iI_le, iI_eq, iI_ag, iI_as, iI_ar, iI_dv, iI_rem, isOut8, in9, bo_nz, bo_t, bo_f, wr_s, wr_n, wr_k, if_pos, if_neg, ↓reduceIte, Nat.reduceAdd, Nat.reduceMul, Nat.reduceSub, Nat.reduceEqDiff, Int.reduceToNat, Int.toNat_natCast, Int.reduceNeg, Int.reduceAdd, Int.reduceSub, Int.reduceMul]
  · intro k hk; simp (disch := omega) only [wr_k]
  · intro i hi
    have hc : i = 0 ∨ i = 1 ∨ i = 2 ∨ i = 3 ∨ i = 4 := by omega
    rcases hc with rfl | rfl | rfl | rfl | rfl <;> simp (disch := omega) only [wr_s, wr_n] <;> rfl
/-- a frame of the class: names and stack alone change -/
def PX (M0 M : Mem) : Prop := ∀ k, k ≠ 82 → k ≠ 83 → M k = M0 k
/-- a frame of the reference: names and the reader's fields alone change -/
def PN (N0 N : Mem) : Prop := (∀ k, k ≠ 0 → k ≠ 9 → N k = N0 k) ∧ ∀ j, (j < 9 ∨ 14 < j) → N 0 j = N0 0 j
theorem rk8 {Mx M : Mem} {D : Nat → Int} {u : Nat} {a b c d e : Int} (hT : GT Mx 23 D) (hu : u < 8) (hP : PX Mx M) : ∃ M5 M', fX8_nameAll (iI a) (iI b) (iI c) (iI d) (iI e) M = some M5 ∧ fX5_reckon (23 + 2 * u) 82 83 M5 = some (tV D u (nmL a b c d e), M') ∧ PX Mx M' := by
  obtain ⟨M5, n1, n2, n3⟩ := name8 (M := M) (a := a) (b := b) (c := c) (d := d) (e := e)
  obtain ⟨M7, r8, k7⟩ := reckonT (M := M5) (D := D) (u := u) (p := 23 + 2 * u) (by omega) (by rw [n2 _ (by omega), n2 _ (by omega), hP _ (by omega) (by omega), hP _ (by omega) (by omega)]; exact hT u hu)
  rw [tV_nm n3] at r8
  exact ⟨M5, M7, n1, r8, fun k h1 h2 => by rw [k7 k h2, n2 k h1]; exact hP k h1 h2⟩
theorem to9 {Mx N0 N : Mem} {D : Nat → Int} {x : Nat} {a b c d e : Int} (hT : GT Mx 23 D) (h0 : ∀ j, j < 1250 → N0 1 j = iI (D j)) (hx : x < 2) (hd : 0 ≤ d ∧ d ≤ 9) (he : 0 ≤ e ∧ e ≤ 9) (hP : PN N0 N) : ∃ N', fX9_takesOther (iI x) (iI a) (iI b) (iI c) (iI (10 * d + e)) N = some (iI (if tV D (6 + x) (nmL a b c d e) = 0 then 0 else 1), N') ∧ PN N0 N' := by
  obtain ⟨N5, n1, n2, n3⟩ := name9 (M := N) (a := a) (b := b) (c := c) (d := d) (e := e)
  obtain ⟨N8, r9, k8, k9⟩ := givesT (M := N5) (D := D) (u := 6 + x) (by omega) (by rw [n2 1 (by omega), hP.1 1 (by omega) (by omega)]; exact h0) (hT (6 + x) (by omega))
  rw [tV_nm n3] at r9
  refine ⟨N8, ?_, ⟨fun k h1 h2 => by rw [k8 k h1, n2 k h2]; exact hP.1 k h1 h2, fun j hj => by rw [k9 j hj, n2 0 (by omega)]; exact hP.2 j hj⟩⟩
  have q1 : (10 * d + e) / 10 = d := by omega
  have q2 : (10 * d + e) % 10 = e := by omega
  have q3 : (6 : Int) + (x : Int) = ((6 + x : Nat) : Int) := by omega
  unfold fX9_takesOther
  simp (disch := omega) only [il_0, il_1, il_2, il_3, il_4, il_5, il_6, il_7, il_8, il_9, il_10, il_11, il_12, il_13, il_16, il_20, il_30, il_31, il_32, il_33, il_36, il_37, il_38, il_40, il_41, il_42, il_43, il_45, il_47, il_48, il_50, il_57, il_60, il_61, il_62, il_70, il_71, il_79, il_80, il_97, il_98, il_99, il_100, il_107, il_110, il_111, il_114, il_115, il_116, il_121, il_124, il_128, il_130, il_140, il_160, il_255, il_399, il_540, il_590, il_610, il_999, il_1000, il_1250, il_10000, il_12345, il_99999, il_1000000, il_1103515245, ll_0, ll_1, ll_2, ll_3, ll_4, ll_5, ll_6, ll_7, ll_8, ll_9, ll_30, ll_48, ll_50, ll_57, ll_99, ll_100, ll_255, ll_399, ll_999, ll_99999, nq_bs, nq_ltS, nq_b2S, b2_id, bi_id, iI_add, iI_sub, iI_mul, iI_neg, lI_neg, iI_64, iI_lt, iI_le, iI_eq, iI_ag, iI_as, iI_ar, iI_dv, iI_rem, isOut8, in9, bo_nz, bo_t, bo_f, wr_s, wr_n, wr_k, if_pos, if_neg, ↓reduceIte, Nat.reduceAdd, Nat.reduceMul, Nat.reduceSub, Nat.reduceEqDiff, Int.reduceToNat, Int.toNat_natCast, Int.reduceNeg, Int.reduceAdd, Int.reduceSub, Int.reduceMul, q1, q2, q3] at n1 ⊢
  rw [Option.some.inj n1, r9, nq_b2S]
  split <;> rfl
/-- whether two are of two minds -/
def tmB (D : Nat → Int) (x : Nat) (a b o t y : Int) : Bool := decide (o ≠ t) && decide ((tV D (6 + x) (nmL o t (-y) a b) = 0) ↔ (tV D (6 + x) (nmL t o y b a) = 0))
theorem tm_v {D : Nat → Int} {x : Nat} {a b o t y : Int} {V1 V2 : Int32} (h1 : tV D (6 + x) (nmL o t (-y) a b) = V1) (h2 : tV D (6 + x) (nmL t o y b a) = V2) : tmB D x a b o t y = (decide (o ≠ t) && decide (V1 = 0 ↔ V2 = 0)) := by
  unfold tmB
  rw [h1, h2]
theorem two8 {Mx M : Mem} {D : Nat → Int} {x : Nat} {a b o t y : Int} (hT : GT Mx 23 D) (hx : x < 2) (ho : 0 ≤ o ∧ o < 4) (ht : 0 ≤ t ∧ t < 4) (hP : PX Mx M) : ∃ M', fX8_areOfTwoMinds (23 + 2 * (6 + x)) (iI a) (iI b) (iI (4 * o + t)) (iI y) M = some (iI (if tmB D x a b o t y = true then 1 else 0), M') ∧ PX Mx M' := by
  have q1 : (4 * o + t) / 4 = o := by omega
  have q2 : (4 * o + t) % 4 = t := by omega
  unfold fX8_areOfTwoMinds
  rw [il_4, iI_dv (by omega) (by omega) (by omega) (by omega), nq_bs, iI_rem (by omega) (by omega) (by omega) (by omega), nq_bs, q1, q2, iI_neg]
  by_cases c : o = t
  · subst c
    rw [if_pos rfl]
    refine ⟨M, ?_, hP⟩
    unfold tmB
    rw [show decide (o ≠ o) = false from decide_eq_false (fun q => q rfl), Bool.false_and]
    rfl
  · rw [if_neg (by rw [iI_eq (by omega) (by omega)]; exact c)]
    obtain ⟨M5, M', n1, n2, hP'⟩ := rk8 (a := o) (b := t) (c := -y) (d := a) (e := b) hT (show 6 + x < 8 by omega) hP
    obtain ⟨M6, M'', m1, m2, hP''⟩ := rk8 (a := t) (b := o) (c := y) (d := b) (e := a) hT (show 6 + x < 8 by omega) hP'
    refine ⟨M'', ?_, hP''⟩
    rw [n1, nq_bs, n2, nq_b2S]
    unfold fX8_areOfTwoMinds_L54
    simp only [m1, nq_bs, m2, nq_b2S]
    have dd : decide (o ≠ t) = true := decide_eq_true c
    rw [tm_v rfl rfl, dd, Bool.true_and]
    generalize tV D (6 + x) (nmL o t (-y) a b) = V1
    generalize tV D (6 + x) (nmL t o y b a) = V2
    by_cases c1 : V1 = 0
    · by_cases c2 : V2 = 0
      · rw [if_pos c1, if_pos c2, decide_eq_true (show V1 = 0 ↔ V2 = 0 from ⟨fun _ => c2, fun _ => c1⟩)]
        rfl
      · rw [if_pos c1, if_neg c2, decide_eq_false (show ¬ (V1 = 0 ↔ V2 = 0) from fun q => c2 (q.mp c1))]
        rfl
    · by_cases c2 : V2 = 0
      · rw [if_neg c1, if_pos c2, decide_eq_false (show ¬ (V1 = 0 ↔ V2 = 0) from fun q => c1 (q.mpr c2))]
        rfl
      · rw [if_neg c1, if_neg c2, decide_eq_true (show V1 = 0 ↔ V2 = 0 from ⟨fun q => absurd q c1, fun q => absurd q c2⟩)]
        rfl
theorem two9a {x z : Int} {N : Mem} (hz : 0 ≤ z ∧ z ≤ 99999) : fX9_areOfTwo (iI x) (iI z) N = nq_b2 (fX9_takesOther (iI x) (iI (z / 100 % 10)) (iI (z / 10 % 10)) (iI (-(z % 10 - 2))) (iI (10 * (z / 10000) + z / 1000 % 10)) N) fun v11 M12 => if v11 = 0 then fX9_areOfTwo_L71 (iI x) (iI (z / 10000)) (iI (z / 1000 % 10)) (iI (z / 100 % 10)) (iI (z / 10 % 10)) (iI (z % 10 - 2)) (iI (z / 100 % 10)) M12 else fX9_areOfTwo_L71 (iI x) (iI (z / 10000)) (iI (z / 1000 % 10)) (iI (z / 100 % 10)) (iI (z / 10 % 10)) (iI (z % 10 - 2)) (iI (z / 10 % 10)) M12 := by
  unfold fX9_areOfTwo
  simp (disch := omega) only [nq_bs, nq_ltS, il_10000, il_1000, il_100, il_10, il_2, iI_dv, iI_rem, iI_sub, iI_mul, iI_add, iI_neg]
theorem two9 {Mx N0 N : Mem} {D : Nat → Int} {x : Nat} {a b o t y : Int} (hT : GT Mx 23 D) (h0 : ∀ j, j < 1250 → N0 1 j = iI (D j)) (hx : x < 2) (ha : 0 ≤ a ∧ a ≤ 9) (hb : 0 ≤ b ∧ b ≤ 9) (ho : 0 ≤ o ∧ o < 4) (ht : 0 ≤ t ∧ t < 4) (hot : o ≠ t) (hy : -2 ≤ y ∧ y ≤ 2) (hP : PN N0 N) : ∃ N', fX9_areOfTwo (iI x) (iI (10000 * a + 1000 * b + 100 * o + 10 * t + (y + 2))) N = some (iI (if tmB D x a b o t y = true then 1 else 0), N') ∧ PN N0 N' := by
  obtain ⟨N1, n1, hP1⟩ := to9 (a := o) (b := t) (c := -y) (d := a) (e := b) hT h0 hx ha hb hP
  obtain ⟨N2, n2, hP2⟩ := to9 (a := t) (b := o) (c := y) (d := b) (e := a) hT h0 hx hb ha hP1
  have dd : decide (o ≠ t) = true := decide_eq_true hot
  rw [tm_v rfl rfl, dd, Bool.true_and]
  generalize tV D (6 + x) (nmL o t (-y) a b) = V1 at *
  generalize tV D (6 + x) (nmL t o y b a) = V2 at *
  refine ⟨N2, ?_, hP2⟩
  have q1 : (10000 * a + 1000 * b + 100 * o + 10 * t + (y + 2)) / 10000 = a := by omega
  have q2 : (10000 * a + 1000 * b + 100 * o + 10 * t + (y + 2)) / 1000 % 10 = b := by omega
  have q3 : (10000 * a + 1000 * b + 100 * o + 10 * t + (y + 2)) / 100 % 10 = o := by omega
  have q4 : (10000 * a + 1000 * b + 100 * o + 10 * t + (y + 2)) / 10 % 10 = t := by omega
  have q5 : (10000 * a + 1000 * b + 100 * o + 10 * t + (y + 2)) % 10 - 2 = y := by omega
  have e1 : ¬ iI o = iI t := by rw [iI_eq (by omega) (by omega)]; exact hot
  have e2 : ¬ iI t = iI o := by rw [iI_eq (by omega) (by omega)]; exact fun q => hot q.symm
  rw [two9a (by omega), q1, q2, q3, q4, q5, n1, nq_b2S]
  unfold fX9_areOfTwo_L71
  rw [il_10, iI_mul, iI_add, n2, nq_b2S, nq_b2S]
  by_cases c1 : V1 = 0
  · by_cases c2 : V2 = 0
    · rw [if_pos c1, if_pos (by decide), if_pos c2, if_pos (by decide), if_neg e1, decide_eq_true (show V1 = 0 ↔ V2 = 0 from ⟨fun _ => c2, fun _ => c1⟩)]
      rfl
    · rw [if_pos c1, if_pos (by decide), if_neg c2, if_neg (by decide), if_pos rfl, decide_eq_false (show ¬ (V1 = 0 ↔ V2 = 0) from fun q => c2 (q.mp c1))]
      rfl
  · by_cases c2 : V2 = 0
    · rw [if_neg c1, if_neg (by decide), if_pos c2, if_pos (by decide), if_pos rfl, decide_eq_false (show ¬ (V1 = 0 ↔ V2 = 0) from fun q => c1 (q.mpr c2))]
      rfl
    · rw [if_neg c1, if_neg (by decide), if_neg c2, if_neg (by decide), if_neg e2, decide_eq_true (show V1 = 0 ↔ V2 = 0 from ⟨fun q => absurd q c1, fun q => absurd q c2⟩)]
      rfl
theorem runL_app {α ρ : Type} {g : α → Nat → α ⊕ ρ} : ∀ (l1 l2 : List Nat) (a : α), runL g (l1 ++ l2) a = (match runL g l1 a with | .inl a' => runL g l2 a' | .inr r => .inr r) := by
  intro l1
  induction l1 with
  | nil => intro l2 a; rfl
  | cons w l1 ih =>
    intro l2 a
    simp only [List.cons_append, runL]
    cases g a w with
    | inl a' => exact ih l2 a'
    | inr r => rfl
theorem lpN {body : Int32 × Int32 × Mem → Option ((Int32 × Int32 × Mem) ⊕ ((Int32 × Mem) ⊕ (Int32 × Mem)))} (P : Mem → Prop) (n : Nat) (ix : Nat → Int32) (g : Int → Nat → Int ⊕ Int) (l : Nat → List Nat)
    (hs : ∀ k c M, k < n → P M → ∃ M', P M' ∧ body (iI c, ix k, M) = (match runL g (l k) c with | .inl c' => some (.inl (iI c', ix (k + 1), M')) | .inr r => some (.inr (.inr (iI r, M')))))
    (he : ∀ c M, P M → body (iI c, ix n, M) = some (.inr (.inl (iI c, M)))) : ∀ m k fuel c M, k + m = n → m < fuel → P M → ∃ M', P M' ∧ nq_lp body fuel (iI c, ix k, M) = (match runL g ((List.range' k m).flatMap l) c with | .inl c' => some (.inl (iI c', M')) | .inr r => some (.inr (iI r, M'))) := by
  intro m
  induction m with
  | zero =>
    intro k fuel c M hk hf hP
    obtain ⟨f, rfl⟩ : ∃ f, fuel = f + 1 := ⟨fuel - 1, by omega⟩
    have : k = n := by omega
    subst this
    exact ⟨M, hP, lp_r (he c M hP)⟩
  | succ m ih =>
    intro k fuel c M hk hf hP
    obtain ⟨f, rfl⟩ : ∃ f, fuel = f + 1 := ⟨fuel - 1, by omega⟩
    obtain ⟨M1, hP1, e1⟩ := hs k c M (by omega) hP
    rw [show List.range' k (m + 1) = k :: List.range' (k + 1) m from rfl, List.flatMap_cons, runL_app]
    cases hr : runL g (l k) c with
    | inl c' =>
      rw [hr] at e1
      obtain ⟨M2, hP2, e2⟩ := ih (k + 1) f c' M1 (by omega) (by omega) hP1
      exact ⟨M2, hP2, (lp_i e1).trans e2⟩
    | inr r =>
      rw [hr] at e1
      exact ⟨M1, hP1, lp_r e1⟩
theorem lpF {body : Int32 × Int32 × Int32 × Mem → Option ((Int32 × Int32 × Int32 × Mem) ⊕ (Int32 × Int32 × Mem))} (P : Mem → Prop) (n : Nat) (F : Int → Prop) (st : Int × Int → Nat → Int × Int) (l : Nat → List Nat)
    (hs : ∀ k c f M, k < n → P M → F f → ∃ M', P M' ∧ F ((l k).foldl st (c, f)).2 ∧ body (iI c, iI f, iI k, M) = some (.inl (iI ((l k).foldl st (c, f)).1, iI ((l k).foldl st (c, f)).2, iI ((k + 1 : Nat) : Int), M')))
    (he : ∀ c f M, P M → body (iI c, iI f, iI n, M) = some (.inr (iI c, iI f, M))) : ∀ m k fuel c f M, k + m = n → m < fuel → P M → F f → ∃ M', P M' ∧ F (((List.range' k m).flatMap l).foldl st (c, f)).2 ∧ nq_lp body fuel (iI c, iI f, iI k, M) = some (iI (((List.range' k m).flatMap l).foldl st (c, f)).1, iI (((List.range' k m).flatMap l).foldl st (c, f)).2, M') := by
  intro m
  induction m with
  | zero =>
    intro k fuel c f M hk hf hP hF
    obtain ⟨f', rfl⟩ : ∃ f, fuel = f + 1 := ⟨fuel - 1, by omega⟩
    have : k = n := by omega
    subst this
    exact ⟨M, hP, hF, lp_r (he c f M hP)⟩
  | succ m ih =>
    intro k fuel c f M hk hf hP hF
    obtain ⟨f', rfl⟩ : ∃ f, fuel = f + 1 := ⟨fuel - 1, by omega⟩
    obtain ⟨M1, hP1, hF1, e1⟩ := hs k c f M (by omega) hP hF
    rw [show List.range' k (m + 1) = k :: List.range' (k + 1) m from rfl, List.flatMap_cons, List.foldl_append]
    obtain ⟨M2, hP2, hF2, e2⟩ := ih (k + 1) f' ((l k).foldl st (c, f)).1 ((l k).foldl st (c, f)).2 M1 (by omega) (by omega) hP1 hF1
    exact ⟨M2, hP2, hF2, (lp_i e1).trans e2⟩
def cdA (a b o t y : Nat) : Nat := 10000 * a + 1000 * b + 100 * o + 10 * t + y
def mL8 : List Nat := (List.range' 0 6).flatMap fun a => (List.range' 0 (5 - a)).flatMap fun i => (List.range' 0 16).flatMap fun x => (List.range' 0 5).flatMap fun y => [cdA a (a + 1 + i) (x / 4) (x % 4) y]
def mL9 : List Nat := (List.range' 0 60).flatMap fun p => (List.range' 0 40).flatMap fun q => if p / 10 < p % 10 ∧ p % 10 < 6 ∧ q % 10 < 4 ∧ q / 10 ≠ q % 10 then (List.range' 0 5).flatMap fun y => [cdA (p / 10) (p % 10) (q / 10) (q % 10) y] else []
theorem mL_eq : mL8.filter (fun c => decide (c / 100 % 10 ≠ c / 10 % 10)) = mL9 := by decide +kernel
def tmC (D : Nat → Int) (x : Nat) (c : Nat) : Bool := tmB D x ((c / 10000 : Nat) : Int) ((c / 1000 % 10 : Nat) : Int) ((c / 100 % 10 : Nat) : Int) ((c / 10 % 10 : Nat) : Int) (((c % 10 : Nat) : Int) - 2)
theorem cdA_d {a b o t y : Nat} (hb : b < 10) (ho : o < 10) (ht : t < 10) (hy : y < 10) : cdA a b o t y / 10000 = a ∧ cdA a b o t y / 1000 % 10 = b ∧ cdA a b o t y / 100 % 10 = o ∧ cdA a b o t y / 10 % 10 = t ∧ cdA a b o t y % 10 = y := by
  unfold cdA; omega
theorem tmC_cd {D : Nat → Int} {x a b o t y : Nat} (hb : b < 10) (ho : o < 10) (ht : t < 10) (hy : y < 10) : tmC D x (cdA a b o t y) = tmB D x a b o t ((y : Int) - 2) := by
  obtain ⟨e1, e2, e3, e4, e5⟩ := cdA_d (a := a) hb ho ht hy
  unfold tmC
  rw [e1, e2, e3, e4, e5]
def gM (G : Nat → Bool) (w : Int) (c : Int) (k : Nat) : Int ⊕ Int := if G k = true then (if w = 1 then .inr (k : Int) else .inl (c + 1)) else .inl c
def sM (G : Nat → Bool) (s : Int × Int) (k : Nat) : Int × Int := if G k = true then (s.1 + 1, if 0 ≤ s.2 then s.2 else (k : Int)) else s
theorem run_flt {G : Nat → Bool} {w : Int} {q : Nat → Bool} (hq : ∀ k, q k = false → G k = false) : ∀ (l : List Nat) (c : Int), runL (gM G w) l c = runL (gM G w) (l.filter q) c := by
  intro l
  induction l with
  | nil => intro c; rfl
  | cons k l ih =>
    intro c
    cases hk : q k with
    | true =>
      rw [List.filter_cons_of_pos hk]
      simp only [runL]
      cases gM G w c k with
      | inl c' => exact ih c'
      | inr r => rfl
    | false =>
      rw [List.filter_cons_of_neg (by rw [hk]; decide)]
      simp only [runL]
      rw [show gM G w c k = .inl c by unfold gM; rw [hq k hk, if_neg (by decide)]]
      exact ih c
theorem run_0 {G : Nat → Bool} : ∀ (l : List Nat) (c f : Int), runL (gM G 0) l c = .inl (l.foldl (sM G) (c, f)).1 := by
  intro l
  induction l with
  | nil => intro c f; rfl
  | cons k l ih =>
    intro c f
    simp only [runL, List.foldl_cons]
    cases hk : G k with
    | true =>
      rw [show gM G 0 c k = .inl (c + 1) by unfold gM; rw [if_pos hk, if_neg (by decide)], show sM G (c, f) k = (c + 1, if 0 ≤ f then f else (k : Int)) by unfold sM; rw [if_pos hk]]
      exact ih _ _
    | false =>
      rw [show gM G 0 c k = .inl c by unfold gM; rw [hk, if_neg (by decide)], show sM G (c, f) k = (c, f) by unfold sM; rw [hk, if_neg (by decide)]]
      exact ih _ _
theorem fold_f {G : Nat → Bool} : ∀ (l : List Nat) (c f : Int), 0 ≤ f → (l.foldl (sM G) (c, f)).2 = f := by
  intro l
  induction l with
  | nil => intro c f _; rfl
  | cons k l ih =>
    intro c f hf
    simp only [List.foldl_cons]
    cases hk : G k with
    | true =>
      rw [show sM G (c, f) k = (c + 1, f) by unfold sM; rw [if_pos hk, if_pos hf]]
      exact ih _ _ hf
    | false =>
      rw [show sM G (c, f) k = (c, f) by unfold sM; rw [hk, if_neg (by decide)]]
      exact ih _ _ hf
theorem run_1 {G : Nat → Bool} : ∀ (l : List Nat) (c c' : Int), runL (gM G 1) l c = if 0 ≤ (l.foldl (sM G) (c', -1)).2 then .inr (l.foldl (sM G) (c', -1)).2 else .inl c := by
  intro l
  induction l with
  | nil => intro c c'; rfl
  | cons k l ih =>
    intro c c'
    rw [show (k :: l).foldl (sM G) (c', -1) = l.foldl (sM G) (sM G (c', -1) k) from rfl]
    simp only [runL]
    cases hk : G k with
    | true =>
      rw [show gM G 1 c k = .inr (k : Int) by unfold gM; rw [if_pos hk, if_pos rfl], show sM G (c', -1) k = (c' + 1, (k : Int)) by unfold sM; rw [if_pos hk]; rfl]
      rw [fold_f _ _ _ (by omega), if_pos (by omega)]
    | false =>
      rw [show gM G 1 c k = .inl c by unfold gM; rw [hk, if_neg (by decide)], show sM G (c', -1) k = (c', -1) by unfold sM; rw [hk, if_neg (by decide)]]
      exact ih _ _
