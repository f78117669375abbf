/-! 17.c: pass, begin, nextYear -/
theorem lp_i {σ ρ : Type} {body : σ → Option (σ ⊕ ρ)} {n : Nat} {s s' : σ} (h : body s = some (.inl s')) : nq_lp body (n + 1) s = nq_lp body n s' := by
  rw [nq_lp, h]
theorem lp_r {σ ρ : Type} {body : σ → Option (σ ⊕ ρ)} {n : Nat} {s : σ} {r : ρ} (h : body s = some (.inr r)) : nq_lp body (n + 1) s = some r := by
  rw [nq_lp, h]
theorem endS_SR {Y : Int} {t : Int × Int} (h : SR t) : SR (endS Y t) := by
  unfold endS SR at *
  split
  · dsimp only; omega
  · exact h
theorem rcv_SR {D : Nat → Int} {t : Int × Int} {w : Nat} (h : SR t) : SR (rcv D t w) := by
  unfold rcv SR at *
  split
  · dsimp only; omega
  · split
    · dsimp only; omega
    · exact h
theorem prp_SR {D : Nat → Int} {t : Int × Int} {w : Nat} (h : SR t) (hk : wordOK D w) : SR (prp D t w) := by
  obtain ⟨_, _, _, _, k4, _, k6, _⟩ := hk
  unfold prp SR at *
  split
  · dsimp only; omega
  · exact h
theorem sy_SR {D off : Nat → Int} {Y : Int} {t : Int × Int} {w : Nat} (h : SR t) (hk : wordOK D w) : SR (sy D off Y t w) := by
  have hp := prp_SR h hk
  unfold sy
  split
  · exact hp
  · split
    · split
      · unfold SR at *; dsimp only; omega
      · exact hp
    · split
      · split
        · unfold SR at *; dsimp only; omega
        · exact h
      · split
        · split
          · unfold SR at *; dsimp only; omega
          · exact h
        · split
          · unfold SR at *; dsimp only; omega
          · exact h
theorem offG_OR {D : Nat → Int} {off : Nat → Int} {w : Nat} (h : OR off) (hk : wordOK D w) : OR (fun k => offG D k (off k) w) := by
  obtain ⟨_, _, _, _, k4, _, k6, _⟩ := hk
  intro k hk
  have := h k hk
  unfold offG
  dsimp only
  split
  · split <;> omega
  · exact this
theorem At.len {q : Nat → Bool} {A : List Nat} {i : Nat} {R : List Nat} (h : At q A i R) : R.length ≤ A.length - i := by
  obtain ⟨h1, h2, _⟩ := h
  rw [← h2]
  refine Nat.le_trans (List.length_filter_le _ _) ?_
  rw [List.length_drop]; exact Nat.le_refl _
theorem At.mem {q : Nat → Bool} {A : List Nat} {i w : Nat} {R : List Nat} (h : At q A i R) (hw : w ∈ R) : w ∈ A := by
  obtain ⟨h1, h2, _⟩ := h
  rw [← h2] at hw
  exact List.mem_of_mem_drop (List.mem_filter.mp hw).1
/-- what comes up to a year is taken in -/
theorem recvAll {M : Mem} {p : Nat} {D : Nat → Int} {x pc Y : Int} {off : Nat → Int} (hp : 16 ≤ p) (hx : inR x) (hy : inR pc) (hY : inR Y) : ∀ (m : Nat) (RA RB : List Nat) (c : Nat) (M1 : Mem) (t : Int × Int) (off : Nat → Int) (fuel : Nat), RA.length ≤ m → c + RA.length ≤ 80 → m < fuel → FX p M M1 → GL M1 6 D → CL M1 p D x pc t.1 t.2 off RA RB → SR t → OR off → ∃ M', nq_lp (fun s : Int32 × Mem => fX4_pass_B7 p 6 (iI Y) s.1 s.2) fuel (iI c, M1) = some M' ∧ FX p M M' ∧ SR ((RA.takeWhile (fun w => decide (D (615 + 8 * w) ≤ Y))).foldl (rcv D) t) ∧ OR (fun k => (RA.takeWhile (fun w => decide (D (615 + 8 * w) ≤ Y))).foldl (offG D k) (off k)) ∧ CL M' p D x pc ((RA.takeWhile (fun w => decide (D (615 + 8 * w) ≤ Y))).foldl (rcv D) t).1 ((RA.takeWhile (fun w => decide (D (615 + 8 * w) ≤ Y))).foldl (rcv D) t).2 (fun k => (RA.takeWhile (fun w => decide (D (615 + 8 * w) ≤ Y))).foldl (offG D k) (off k)) (RA.dropWhile (fun w => decide (D (615 + 8 * w) ≤ Y))) RB := by
  intro m
  induction m with
  | zero =>
    intro RA RB c M1 t off fuel hm hc hf hF hL hC ht ho
    obtain ⟨f, rfl⟩ : ∃ f, fuel = f + 1 := ⟨fuel - 1, by omega⟩
    have e : RA = [] := List.eq_nil_of_length_eq_zero (by omega)
    subst e
    refine ⟨M1, ?_, hF, ht, ho, hC⟩
    obtain ⟨i, j, ⟨c2, c3, c4, c5, c6, c7, c8⟩, hA, hB⟩ := hC
    have w1 := hL.2.1
    have len := arrL_len w1
    have nL : M1 6 9 = iI (arrL D).length := by rw [← iI_nat]; exact hL.2.2.2.1
    have hi : i = (arrL D).length := by
      rcases hA.2.2 with ⟨_, h⟩ | ⟨w, R, h, _⟩
      · exact h
      · cases h
    rw [hi] at c6
    have eb : fX4_pass_B7 p 6 (iI Y) (iI c) M1 = some (.inr M1) := by
      unfold fX4_pass_B7 fX4_hasArrival
      by_cases c80 : 80 ≤ c
      · simp (disch := omega) only [il_0, il_1, il_2, il_3, il_4, il_5, il_6, il_7, il_8, il_9, il_10, il_11, il_12, il_13, il_16, il_20, il_30, il_31, il_32, il_33, il_36, il_37, il_38, il_40, il_41, il_42, il_43, il_45, il_47, il_48, il_50, il_57, il_60, il_61, il_62, il_70, il_71, il_79, il_80, il_97, il_98, il_99, il_100, il_107, il_110, il_111, il_114, il_115, il_116, il_121, il_124, il_128, il_130, il_140, il_160, il_255, il_399, il_540, il_590, il_610, il_999, il_1000, il_1250, il_10000, il_12345, il_99999, il_1000000, il_1103515245, ll_0, ll_1, ll_2, ll_3, ll_4, ll_5, ll_6, ll_7, ll_8, ll_9, ll_30, ll_48, ll_50, ll_57, ll_99, ll_100, ll_255, ll_399, ll_999, ll_99999, nq_bs, nq_ltS, nq_b2S, b2_id, bi_id, iI_add, iI_sub, iI_mul, iI_neg, lI_neg, iI_64, iI_lt, iI_le, iI_eq, iI_ag, iI_as, iI_ar, iI_dv, iI_rem, isOut8, in9, bo_nz, bo_t, bo_f, wr_s, wr_n, wr_k, if_pos, if_neg, ↓reduceIte, Nat.reduceAdd, Nat.reduceMul, Nat.reduceSub, Nat.reduceEqDiff, Int.reduceToNat, Int.toNat_natCast, Int.reduceNeg, Int.reduceAdd, Int.reduceSub, Int.reduceMul]
      · simp (disch := omega) only [il_0, il_1, il_2, il_3, il_4, il_5, il_6, il_7, il_8, il_9, il_10, il_11, il_12, il_13, il_16, il_20, il_30, il_31, il_32, il_33, il_36, il_37, il_38, il_40, il_41, il_42, il_43, il_45, il_47, il_48, il_50, il_57, il_60, il_61, il_62, il_70, il_71, il_79, il_80, il_97, il_98, il_99, il_100, il_107, il_110, il_111, il_114, il_115, il_116, il_121, il_124, il_128, il_130, il_140, il_160, il_255, il_399, il_540, il_590, il_610, il_999, il_1000, il_1250, il_10000, il_12345, il_99999, il_1000000, il_1103515245, ll_0, ll_1, ll_2, ll_3, ll_4, ll_5, ll_6, ll_7, ll_8, ll_9, ll_30, ll_48, ll_50, ll_57, ll_99, ll_100, ll_255, ll_399, ll_999, ll_99999, nq_bs, nq_ltS, nq_b2S, b2_id, bi_id, iI_add, iI_sub, iI_mul, iI_neg, lI_neg, iI_64, iI_lt, iI_le, iI_eq, iI_ag, iI_as, iI_ar, iI_dv, iI_rem, isOut8, in9, bo_nz, bo_t, bo_f, wr_s, wr_n, wr_k, if_pos, if_neg, ↓reduceIte, Nat.reduceAdd, Nat.reduceMul, Nat.reduceSub, Nat.reduceEqDiff, Int.reduceToNat, Int.toNat_natCast, Int.reduceNeg, Int.reduceAdd, Int.reduceSub, Int.reduceMul, c6, nL]
    exact lp_r eb
  | succ m ih =>
    intro RA RB c M1 t off fuel hm hc hf hF hL hC ht ho
    obtain ⟨f, rfl⟩ : ∃ f, fuel = f + 1 := ⟨fuel - 1, by omega⟩
    have w1 := hL.2.1
    have len := arrL_len w1
    have nL : M1 6 9 = iI (arrL D).length := by rw [← iI_nat]; exact hL.2.2.2.1
    have hC' := hC
    obtain ⟨i, j, hS, hA, hB⟩ := hC'
    have hS' := hS
    obtain ⟨c2, c3, c4, c5, c6, c7, c8⟩ := hS'
    rcases hA.2.2 with ⟨e, h⟩ | ⟨w, R, e, hi, hg, hR⟩
    · exact ih RA RB c M1 t off (f + 1) (by rw [e]; exact Nat.zero_le _) hc (by omega) hF hL hC ht ho
    · subst e
      have mm := arrL_getD hi
      rw [hg] at mm
      have gk : M1 15 i = iI (w : Nat) := by rw [← hg, ← iI_nat]; exact hL.2.2.2.2.1 i hi
      have f6 : M1 12 w = iI (D (615 + 8 * w)) := (hL.fld (show w < 80 by omega)).2.2.2.2.2.1
      have ok := hL.2.2.2.2.2 w (by omega)
      have k6 := ok.2.2.2.2.2.1
      have hcl : c < 80 := by rw [List.length_cons] at hc; omega
      by_cases cy : D (615 + 8 * w) ≤ Y
      · obtain ⟨M2, e2, F2, C2⟩ := receive8 hp hL (w := w) (by omega) hS ht ho
        have L2 := F2.GL hp hL
        have q6 : M2 p 6 = iI i := C2.2.2.2.2.1
        have C3 : CS (nq_wr M2 p 6 (iI ((i + 1 : Nat) : Int))) p x pc (rcv D t w).1 (rcv D t w).2 (fun k => offG D k (off k) w) (i + 1) j := by
          obtain ⟨d2, d3, d4, d5, d6, d7, d8⟩ := C2
          refine ⟨?_, ?_, ?_, ?_, ?_, ?_, ?_⟩
          · rw [wr_n (by omega)]; exact d2
          · rw [wr_n (by omega)]; exact d3
          · rw [wr_n (by omega)]; exact d4
          · rw [wr_n (by omega)]; exact d5
          · rw [wr_s ⟨rfl, rfl⟩]
          · rw [wr_n (by omega)]; exact d7
          · intro k hk; rw [wr_k (by omega)]; exact d8 k hk
        have F3 : FX p M2 (nq_wr M2 p 6 (iI ((i + 1 : Nat) : Int))) := (FX.refl p M2).wr (Or.inl rfl)
        obtain ⟨M4, e4, F4, C4⟩ := seek8 hp (F3.GL hp L2) hx hy C3 (by omega) (by have := hB.1; rw [List.length_range] at this; exact this)
        rw [hR, hB.2.1] at C4
        have eb : fX4_pass_B7 p 6 (iI Y) (iI c) M1 = some (.inl (iI ((c + 1 : Nat) : Int), M4)) := by
          unfold fX4_pass_B7 fX4_hasArrival
          have q1 : ((i : Int) + 1) = ((i + 1 : Nat) : Int) := by omega
          simp (disch := omega) only [il_0, il_1, il_2, il_3, il_4, il_5, il_6, il_7, il_8, il_9, il_10, il_11, il_12, il_13, il_16, il_20, il_30, il_31, il_32, il_33, il_36, il_37, il_38, il_40, il_41, il_42, il_43, il_45, il_47, il_48, il_50, il_57, il_60, il_61, il_62, il_70, il_71, il_79, il_80, il_97, il_98, il_99, il_100, il_107, il_110, il_111, il_114, il_115, il_116, il_121, il_124, il_128, il_130, il_140, il_160, il_255, il_399, il_540, il_590, il_610, il_999, il_1000, il_1250, il_10000, il_12345, il_99999, il_1000000, il_1103515245, ll_0, ll_1, ll_2, ll_3, ll_4, ll_5, ll_6, ll_7, ll_8, ll_9, ll_30, ll_48, ll_50, ll_57, ll_99, ll_100, ll_255, ll_399, ll_999, ll_99999, nq_bs, nq_ltS, nq_b2S, b2_id, bi_id, iI_add, iI_sub, iI_mul, iI_neg, lI_neg, iI_64, iI_lt, iI_le, iI_eq, iI_ag, iI_as, iI_ar, iI_dv, iI_rem, isOut8, in9, bo_nz, bo_t, bo_f, wr_s, wr_n, wr_k, if_pos, if_neg, ↓reduceIte, Nat.reduceAdd, Nat.reduceMul, Nat.reduceSub, Nat.reduceEqDiff, Int.reduceToNat, Int.toNat_natCast, Int.reduceNeg, Int.reduceAdd, Int.reduceSub, Int.reduceMul, c6, nL, gk, f6, e2, q6, q1, e4]
          rfl
        obtain ⟨M', x1, x2, x3, x4, x5⟩ := ih R RB (c + 1) M4 (rcv D t w) (fun k => offG D k (off k) w) f (by rw [List.length_cons] at hm; omega) (by rw [List.length_cons] at hc; omega) (by omega) (((hF.trans F2).trans F3).trans F4) (F4.GL hp (F3.GL hp L2)) C4 (rcv_SR ht) (offG_OR ho ok)
        refine ⟨M', ?_, x2, ?_, ?_, ?_⟩
        · exact (lp_i eb).trans x1
        all_goals simp only [List.takeWhile_cons, List.dropWhile_cons, decide_eq_true cy, if_true, List.foldl_cons]
        · exact x3
        · exact x4
        · exact x5
      · have eb : fX4_pass_B7 p 6 (iI Y) (iI c) M1 = some (.inr M1) := by
          unfold fX4_pass_B7 fX4_hasArrival
          simp (disch := omega) only [il_0, il_1, il_2, il_3, il_4, il_5, il_6, il_7, il_8, il_9, il_10, il_11, il_12, il_13, il_16, il_20, il_30, il_31, il_32, il_33, il_36, il_37, il_38, il_40, il_41, il_42, il_43, il_45, il_47, il_48, il_50, il_57, il_60, il_61, il_62, il_70, il_71, il_79, il_80, il_97, il_98, il_99, il_100, il_107, il_110, il_111, il_114, il_115, il_116, il_121, il_124, il_128, il_130, il_140, il_160, il_255, il_399, il_540, il_590, il_610, il_999, il_1000, il_1250, il_10000, il_12345, il_99999, il_1000000, il_1103515245, ll_0, ll_1, ll_2, ll_3, ll_4, ll_5, ll_6, ll_7, ll_8, ll_9, ll_30, ll_48, ll_50, ll_57, ll_99, ll_100, ll_255, ll_399, ll_999, ll_99999, nq_bs, nq_ltS, nq_b2S, b2_id, bi_id, iI_add, iI_sub, iI_mul, iI_neg, lI_neg, iI_64, iI_lt, iI_le, iI_eq, iI_ag, iI_as, iI_ar, iI_dv, iI_rem, isOut8, in9, bo_nz, bo_t, bo_f, wr_s, wr_n, wr_k, if_pos, if_neg, ↓reduceIte, Nat.reduceAdd, Nat.reduceMul, Nat.reduceSub, Nat.reduceEqDiff, Int.reduceToNat, Int.toNat_natCast, Int.reduceNeg, Int.reduceAdd, Int.reduceSub, Int.reduceMul, c6, nL, gk, f6]
        refine ⟨M1, ?_, hF, ?_, ?_, ?_⟩
        · exact lp_r eb
        all_goals simp only [List.takeWhile_cons, List.dropWhile_cons, decide_eq_false cy]
        · exact ht
        · exact ho
        · exact hC
/-- what was sent up to a year goes out -/
theorem sayAll {M : Mem} {p : Nat} {D : Nat → Int} {x pc Y : Int} {off : Nat → Int} (hp : 16 ≤ p) (hx : inR x) (hy : inR pc) (hY : inR Y) : ∀ (m : Nat) (RA RB : List Nat) (c : Nat) (M1 : Mem) (t : Int × Int) (fuel : Nat), RB.length ≤ m → c + RB.length ≤ 80 → m < fuel → FX p M M1 → GL M1 6 D → CL M1 p D x pc t.1 t.2 off RA RB → SR t → OR off → ∃ M', nq_lp (fun s : Int32 × Mem => fX4_pass_B76 p 6 (iI Y) s.1 s.2) fuel (iI c, M1) = some M' ∧ FX p M M' ∧ SR ((RB.takeWhile (fun w => decide (D (614 + 8 * w) ≤ Y))).foldl (sy D off Y) t) ∧ CL M' p D x pc ((RB.takeWhile (fun w => decide (D (614 + 8 * w) ≤ Y))).foldl (sy D off Y) t).1 ((RB.takeWhile (fun w => decide (D (614 + 8 * w) ≤ Y))).foldl (sy D off Y) t).2 off RA (RB.dropWhile (fun w => decide (D (614 + 8 * w) ≤ Y))) := by
  intro m
  induction m with
  | zero =>
    intro RA RB c M1 t fuel hm hc hf hF hL hC ht ho
    obtain ⟨f, rfl⟩ : ∃ f, fuel = f + 1 := ⟨fuel - 1, by omega⟩
    have e : RB = [] := List.eq_nil_of_length_eq_zero (by omega)
    subst e
    refine ⟨M1, ?_, hF, ht, hC⟩
    obtain ⟨i, j, ⟨c2, c3, c4, c5, c6, c7, c8⟩, hA, hB⟩ := hC
    have w1 := hL.2.1
    have nL : M1 6 0 = iI (D 2) := hL.1
    have hj : j = (D 2).toNat := by
      rcases hB.2.2 with ⟨_, h⟩ | ⟨w, R, h, _⟩
      · rw [List.length_range] at h; exact h
      · cases h
    subst hj
    have eb : fX4_pass_B76 p 6 (iI Y) (iI c) M1 = some (.inr M1) := by
      unfold fX4_pass_B76 fX4_hasSent
      by_cases c80 : 80 ≤ c
      · simp (disch := omega) only [il_0, il_1, il_2, il_3, il_4, il_5, il_6, il_7, il_8, il_9, il_10, il_11, il_12, il_13, il_16, il_20, il_30, il_31, il_32, il_33, il_36, il_37, il_38, il_40, il_41, il_42, il_43, il_45, il_47, il_48, il_50, il_57, il_60, il_61, il_62, il_70, il_71, il_79, il_80, il_97, il_98, il_99, il_100, il_107, il_110, il_111, il_114, il_115, il_116, il_121, il_124, il_128, il_130, il_140, il_160, il_255, il_399, il_540, il_590, il_610, il_999, il_1000, il_1250, il_10000, il_12345, il_99999, il_1000000, il_1103515245, ll_0, ll_1, ll_2, ll_3, ll_4, ll_5, ll_6, ll_7, ll_8, ll_9, ll_30, ll_48, ll_50, ll_57, ll_99, ll_100, ll_255, ll_399, ll_999, ll_99999, nq_bs, nq_ltS, nq_b2S, b2_id, bi_id, iI_add, iI_sub, iI_mul, iI_neg, lI_neg, iI_64, iI_lt, iI_le, iI_eq, iI_ag, iI_as, iI_ar, iI_dv, iI_rem, isOut8, in9, bo_nz, bo_t, bo_f, wr_s, wr_n, wr_k, if_pos, if_neg, ↓reduceIte, Nat.reduceAdd, Nat.reduceMul, Nat.reduceSub, Nat.reduceEqDiff, Int.reduceToNat, Int.toNat_natCast, Int.reduceNeg, Int.reduceAdd, Int.reduceSub, Int.reduceMul]
      · simp (disch := omega) only [il_0, il_1, il_2, il_3, il_4, il_5, il_6, il_7, il_8, il_9, il_10, il_11, il_12, il_13, il_16, il_20, il_30, il_31, il_32, il_33, il_36, il_37, il_38, il_40, il_41, il_42, il_43, il_45, il_47, il_48, il_50, il_57, il_60, il_61, il_62, il_70, il_71, il_79, il_80, il_97, il_98, il_99, il_100, il_107, il_110, il_111, il_114, il_115, il_116, il_121, il_124, il_128, il_130, il_140, il_160, il_255, il_399, il_540, il_590, il_610, il_999, il_1000, il_1250, il_10000, il_12345, il_99999, il_1000000, il_1103515245, ll_0, ll_1, ll_2, ll_3, ll_4, ll_5, ll_6, ll_7, ll_8, ll_9, ll_30, ll_48, ll_50, ll_57, ll_99, ll_100, ll_255, ll_399, ll_999, ll_99999, nq_bs, nq_ltS, nq_b2S, b2_id, bi_id, iI_add, iI_sub, iI_mul, iI_neg, lI_neg, iI_64, iI_lt, iI_le, iI_eq, iI_ag, iI_as, iI_ar, iI_dv, iI_rem, isOut8, in9, bo_nz, bo_t, bo_f, wr_s, wr_n, wr_k, if_pos, if_neg, ↓reduceIte, Nat.reduceAdd, Nat.reduceMul, Nat.reduceSub, Nat.reduceEqDiff, Int.reduceToNat, Int.toNat_natCast, Int.reduceNeg, Int.reduceAdd, Int.reduceSub, Int.reduceMul, c7, nL]
    exact lp_r eb
  | succ m ih =>
    intro RA RB c M1 t fuel hm hc hf hF hL hC ht ho
    obtain ⟨f, rfl⟩ : ∃ f, fuel = f + 1 := ⟨fuel - 1, by omega⟩
    have w1 := hL.2.1
    have nL : M1 6 0 = iI (D 2) := hL.1
    have hC' := hC
    obtain ⟨i, j, hS, hA, hB⟩ := hC'
    have hS' := hS
    obtain ⟨c2, c3, c4, c5, c6, c7, c8⟩ := hS'
    rcases hB.2.2 with ⟨e, h⟩ | ⟨w, R, e, hj, hg, hR⟩
    · exact ih RA RB c M1 t (f + 1) (by rw [e]; exact Nat.zero_le _) hc (by omega) hF hL hC ht ho
    · subst e
      rw [List.length_range] at hj
      rw [range_getD hj] at hg
      subst hg
      have f5 : M1 11 j = iI (D (614 + 8 * j)) := (hL.fld (show j < 80 by omega)).2.2.2.2.1
      have ok := hL.2.2.2.2.2 j (by omega)
      have k4 := ok.2.2.2.2.1
      have hcl : c < 80 := by rw [List.length_cons] at hc; omega
      by_cases cy : D (614 + 8 * j) ≤ Y
      · obtain ⟨M2, e2, F2, C2⟩ := say8 hp hL (w := j) (by omega) hS ht ho hY
        have L2 := F2.GL hp hL
        have q7 : M2 p 7 = iI j := C2.2.2.2.2.2.1
        have C3 : CS (nq_wr M2 p 7 (iI ((j + 1 : Nat) : Int))) p x pc (sy D off Y t j).1 (sy D off Y t j).2 off i (j + 1) := by
          obtain ⟨d2, d3, d4, d5, d6, d7, d8⟩ := C2
          refine ⟨?_, ?_, ?_, ?_, ?_, ?_, ?_⟩
          · rw [wr_n (by omega)]; exact d2
          · rw [wr_n (by omega)]; exact d3
          · rw [wr_n (by omega)]; exact d4
          · rw [wr_n (by omega)]; exact d5
          · rw [wr_n (by omega)]; exact d6
          · rw [wr_s ⟨rfl, rfl⟩]
          · intro k hk; rw [wr_k (by omega)]; exact d8 k hk
        have F3 : FX p M2 (nq_wr M2 p 7 (iI ((j + 1 : Nat) : Int))) := (FX.refl p M2).wr (Or.inl rfl)
        obtain ⟨M4, e4, F4, C4⟩ := seek8 hp (F3.GL hp L2) hx hy C3 hA.1 (by omega)
        rw [hR, hA.2.1] at C4
        have eb : fX4_pass_B76 p 6 (iI Y) (iI c) M1 = some (.inl (iI ((c + 1 : Nat) : Int), M4)) := by
          unfold fX4_pass_B76 fX4_hasSent
          have q1 : ((j : Int) + 1) = ((j + 1 : Nat) : Int) := by omega
          simp (disch := omega) only [il_0, il_1, il_2, il_3, il_4, il_5, il_6, il_7, il_8, il_9, il_10, il_11, il_12, il_13, il_16, il_20, il_30, il_31, il_32, il_33, il_36, il_37, il_38, il_40, il_41, il_42, il_43, il_45, il_47, il_48, il_50, il_57, il_60, il_61, il_62, il_70, il_71, il_79, il_80, il_97, il_98, il_99, il_100, il_107, il_110, il_111, il_114, il_115, il_116, il_121, il_124, il_128, il_130, il_140, il_160, il_255, il_399, il_540, il_590, il_610, il_999, il_1000, il_1250, il_10000, il_12345, il_99999, il_1000000, il_1103515245, ll_0, ll_1, ll_2, ll_3, ll_4, ll_5, ll_6, ll_7, ll_8, ll_9, ll_30, ll_48, ll_50, ll_57, ll_99, ll_100, ll_255, ll_399, ll_999, ll_99999, nq_bs, nq_ltS, nq_b2S, b2_id, bi_id, iI_add, iI_sub, iI_mul, iI_neg, lI_neg, iI_64, iI_lt, iI_le, iI_eq, iI_ag, iI_as, iI_ar, iI_dv, iI_rem, isOut8, in9, bo_nz, bo_t, bo_f, wr_s, wr_n, wr_k, if_pos, if_neg, ↓reduceIte, Nat.reduceAdd, Nat.reduceMul, Nat.reduceSub, Nat.reduceEqDiff, Int.reduceToNat, Int.toNat_natCast, Int.reduceNeg, Int.reduceAdd, Int.reduceSub, Int.reduceMul, c7, nL, f5, e2, q7, q1, e4]
          rfl
        obtain ⟨M', x1, x2, x3, x5⟩ := ih RA R (c + 1) M4 (sy D off Y t j) f (by rw [List.length_cons] at hm; omega) (by rw [List.length_cons] at hc; omega) (by omega) (((hF.trans F2).trans F3).trans F4) (F4.GL hp (F3.GL hp L2)) C4 (sy_SR ht ok) ho
        refine ⟨M', ?_, x2, ?_, ?_⟩
        · exact (lp_i eb).trans x1
        all_goals simp only [List.takeWhile_cons, List.dropWhile_cons, decide_eq_true cy, if_true, List.foldl_cons]
        · exact x3
        · exact x5
      · have eb : fX4_pass_B76 p 6 (iI Y) (iI c) M1 = some (.inr M1) := by
          unfold fX4_pass_B76 fX4_hasSent
          simp (disch := omega) only [il_0, il_1, il_2, il_3, il_4, il_5, il_6, il_7, il_8, il_9, il_10, il_11, il_12, il_13, il_16, il_20, il_30, il_31, il_32, il_33, il_36, il_37, il_38, il_40, il_41, il_42, il_43, il_45, il_47, il_48, il_50, il_57, il_60, il_61, il_62, il_70, il_71, il_79, il_80, il_97, il_98, il_99, il_100, il_107, il_110, il_111, il_114, il_115, il_116, il_121, il_124, il_128, il_130, il_140, il_160, il_255, il_399, il_540, il_590, il_610, il_999, il_1000, il_1250, il_10000, il_12345, il_99999, il_1000000, il_1103515245, ll_0, ll_1, ll_2, ll_3, ll_4, ll_5, ll_6, ll_7, ll_8, ll_9, ll_30, ll_48, ll_50, ll_57, ll_99, ll_100, ll_255, ll_399, ll_999, ll_99999, nq_bs, nq_ltS, nq_b2S, b2_id, bi_id, iI_add, iI_sub, iI_mul, iI_neg, lI_neg, iI_64, iI_lt, iI_le, iI_eq, iI_ag, iI_as, iI_ar, iI_dv, iI_rem, isOut8, in9, bo_nz, bo_t, bo_f, wr_s, wr_n, wr_k, if_pos, if_neg, ↓reduceIte, Nat.reduceAdd, Nat.reduceMul, Nat.reduceSub, Nat.reduceEqDiff, Int.reduceToNat, Int.toNat_natCast, Int.reduceNeg, Int.reduceAdd, Int.reduceSub, Int.reduceMul, c7, nL, f5]
        refine ⟨M1, ?_, hF, ?_, ?_⟩
        · exact lp_r eb
        all_goals simp only [List.takeWhile_cons, List.dropWhile_cons, decide_eq_false cy]
        · exact ht
        · exact hC
