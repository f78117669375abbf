/-! 17.h: the reference's years; hop: stance -/
def Yb (M : Mem) (b : Nat → Bool) : Prop := ∀ y, y < 400 → M 8 y = iI (if b y = true then 1 else 0)
def mkB (D : Nat → Int) (x pc : Int) (y w : Nat) : Bool := decide (D (613 + 8 * w) = pc ∧ ((D (612 + 8 * w) = x ∧ D (615 + 8 * w) = (y : Int)) ∨ (D (611 + 8 * w) = x ∧ D (614 + 8 * w) = (y : Int))))
theorem Yb.mark {M : Mem} {b b' : Nat → Bool} {c : Nat} (h : Yb M b) (hb : ∀ y, y < 400 → b' y = (b y || decide (y = c))) : Yb (nq_wr M 8 c (iI 1)) b' := by
  intro y hy
  rw [hb y hy]
  by_cases e : y = c
  · subst e; rw [wr_s ⟨rfl, rfl⟩]; simp
  · rw [wr_n (Or.inr e), h y hy, decide_eq_false e, Bool.or_false]
theorem Yb.cong {M : Mem} {b b' : Nat → Bool} (h : Yb M b) (hb : ∀ y, y < 400 → b' y = b y) : Yb M b' := by
  intro y hy
  rw [hb y hy]; exact h y hy
theorem begins9 {M : Mem} : fX9_begins M = some (nq_wr (nq_wr (rg M 8 0 400 (fun _ => iI 0)) 6 0 (iI 0)) 6 1 (iI 0)) := by
  have e := lp_rg (body := fun s : Int32 × Mem => fX9_begins_B2 s.1 s.2) (M := M) 8 0 400 (fun _ => iI 0) (by omega)
    (by
      intro k hk
      show fX9_begins_B2 (iI k) _ = _
      unfold fX9_begins_B2
      simp (disch := omega) only [il_0, il_1, il_2, il_3, il_4, il_5, il_6, il_7, il_8, il_9, il_10, il_11, il_12, il_13, il_16, il_20, il_30, il_31, il_32, il_33, il_36, il_37, il_38, il_40, il_41, il_42, il_43, il_45, il_47, il_48, il_50, il_57, il_60, il_61, il_62, il_70, il_71, il_79, il_80, il_97, il_98, il_99, il_100, il_107, il_110, il_111, il_114, il_115, il_116, il_121, il_124, il_128, il_130, il_140, il_160, il_255, il_399, il_540, il_590, il_610, il_999, il_1000, il_1250, il_10000, il_12345, il_99999, il_1000000, il_1103515245, ll_0, ll_1, ll_2, ll_3, ll_4, ll_5, ll_6, ll_7, ll_8, ll_9, ll_30, ll_48, ll_50, ll_57, ll_99, ll_100, ll_255, ll_399, ll_999, ll_99999, nq_bs, nq_ltS, nq_b2S, b2_id, bi_id, iI_add, iI_sub, iI_mul, iI_neg, lI_neg, iI_64, iI_lt, iI_le, iI_eq, iI_ag, iI_as, iI_ar, iI_dv, iI_rem, isOut8, in9, bo_nz, bo_t, bo_f, wr_s, wr_n, wr_k, if_pos, if_neg, ↓reduceIte, Nat.reduceAdd, Nat.reduceMul, Nat.reduceSub, Nat.reduceEqDiff, Int.reduceToNat, Int.toNat_natCast, Int.reduceNeg, Int.reduceAdd, Int.reduceSub, Int.reduceMul, Nat.zero_add]
      rfl)
    (by
      show fX9_begins_B2 (iI ((400 : Nat) : Int)) _ = _
      unfold fX9_begins_B2
      rw [if_pos (by decide)])
  unfold fX9_begins fX9_begins_L2 fX9_begins_L22
  rw [il_0, e, nq_bs]
  simp (disch := omega) only [il_0, il_1, il_2, il_3, il_4, il_5, il_6, il_7, il_8, il_9, il_10, il_11, il_12, il_13, il_16, il_20, il_30, il_31, il_32, il_33, il_36, il_37, il_38, il_40, il_41, il_42, il_43, il_45, il_47, il_48, il_50, il_57, il_60, il_61, il_62, il_70, il_71, il_79, il_80, il_97, il_98, il_99, il_100, il_107, il_110, il_111, il_114, il_115, il_116, il_121, il_124, il_128, il_130, il_140, il_160, il_255, il_399, il_540, il_590, il_610, il_999, il_1000, il_1250, il_10000, il_12345, il_99999, il_1000000, il_1103515245, ll_0, ll_1, ll_2, ll_3, ll_4, ll_5, ll_6, ll_7, ll_8, ll_9, ll_30, ll_48, ll_50, ll_57, ll_99, ll_100, ll_255, ll_399, ll_999, ll_99999, nq_bs, nq_ltS, nq_b2S, b2_id, bi_id, iI_add, iI_sub, iI_mul, iI_neg, lI_neg, iI_64, iI_lt, iI_le, iI_eq, iI_ag, iI_as, iI_ar, iI_dv, iI_rem, isOut8, in9, bo_nz, bo_t, bo_f, wr_s, wr_n, wr_k, if_pos, if_neg, ↓reduceIte, Nat.reduceAdd, Nat.reduceMul, Nat.reduceSub, Nat.reduceEqDiff, Int.reduceToNat, Int.toNat_natCast, Int.reduceNeg, Int.reduceAdd, Int.reduceSub, Int.reduceMul]
theorem marks9 {M : Mem} {D : Nat → Int} {x pc : Int} {b : Nat → Bool} (hW : W9 D M) (hx : inR x) (hp : inR pc) (hb : Yb M b) : ∃ M', fX9_marksYears (iI x) (iI pc) M = some M' ∧ (∀ k, k ≠ 8 → M' k = M k) ∧ Yb M' (fun y => b y || (List.range (D 2).toNat).any (mkB D x pc y)) := by
  have w1 := hW.2.1
  obtain ⟨M', e1, F1, B1⟩ := nq_for0 (body := fun s : Int32 × Mem => fX9_marksYears_B2 (iI x) (iI pc) s.1 s.2) (D 2).toNat (fun k s => s.1 = iI k ∧ (∀ q, q ≠ 8 → s.2 q = M q) ∧ Yb s.2 (fun y => b y || (List.range k).any (mkB D x pc y))) (fun r => (∀ q, q ≠ 8 → r q = M q) ∧ Yb r (fun y => b y || (List.range (D 2).toNat).any (mkB D x pc y))) (s := (iI 0, M)) (by omega) ⟨rfl, fun _ _ => rfl, hb.cong (fun y _ => by simp)⟩
    (by
      rintro k ⟨c, M1⟩ hk ⟨h1, hF, hB⟩
      dsimp only at h1 hF hB
      subst h1
      left
      have h0 : ∀ j, j < 1250 → M1 1 j = iI (D j) := by intro j hj; rw [hF 1 (by omega)]; exact hW.1 j hj
      obtain ⟨_, q1, q2, q3, q4, q5, _⟩ := hW.2.2 k (by omega)
      have ea : ∀ y, (List.range (k + 1)).any (mkB D x pc y) = ((List.range k).any (mkB D x pc y) || mkB D x pc y k) := by
        intro y; rw [List.range_succ, List.any_append]; simp
      by_cases c1 : D (613 + 8 * k) = pc
      · -- first what comes, then what was sent
        have s1 : ∃ M2, (∀ q, q ≠ 8 → M2 q = M q) ∧ Yb M2 (fun y => (b y || (List.range k).any (mkB D x pc y)) || decide (D (612 + 8 * k) = x ∧ D (615 + 8 * k) = (y : Int))) ∧ fX9_marksYears_B2 (iI x) (iI pc) (iI k) M1 = fX9_marksYears_L65_2 (iI x) (iI pc) (iI k) M2 := by
          by_cases c2 : D (612 + 8 * k) = x ∧ 0 ≤ D (615 + 8 * k) ∧ D (615 + 8 * k) ≤ 399
          · refine ⟨nq_wr M1 8 (D (615 + 8 * k)).toNat (iI 1), fun q hq => by rw [wr_k hq]; exact hF q hq, hB.mark (fun y hy => ?_), ?_⟩
            · congr 1
              apply decide_eq_decide.mpr
              constructor
              · rintro ⟨_, h⟩; omega
              · intro h; exact ⟨c2.1, by omega⟩
            · unfold fX9_marksYears_B2 fX9_marksYears_L42_2
              simp (disch := omega) only [il_0, il_1, il_2, il_3, il_4, il_5, il_6, il_7, il_8, il_9, il_10, il_11, il_12, il_13, il_16, il_20, il_30, il_31, il_32, il_33, il_36, il_37, il_38, il_40, il_41, il_42, il_43, il_45, il_47, il_48, il_50, il_57, il_60, il_61, il_62, il_70, il_71, il_79, il_80, il_97, il_98, il_99, il_100, il_107, il_110, il_111, il_114, il_115, il_116, il_121, il_124, il_128, il_130, il_140, il_160, il_255, il_399, il_540, il_590, il_610, il_999, il_1000, il_1250, il_10000, il_12345, il_99999, il_1000000, il_1103515245, ll_0, ll_1, ll_2, ll_3, ll_4, ll_5, ll_6, ll_7, ll_8, ll_9, ll_30, ll_48, ll_50, ll_57, ll_99, ll_100, ll_255, ll_399, ll_999, ll_99999, nq_bs, nq_ltS, nq_b2S, b2_id, bi_id, iI_add, iI_sub, iI_mul, iI_neg, lI_neg, iI_64, iI_lt, iI_le, iI_eq, iI_ag, iI_as, iI_ar, iI_dv, iI_rem, isOut8, in9, bo_nz, bo_t, bo_f, wr_s, wr_n, wr_k, if_pos, if_neg, ↓reduceIte, Nat.reduceAdd, Nat.reduceMul, Nat.reduceSub, Nat.reduceEqDiff, Int.reduceToNat, Int.toNat_natCast, Int.reduceNeg, Int.reduceAdd, Int.reduceSub, Int.reduceMul, h0, wo9n h0]
          · refine ⟨M1, hF, hB.cong (fun y hy => ?_), ?_⟩
            · rw [decide_eq_false (by omega), Bool.or_false]
            · unfold fX9_marksYears_B2 fX9_marksYears_L42_2
              by_cases c3 : D (612 + 8 * k) = x
              · simp (disch := omega) only [il_0, il_1, il_2, il_3, il_4, il_5, il_6, il_7, il_8, il_9, il_10, il_11, il_12, il_13, il_16, il_20, il_30, il_31, il_32, il_33, il_36, il_37, il_38, il_40, il_41, il_42, il_43, il_45, il_47, il_48, il_50, il_57, il_60, il_61, il_62, il_70, il_71, il_79, il_80, il_97, il_98, il_99, il_100, il_107, il_110, il_111, il_114, il_115, il_116, il_121, il_124, il_128, il_130, il_140, il_160, il_255, il_399, il_540, il_590, il_610, il_999, il_1000, il_1250, il_10000, il_12345, il_99999, il_1000000, il_1103515245, ll_0, ll_1, ll_2, ll_3, ll_4, ll_5, ll_6, ll_7, ll_8, ll_9, ll_30, ll_48, ll_50, ll_57, ll_99, ll_100, ll_255, ll_399, ll_999, ll_99999, nq_bs, nq_ltS, nq_b2S, b2_id, bi_id, iI_add, iI_sub, iI_mul, iI_neg, lI_neg, iI_64, iI_lt, iI_le, iI_eq, iI_ag, iI_as, iI_ar, iI_dv, iI_rem, isOut8, in9, bo_nz, bo_t, bo_f, wr_s, wr_n, wr_k, if_pos, if_neg, ↓reduceIte, Nat.reduceAdd, Nat.reduceMul, Nat.reduceSub, Nat.reduceEqDiff, Int.reduceToNat, Int.toNat_natCast, Int.reduceNeg, Int.reduceAdd, Int.reduceSub, Int.reduceMul, h0, wo9n h0]
              · simp (disch := omega) only [il_0, il_1, il_2, il_3, il_4, il_5, il_6, il_7, il_8, il_9, il_10, il_11, il_12, il_13, il_16, il_20, il_30, il_31, il_32, il_33, il_36, il_37, il_38, il_40, il_41, il_42, il_43, il_45, il_47, il_48, il_50, il_57, il_60, il_61, il_62, il_70, il_71, il_79, il_80, il_97, il_98, il_99, il_100, il_107, il_110, il_111, il_114, il_115, il_116, il_121, il_124, il_128, il_130, il_140, il_160, il_255, il_399, il_540, il_590, il_610, il_999, il_1000, il_1250, il_10000, il_12345, il_99999, il_1000000, il_1103515245, ll_0, ll_1, ll_2, ll_3, ll_4, ll_5, ll_6, ll_7, ll_8, ll_9, ll_30, ll_48, ll_50, ll_57, ll_99, ll_100, ll_255, ll_399, ll_999, ll_99999, nq_bs, nq_ltS, nq_b2S, b2_id, bi_id, iI_add, iI_sub, iI_mul, iI_neg, lI_neg, iI_64, iI_lt, iI_le, iI_eq, iI_ag, iI_as, iI_ar, iI_dv, iI_rem, isOut8, in9, bo_nz, bo_t, bo_f, wr_s, wr_n, wr_k, if_pos, if_neg, ↓reduceIte, Nat.reduceAdd, Nat.reduceMul, Nat.reduceSub, Nat.reduceEqDiff, Int.reduceToNat, Int.toNat_natCast, Int.reduceNeg, Int.reduceAdd, Int.reduceSub, Int.reduceMul, h0, wo9n h0]
        obtain ⟨M2, F2, B2, e2⟩ := s1
        have h2 : ∀ j, j < 1250 → M2 1 j = iI (D j) := by intro j hj; rw [F2 1 (by omega)]; exact hW.1 j hj
        by_cases c4 : D (611 + 8 * k) = x
        · refine ⟨(iI ((k + 1 : Nat) : Int), nq_wr M2 8 (D (614 + 8 * k)).toNat (iI 1)), ?_, rfl, fun q hq => (wr_k hq).trans (F2 q hq), B2.mark (fun y hy => ?_)⟩
          · show fX9_marksYears_B2 (iI x) (iI pc) (iI k) M1 = _
            rw [e2]
            unfold fX9_marksYears_L65_2
            simp (disch := omega) only [il_0, il_1, il_2, il_3, il_4, il_5, il_6, il_7, il_8, il_9, il_10, il_11, il_12, il_13, il_16, il_20, il_30, il_31, il_32, il_33, il_36, il_37, il_38, il_40, il_41, il_42, il_43, il_45, il_47, il_48, il_50, il_57, il_60, il_61, il_62, il_70, il_71, il_79, il_80, il_97, il_98, il_99, il_100, il_107, il_110, il_111, il_114, il_115, il_116, il_121, il_124, il_128, il_130, il_140, il_160, il_255, il_399, il_540, il_590, il_610, il_999, il_1000, il_1250, il_10000, il_12345, il_99999, il_1000000, il_1103515245, ll_0, ll_1, ll_2, ll_3, ll_4, ll_5, ll_6, ll_7, ll_8, ll_9, ll_30, ll_48, ll_50, ll_57, ll_99, ll_100, ll_255, ll_399, ll_999, ll_99999, nq_bs, nq_ltS, nq_b2S, b2_id, bi_id, iI_add, iI_sub, iI_mul, iI_neg, lI_neg, iI_64, iI_lt, iI_le, iI_eq, iI_ag, iI_as, iI_ar, iI_dv, iI_rem, isOut8, in9, bo_nz, bo_t, bo_f, wr_s, wr_n, wr_k, if_pos, if_neg, ↓reduceIte, Nat.reduceAdd, Nat.reduceMul, Nat.reduceSub, Nat.reduceEqDiff, Int.reduceToNat, Int.toNat_natCast, Int.reduceNeg, Int.reduceAdd, Int.reduceSub, Int.reduceMul, wo9n h2]
            rfl
          · rw [ea]
            unfold mkB
            rw [Bool.eq_iff_iff]
            simp only [Bool.or_eq_true, decide_eq_true_eq]
            constructor
            · rintro (h | h | h)
              · exact Or.inl (Or.inl (Or.inl h))
              · exact Or.inl (Or.inl (Or.inr h))
              · rcases h.2 with h | h
                · exact Or.inl (Or.inr h)
                · exact Or.inr (by omega)
            · rintro (((h | h) | h) | h)
              · exact Or.inl h
              · exact Or.inr (Or.inl h)
              · exact Or.inr (Or.inr ⟨c1, Or.inl h⟩)
              · exact Or.inr (Or.inr ⟨c1, Or.inr ⟨c4, by omega⟩⟩)
        · refine ⟨(iI ((k + 1 : Nat) : Int), M2), ?_, rfl, F2, B2.cong (fun y hy => ?_)⟩
          · show fX9_marksYears_B2 (iI x) (iI pc) (iI k) M1 = _
            rw [e2]
            unfold fX9_marksYears_L65_2
            simp (disch := omega) only [il_0, il_1, il_2, il_3, il_4, il_5, il_6, il_7, il_8, il_9, il_10, il_11, il_12, il_13, il_16, il_20, il_30, il_31, il_32, il_33, il_36, il_37, il_38, il_40, il_41, il_42, il_43, il_45, il_47, il_48, il_50, il_57, il_60, il_61, il_62, il_70, il_71, il_79, il_80, il_97, il_98, il_99, il_100, il_107, il_110, il_111, il_114, il_115, il_116, il_121, il_124, il_128, il_130, il_140, il_160, il_255, il_399, il_540, il_590, il_610, il_999, il_1000, il_1250, il_10000, il_12345, il_99999, il_1000000, il_1103515245, ll_0, ll_1, ll_2, ll_3, ll_4, ll_5, ll_6, ll_7, ll_8, ll_9, ll_30, ll_48, ll_50, ll_57, ll_99, ll_100, ll_255, ll_399, ll_999, ll_99999, nq_bs, nq_ltS, nq_b2S, b2_id, bi_id, iI_add, iI_sub, iI_mul, iI_neg, lI_neg, iI_64, iI_lt, iI_le, iI_eq, iI_ag, iI_as, iI_ar, iI_dv, iI_rem, isOut8, in9, bo_nz, bo_t, bo_f, wr_s, wr_n, wr_k, if_pos, if_neg, ↓reduceIte, Nat.reduceAdd, Nat.reduceMul, Nat.reduceSub, Nat.reduceEqDiff, Int.reduceToNat, Int.toNat_natCast, Int.reduceNeg, Int.reduceAdd, Int.reduceSub, Int.reduceMul, wo9n h2]
            rfl
          · rw [ea]
            unfold mkB
            rw [Bool.eq_iff_iff]
            simp only [Bool.or_eq_true, decide_eq_true_eq]
            constructor
            · rintro (h | h | h)
              · exact Or.inl (Or.inl h)
              · exact Or.inl (Or.inr h)
              · rcases h.2 with h | h
                · exact Or.inr h
                · exact absurd h.1 c4
            · rintro ((h | h) | h)
              · exact Or.inl h
              · exact Or.inr (Or.inl h)
              · exact Or.inr (Or.inr ⟨c1, Or.inl h⟩)
      · refine ⟨(iI ((k + 1 : Nat) : Int), M1), ?_, rfl, hF, hB.cong (fun y hy => ?_)⟩
        · show fX9_marksYears_B2 (iI x) (iI pc) (iI k) M1 = _
          unfold fX9_marksYears_B2
          simp (disch := omega) only [il_0, il_1, il_2, il_3, il_4, il_5, il_6, il_7, il_8, il_9, il_10, il_11, il_12, il_13, il_16, il_20, il_30, il_31, il_32, il_33, il_36, il_37, il_38, il_40, il_41, il_42, il_43, il_45, il_47, il_48, il_50, il_57, il_60, il_61, il_62, il_70, il_71, il_79, il_80, il_97, il_98, il_99, il_100, il_107, il_110, il_111, il_114, il_115, il_116, il_121, il_124, il_128, il_130, il_140, il_160, il_255, il_399, il_540, il_590, il_610, il_999, il_1000, il_1250, il_10000, il_12345, il_99999, il_1000000, il_1103515245, ll_0, ll_1, ll_2, ll_3, ll_4, ll_5, ll_6, ll_7, ll_8, ll_9, ll_30, ll_48, ll_50, ll_57, ll_99, ll_100, ll_255, ll_399, ll_999, ll_99999, nq_bs, nq_ltS, nq_b2S, b2_id, bi_id, iI_add, iI_sub, iI_mul, iI_neg, lI_neg, iI_64, iI_lt, iI_le, iI_eq, iI_ag, iI_as, iI_ar, iI_dv, iI_rem, isOut8, in9, bo_nz, bo_t, bo_f, wr_s, wr_n, wr_k, if_pos, if_neg, ↓reduceIte, Nat.reduceAdd, Nat.reduceMul, Nat.reduceSub, Nat.reduceEqDiff, Int.reduceToNat, Int.toNat_natCast, Int.reduceNeg, Int.reduceAdd, Int.reduceSub, Int.reduceMul, h0, wo9n h0]
          rfl
        · rw [ea]
          have : mkB D x pc y k = false := by unfold mkB; rw [decide_eq_false_iff_not]; exact fun z => c1 z.1
          rw [this, Bool.or_false])
    (by
      rintro ⟨c, M1⟩ ⟨h1, hF, hB⟩
      dsimp only at h1 hF hB
      subst h1
      have h0 : ∀ j, j < 1250 → M1 1 j = iI (D j) := by intro j hj; rw [hF 1 (by omega)]; exact hW.1 j hj
      refine ⟨M1, ?_, hF, hB⟩
      show fX9_marksYears_B2 (iI x) (iI pc) (iI ((D 2).toNat : Nat)) M1 = _
      unfold fX9_marksYears_B2
      simp (disch := omega) only [il_0, il_1, il_2, il_3, il_4, il_5, il_6, il_7, il_8, il_9, il_10, il_11, il_12, il_13, il_16, il_20, il_30, il_31, il_32, il_33, il_36, il_37, il_38, il_40, il_41, il_42, il_43, il_45, il_47, il_48, il_50, il_57, il_60, il_61, il_62, il_70, il_71, il_79, il_80, il_97, il_98, il_99, il_100, il_107, il_110, il_111, il_114, il_115, il_116, il_121, il_124, il_128, il_130, il_140, il_160, il_255, il_399, il_540, il_590, il_610, il_999, il_1000, il_1250, il_10000, il_12345, il_99999, il_1000000, il_1103515245, ll_0, ll_1, ll_2, ll_3, ll_4, ll_5, ll_6, ll_7, ll_8, ll_9, ll_30, ll_48, ll_50, ll_57, ll_99, ll_100, ll_255, ll_399, ll_999, ll_99999, nq_bs, nq_ltS, nq_b2S, b2_id, bi_id, iI_add, iI_sub, iI_mul, iI_neg, lI_neg, iI_64, iI_lt, iI_le, iI_eq, iI_ag, iI_as, iI_ar, iI_dv, iI_rem, isOut8, in9, bo_nz, bo_t, bo_f, wr_s, wr_n, wr_k, if_pos, if_neg, ↓reduceIte, Nat.reduceAdd, Nat.reduceMul, Nat.reduceSub, Nat.reduceEqDiff, Int.reduceToNat, Int.toNat_natCast, Int.reduceNeg, Int.reduceAdd, Int.reduceSub, Int.reduceMul, h0])
  refine ⟨M', ?_, F1, B1⟩
  unfold fX9_marksYears fX9_marksYears_L2 fX9_marksYears_L93
  rw [il_0, e1]
  rfl
theorem mk_ev {D : Nat → Int} {x pc : Int} {y : Nat} : (List.range (D 2).toNat).any (mkB D x pc y) = evB D x pc y := by
  rw [Bool.eq_iff_iff, List.any_eq_true]
  constructor
  · rintro ⟨w, h1, h2⟩
    unfold mkB at h2
    rw [decide_eq_true_eq] at h2
    obtain ⟨g1, g2⟩ := h2
    unfold evB
    rcases g2 with g2 | g2
    · have hm : w ∈ comeL D x pc y := List.mem_filter.mpr ⟨bkt_mem.mpr ⟨List.mem_range.mp h1, g2.2⟩, by unfold qF; rw [decide_eq_true_eq]; exact ⟨g2.1, g1⟩⟩
      cases hc : comeL D x pc y with
      | nil => rw [hc] at hm; cases hm
      | cons a l => rfl
    · have hm : w ∈ sentL D x pc y := List.mem_filter.mpr ⟨h1, by unfold qB; simp only [Bool.and_eq_true, decide_eq_true_eq]; exact ⟨⟨g2.1, g1⟩, g2.2⟩⟩
      cases hc : sentL D x pc y with
      | nil => rw [hc] at hm; cases hm
      | cons a l => simp
  · intro h
    have := ev_yes h
    cases hc : comeL D x pc y with
    | cons a l =>
      have hm : a ∈ comeL D x pc y := by rw [hc]; simp
      obtain ⟨m1, m2⟩ := List.mem_filter.mp hm
      obtain ⟨b1, b2⟩ := bkt_mem.mp m1
      unfold qF at m2; rw [decide_eq_true_eq] at m2
      exact ⟨a, List.mem_range.mpr b1, by unfold mkB; rw [decide_eq_true_eq]; exact ⟨m2.2, Or.inl ⟨m2.1, b2⟩⟩⟩
    | nil =>
      cases hs : sentL D x pc y with
      | nil => rw [hc, hs] at this; simp at this
      | cons a l =>
        have hm : a ∈ sentL D x pc y := by rw [hs]; simp
        obtain ⟨m1, m2⟩ := List.mem_filter.mp hm
        unfold qB at m2; simp only [Bool.and_eq_true, decide_eq_true_eq] at m2
        exact ⟨a, m1, by unfold mkB; rw [decide_eq_true_eq]; exact ⟨m2.1.2, Or.inr ⟨m2.1.1, m2.2⟩⟩⟩
theorem ys_SR {D : Nat → Int} {x pc : Int} {T : Nat} {t : Int × Int} (hk : ∀ w : Nat, (w : Int) < D 2 → wordOK D w) (ht : SR t) : SR (ys D x pc T t) := by
  unfold ys
  have a : ∀ (l : List Nat) (t : Int × Int), SR t → SR (l.foldl (rcv D) t) := by
    intro l
    induction l with
    | nil => intro t h; exact h
    | cons w l ih => intro t h; exact ih _ (rcv_SR h)
  have b : ∀ (l : List Nat) (t : Int × Int), (∀ w, w ∈ l → (w : Int) < D 2) → SR t → SR (l.foldl (sy D (offT D x pc (T + 1)) T) t) := by
    intro l
    induction l with
    | nil => intro t _ h; exact h
    | cons w l ih => intro t hl h; exact ih _ (fun v hv => hl v (by simp [hv])) (sy_SR h (hk w (hl w (by simp))))
  apply b
  · intro w hw
    have := (List.mem_filter.mp hw).1
    rw [List.mem_range] at this; omega
  · exact a _ _ (endS_SR ht)
theorem SG_SR {D : Nat → Int} {x pc : Int} {e : Nat → Bool} (hk : ∀ w : Nat, (w : Int) < D 2 → wordOK D w) : ∀ T, SR (SG D x pc e T) := by
  intro T
  induction T with
  | zero => unfold SR; show (0 ≤ (0 : Int) ∧ (0 : Int) ≤ 3) ∧ -1 ≤ (-1 : Int) ∧ (-1 : Int) ≤ 498; omega
  | succ T ih =>
    show SR (if e T = true then _ else _)
    split
    · exact ys_SR hk ih
    · exact ih
theorem stanceOf9 {M : Mem} {D : Nat → Int} {x pc Y : Int} (hW : W9 D M) (hx : inR x) (hp : inR pc) (hY : 0 ≤ Y ∧ Y ≤ 399) : ∃ M', fX9_stanceOf (iI x) (iI pc) (iI Y) M = some (iI (endS Y (SG D x pc (evB D x pc) (Y.toNat + 1))).1, M') ∧ ∀ k, k ≠ 6 → k ≠ 7 → k ≠ 8 → M' k = M k := by
  generalize hM0 : nq_wr (nq_wr (rg M 8 0 400 (fun _ => iI 0)) 6 0 (iI 0)) 6 1 (iI 0) = M0
  have b0 := begins9 (M := M)
  rw [hM0] at b0
  have f0 : ∀ k, k ≠ 6 → k ≠ 8 → M0 k = M k := by
    intro k h1 h2; rw [← hM0, wr_k h1, wr_k h1, rg_k h2]
  have W0 : W9 D M0 := ⟨fun j hj => by rw [f0 1 (by omega) (by omega)]; exact hW.1 j hj, hW.2⟩
  have y0 : Yb M0 (fun _ => false) := by
    intro y hy
    rw [← hM0, wr_k (by omega), wr_k (by omega), rg_s ⟨rfl, by omega, by omega⟩]
    rfl
  obtain ⟨M1, e1, F1, B1⟩ := marks9 W0 hx hp y0
  have W1 : W9 D M1 := ⟨fun j hj => by rw [F1 1 (by omega)]; exact W0.1 j hj, hW.2⟩
  have B1' : Yb M1 (evB D x pc) := B1.cong (fun y _ => by rw [Bool.false_or, mk_ev])
  have R1 : RS D M1 0 (SG D x pc (evB D x pc) 0) := by
    refine ⟨?_, fun c => ?_⟩
    · rw [F1 6 (by omega), ← hM0, wr_n (by omega), wr_s ⟨rfl, rfl⟩]; rfl
    · exact absurd c (by show ¬ (0 : Int) = 1; omega)
  obtain ⟨M2, e2, F2, R2⟩ := nq_for0 (body := fun s : Int32 × Mem => fX9_stanceOf_B13 (iI x) (iI pc) (iI Y) s.1 s.2) (Y.toNat + 1) (fun k s => s.1 = iI k ∧ F9 0 M1 s.2 ∧ RS D s.2 0 (SG D x pc (evB D x pc) k)) (fun r => F9 0 M1 r ∧ RS D r 0 (SG D x pc (evB D x pc) (Y.toNat + 1))) (s := (iI 0, M1)) (by omega) ⟨rfl, F9.refl 0 M1, R1⟩
    (by
      rintro k ⟨c, M3⟩ hk ⟨h1, hF, hR⟩
      dsimp only at h1 hF hR
      subst h1
      left
      have y8 : M3 8 k = iI (if evB D x pc k = true then 1 else 0) := by rw [hF.1 8 (by omega) (by omega)]; exact B1' k (by omega)
      cases hev : evB D x pc k with
      | true =>
        rw [hev, if_pos rfl] at y8
        obtain ⟨M4, e4, F4, R4, _⟩ := through9 (hF.W9 W1) (sd := 0) (Y := k) (by omega) (by omega) hx hp hR (SG_SR hW.2.2 k)
        refine ⟨(iI ((k + 1 : Nat) : Int), M4), ?_, rfl, hF.trans F4, ?_⟩
        · show fX9_stanceOf_B13 (iI x) (iI pc) (iI Y) (iI k) M3 = _
          unfold fX9_stanceOf_B13
          have e4' : fX9_goesThrough (iI 0) (iI x) (iI pc) (iI k) M3 = some M4 := e4
          simp (disch := omega) only [il_0, il_1, il_2, il_3, il_4, il_5, il_6, il_7, il_8, il_9, il_10, il_11, il_12, il_13, il_16, il_20, il_30, il_31, il_32, il_33, il_36, il_37, il_38, il_40, il_41, il_42, il_43, il_45, il_47, il_48, il_50, il_57, il_60, il_61, il_62, il_70, il_71, il_79, il_80, il_97, il_98, il_99, il_100, il_107, il_110, il_111, il_114, il_115, il_116, il_121, il_124, il_128, il_130, il_140, il_160, il_255, il_399, il_540, il_590, il_610, il_999, il_1000, il_1250, il_10000, il_12345, il_99999, il_1000000, il_1103515245, ll_0, ll_1, ll_2, ll_3, ll_4, ll_5, ll_6, ll_7, ll_8, ll_9, ll_30, ll_48, ll_50, ll_57, ll_99, ll_100, ll_255, ll_399, ll_999, ll_99999, nq_bs, nq_ltS, nq_b2S, b2_id, bi_id, iI_add, iI_sub, iI_mul, iI_neg, lI_neg, iI_64, iI_lt, iI_le, iI_eq, iI_ag, iI_as, iI_ar, iI_dv, iI_rem, isOut8, in9, bo_nz, bo_t, bo_f, wr_s, wr_n, wr_k, if_pos, if_neg, ↓reduceIte, Nat.reduceAdd, Nat.reduceMul, Nat.reduceSub, Nat.reduceEqDiff, Int.reduceToNat, Int.toNat_natCast, Int.reduceNeg, Int.reduceAdd, Int.reduceSub, Int.reduceMul, y8, e4']
          rfl
        · show RS D M4 0 (if evB D x pc k = true then _ else _)
          rw [if_pos hev]; exact R4
      | false =>
        rw [hev, if_neg (by decide)] at y8
        refine ⟨(iI ((k + 1 : Nat) : Int), M3), ?_, rfl, hF, ?_⟩
        · show fX9_stanceOf_B13 (iI x) (iI pc) (iI Y) (iI k) M3 = _
          unfold fX9_stanceOf_B13
          simp (disch := omega) only [il_0, il_1, il_2, il_3, il_4, il_5, il_6, il_7, il_8, il_9, il_10, il_11, il_12, il_13, il_16, il_20, il_30, il_31, il_32, il_33, il_36, il_37, il_38, il_40, il_41, il_42, il_43, il_45, il_47, il_48, il_50, il_57, il_60, il_61, il_62, il_70, il_71, il_79, il_80, il_97, il_98, il_99, il_100, il_107, il_110, il_111, il_114, il_115, il_116, il_121, il_124, il_128, il_130, il_140, il_160, il_255, il_399, il_540, il_590, il_610, il_999, il_1000, il_1250, il_10000, il_12345, il_99999, il_1000000, il_1103515245, ll_0, ll_1, ll_2, ll_3, ll_4, ll_5, ll_6, ll_7, ll_8, ll_9, ll_30, ll_48, ll_50, ll_57, ll_99, ll_100, ll_255, ll_399, ll_999, ll_99999, nq_bs, nq_ltS, nq_b2S, b2_id, bi_id, iI_add, iI_sub, iI_mul, iI_neg, lI_neg, iI_64, iI_lt, iI_le, iI_eq, iI_ag, iI_as, iI_ar, iI_dv, iI_rem, isOut8, in9, bo_nz, bo_t, bo_f, wr_s, wr_n, wr_k, if_pos, if_neg, ↓reduceIte, Nat.reduceAdd, Nat.reduceMul, Nat.reduceSub, Nat.reduceEqDiff, Int.reduceToNat, Int.toNat_natCast, Int.reduceNeg, Int.reduceAdd, Int.reduceSub, Int.reduceMul, y8]
          rfl
        · show RS D M3 0 (if evB D x pc k = true then _ else _)
          rw [hev, if_neg (by decide)]; exact hR)
    (by
      rintro ⟨c, M3⟩ ⟨h1, hF, hR⟩
      dsimp only at h1 hF hR
      subst h1
      refine ⟨M3, ?_, hF, hR⟩
      show fX9_stanceOf_B13 (iI x) (iI pc) (iI Y) (iI ((Y.toNat + 1 : Nat) : Int)) M3 = _
      unfold fX9_stanceOf_B13
      simp (disch := omega) only [il_0, il_1, il_2, il_3, il_4, il_5, il_6, il_7, il_8, il_9, il_10, il_11, il_12, il_13, il_16, il_20, il_30, il_31, il_32, il_33, il_36, il_37, il_38, il_40, il_41, il_42, il_43, il_45, il_47, il_48, il_50, il_57, il_60, il_61, il_62, il_70, il_71, il_79, il_80, il_97, il_98, il_99, il_100, il_107, il_110, il_111, il_114, il_115, il_116, il_121, il_124, il_128, il_130, il_140, il_160, il_255, il_399, il_540, il_590, il_610, il_999, il_1000, il_1250, il_10000, il_12345, il_99999, il_1000000, il_1103515245, ll_0, ll_1, ll_2, ll_3, ll_4, ll_5, ll_6, ll_7, ll_8, ll_9, ll_30, ll_48, ll_50, ll_57, ll_99, ll_100, ll_255, ll_399, ll_999, ll_99999, nq_bs, nq_ltS, nq_b2S, b2_id, bi_id, iI_add, iI_sub, iI_mul, iI_neg, lI_neg, iI_64, iI_lt, iI_le, iI_eq, iI_ag, iI_as, iI_ar, iI_dv, iI_rem, isOut8, in9, bo_nz, bo_t, bo_f, wr_s, wr_n, wr_k, if_pos, if_neg, ↓reduceIte, Nat.reduceAdd, Nat.reduceMul, Nat.reduceSub, Nat.reduceEqDiff, Int.reduceToNat, Int.toNat_natCast, Int.reduceNeg, Int.reduceAdd, Int.reduceSub, Int.reduceMul])
  obtain ⟨M3, e3, F3, R3⟩ := ends9 (F2.W9 W1) (sd := 0) (by omega) R2 (SG_SR hW.2.2 _) (Y := Y) (by omega)
  refine ⟨M3, ?_, ?_⟩
  · unfold fX9_stanceOf fX9_stanceOf_L13 fX9_stanceOf_L44
    have e3' : fX9_ends (iI 0) (iI Y) M2 = some M3 := e3
    rw [b0, nq_bs, e1, nq_bs, il_0, e2, nq_bs, e3', nq_bs]
    have r3 := R3.1
    simp (disch := omega) only [iI_ag, nq_bs, Int.reduceToNat, r3]
  · intro k h6 h7 h8
    rw [F3.1 k h6 h7, F2.1 k h6 h7, F1 k h8, f0 k h6 h8]
theorem Cur.W9 {row : Nat → Int32} {Mx Mm : Mem} {D : Nat → Int} (hc : Cur 2 (Mm 1) Mx D) : W9 D Mm := ⟨hc.1, hc.2.2.2.1.2.1, hc.2.2.2.1.2.2.2.2.2⟩
theorem hop_stance (a0 a1 a2 : Int32) (Mx Mm : Mem) (h : RR Mx Mm) : ∃ (r : Int32) (Mx1 Mm1 : Mem), fX8_stance a0 a1 a2 Mx = some (r, Mx1) ∧ fX9_stance a0 a1 a2 Mm = some (r, Mm1) ∧ RR Mx1 Mm1 := by
  obtain ⟨D, hc⟩ := h.1
  have hc' := hc
  obtain ⟨h0, hS, hR, hL, hA, hT⟩ := hc'
  have p0 : Mx 3 0 = iI (D 1) := hR.1
  have p1 := hR.2.1
  have p0m : Mm 1 1 = iI (D 1) := h0 1 (by omega)
  have w0m : Mm 1 2 = iI (D 2) := h0 2 (by omega)
  have w0 : Mx 6 0 = iI (D 2) := hL.1
  have w1 := hL.2.1
  obtain ⟨⟨s0, s5, s6, s7, s4, s9, s3, s10⟩, s0', s4', s5', s6', s7', s8', s9', s3', s10'⟩ := hS
  have hS := hc.2.1
  obtain ⟨x, hx, rfl⟩ := iI_of a0
  obtain ⟨y, hy, rfl⟩ := iI_of a1
  obtain ⟨z, hz, rfl⟩ := iI_of a2
  by_cases gx : 0 ≤ x ∧ x < D 1
  · by_cases gy : 0 ≤ y ∧ y < 4
    · by_cases gz : 0 ≤ z ∧ z ≤ D 0
      · obtain ⟨M8, e8, F8⟩ := stands8 (p := 76) (by omega) hL hx hy (Y := z) (by omega)
        obtain ⟨M9, e9, F9'⟩ := stanceOf9 (hc.W9 (row := Mm 1)) hx hy (Y := z) (by omega)
        refine ⟨iI (endS z (SG D x y (evB D x y) (z.toNat + 1))).1, M8, M9, ?e8, ?e9, ?r⟩
        case e8 =>
          unfold fX8_stance
          simp (disch := omega) only [il_0, il_1, il_2, il_3, il_4, il_5, il_6, il_7, il_8, il_9, il_10, il_11, il_12, il_13, il_16, il_20, il_30, il_31, il_32, il_33, il_36, il_37, il_38, il_40, il_41, il_42, il_43, il_45, il_47, il_48, il_50, il_57, il_60, il_61, il_62, il_70, il_71, il_79, il_80, il_97, il_98, il_99, il_100, il_107, il_110, il_111, il_114, il_115, il_116, il_121, il_124, il_128, il_130, il_140, il_160, il_255, il_399, il_540, il_590, il_610, il_999, il_1000, il_1250, il_10000, il_12345, il_99999, il_1000000, il_1103515245, ll_0, ll_1, ll_2, ll_3, ll_4, ll_5, ll_6, ll_7, ll_8, ll_9, ll_30, ll_48, ll_50, ll_57, ll_99, ll_100, ll_255, ll_399, ll_999, ll_99999, nq_bs, nq_ltS, nq_b2S, b2_id, bi_id, iI_add, iI_sub, iI_mul, iI_neg, lI_neg, iI_64, iI_lt, iI_le, iI_eq, iI_ag, iI_as, iI_ar, iI_dv, iI_rem, isOut8, in9, bo_nz, bo_t, bo_f, wr_s, wr_n, wr_k, if_pos, if_neg, ↓reduceIte, Nat.reduceAdd, Nat.reduceMul, Nat.reduceSub, Nat.reduceEqDiff, Int.reduceToNat, Int.toNat_natCast, Int.reduceNeg, Int.reduceAdd, Int.reduceSub, Int.reduceMul, isPlace8 p0 p1, isPlace9 p0m p1, areTwo8 p0 p1, areTwo9 p0m p1, isPair8 p0 p1, areFt9 p0m p1, isPact8, isPact9, isWord8 w0 w1, isWord9 w0m w1, isSheet8, isSheet9, isPart8, isPart9, s0, e8]
        case e9 =>
          unfold fX9_stance
          simp (disch := omega) only [il_0, il_1, il_2, il_3, il_4, il_5, il_6, il_7, il_8, il_9, il_10, il_11, il_12, il_13, il_16, il_20, il_30, il_31, il_32, il_33, il_36, il_37, il_38, il_40, il_41, il_42, il_43, il_45, il_47, il_48, il_50, il_57, il_60, il_61, il_62, il_70, il_71, il_79, il_80, il_97, il_98, il_99, il_100, il_107, il_110, il_111, il_114, il_115, il_116, il_121, il_124, il_128, il_130, il_140, il_160, il_255, il_399, il_540, il_590, il_610, il_999, il_1000, il_1250, il_10000, il_12345, il_99999, il_1000000, il_1103515245, ll_0, ll_1, ll_2, ll_3, ll_4, ll_5, ll_6, ll_7, ll_8, ll_9, ll_30, ll_48, ll_50, ll_57, ll_99, ll_100, ll_255, ll_399, ll_999, ll_99999, nq_bs, nq_ltS, nq_b2S, b2_id, bi_id, iI_add, iI_sub, iI_mul, iI_neg, lI_neg, iI_64, iI_lt, iI_le, iI_eq, iI_ag, iI_as, iI_ar, iI_dv, iI_rem, isOut8, in9, bo_nz, bo_t, bo_f, wr_s, wr_n, wr_k, if_pos, if_neg, ↓reduceIte, Nat.reduceAdd, Nat.reduceMul, Nat.reduceSub, Nat.reduceEqDiff, Int.reduceToNat, Int.toNat_natCast, Int.reduceNeg, Int.reduceAdd, Int.reduceSub, Int.reduceMul, isPlace8 p0 p1, isPlace9 p0m p1, areTwo8 p0 p1, areTwo9 p0m p1, isPair8 p0 p1, areFt9 p0m p1, isPact8, isPact9, isWord8 w0 w1, isWord9 w0m w1, isSheet8, isSheet9, isPart8, isPart9, h0, e9]
        case r =>
          refine h.scr ?_ ?_ ⟨?_, ?_, ?_⟩ ?_
          · intro k hk; exact F8 k (by omega) (by omega)
          · intro k h1 h2; exact F8 k (by omega) (by omega)
          · intro k hk; exact F9' k (by omega) (by omega) (by omega)
          · rw [F9' 0 (by omega) (by omega) (by omega)]
          · rw [F9' 0 (by omega) (by omega) (by omega)]
          · exact F9' 1 (by omega) (by omega) (by omega)
      · exact h.ref 1 (by omega) (by omega) (by unfold fX8_stance; simp (disch := omega) only [il_0, il_1, il_2, il_3, il_4, il_5, il_6, il_7, il_8, il_9, il_10, il_11, il_12, il_13, il_16, il_20, il_30, il_31, il_32, il_33, il_36, il_37, il_38, il_40, il_41, il_42, il_43, il_45, il_47, il_48, il_50, il_57, il_60, il_61, il_62, il_70, il_71, il_79, il_80, il_97, il_98, il_99, il_100, il_107, il_110, il_111, il_114, il_115, il_116, il_121, il_124, il_128, il_130, il_140, il_160, il_255, il_399, il_540, il_590, il_610, il_999, il_1000, il_1250, il_10000, il_12345, il_99999, il_1000000, il_1103515245, ll_0, ll_1, ll_2, ll_3, ll_4, ll_5, ll_6, ll_7, ll_8, ll_9, ll_30, ll_48, ll_50, ll_57, ll_99, ll_100, ll_255, ll_399, ll_999, ll_99999, nq_bs, nq_ltS, nq_b2S, b2_id, bi_id, iI_add, iI_sub, iI_mul, iI_neg, lI_neg, iI_64, iI_lt, iI_le, iI_eq, iI_ag, iI_as, iI_ar, iI_dv, iI_rem, isOut8, in9, bo_nz, bo_t, bo_f, wr_s, wr_n, wr_k, if_pos, if_neg, ↓reduceIte, Nat.reduceAdd, Nat.reduceMul, Nat.reduceSub, Nat.reduceEqDiff, Int.reduceToNat, Int.toNat_natCast, Int.reduceNeg, Int.reduceAdd, Int.reduceSub, Int.reduceMul, isPlace8 p0 p1, isPlace9 p0m p1, areTwo8 p0 p1, areTwo9 p0m p1, isPair8 p0 p1, areFt9 p0m p1, isPact8, isPact9, isWord8 w0 w1, isWord9 w0m w1, isSheet8, isSheet9, isPart8, isPart9, s0]) (by unfold fX9_stance; simp (disch := omega) only [il_0, il_1, il_2, il_3, il_4, il_5, il_6, il_7, il_8, il_9, il_10, il_11, il_12, il_13, il_16, il_20, il_30, il_31, il_32, il_33, il_36, il_37, il_38, il_40, il_41, il_42, il_43, il_45, il_47, il_48, il_50, il_57, il_60, il_61, il_62, il_70, il_71, il_79, il_80, il_97, il_98, il_99, il_100, il_107, il_110, il_111, il_114, il_115, il_116, il_121, il_124, il_128, il_130, il_140, il_160, il_255, il_399, il_540, il_590, il_610, il_999, il_1000, il_1250, il_10000, il_12345, il_99999, il_1000000, il_1103515245, ll_0, ll_1, ll_2, ll_3, ll_4, ll_5, ll_6, ll_7, ll_8, ll_9, ll_30, ll_48, ll_50, ll_57, ll_99, ll_100, ll_255, ll_399, ll_999, ll_99999, nq_bs, nq_ltS, nq_b2S, b2_id, bi_id, iI_add, iI_sub, iI_mul, iI_neg, lI_neg, iI_64, iI_lt, iI_le, iI_eq, iI_ag, iI_as, iI_ar, iI_dv, iI_rem, isOut8, in9, bo_nz, bo_t, bo_f, wr_s, wr_n, wr_k, if_pos, if_neg, ↓reduceIte, Nat.reduceAdd, Nat.reduceMul, Nat.reduceSub, Nat.reduceEqDiff, Int.reduceToNat, Int.toNat_natCast, Int.reduceNeg, Int.reduceAdd, Int.reduceSub, Int.reduceMul, isPlace8 p0 p1, isPlace9 p0m p1, areTwo8 p0 p1, areTwo9 p0m p1, isPair8 p0 p1, areFt9 p0m p1, isPact8, isPact9, isWord8 w0 w1, isWord9 w0m w1, isSheet8, isSheet9, isPart8, isPart9, h0])
    · exact h.ref 1 (by omega) (by omega) (by unfold fX8_stance; simp (disch := omega) only [il_0, il_1, il_2, il_3, il_4, il_5, il_6, il_7, il_8, il_9, il_10, il_11, il_12, il_13, il_16, il_20, il_30, il_31, il_32, il_33, il_36, il_37, il_38, il_40, il_41, il_42, il_43, il_45, il_47, il_48, il_50, il_57, il_60, il_61, il_62, il_70, il_71, il_79, il_80, il_97, il_98, il_99, il_100, il_107, il_110, il_111, il_114, il_115, il_116, il_121, il_124, il_128, il_130, il_140, il_160, il_255, il_399, il_540, il_590, il_610, il_999, il_1000, il_1250, il_10000, il_12345, il_99999, il_1000000, il_1103515245, ll_0, ll_1, ll_2, ll_3, ll_4, ll_5, ll_6, ll_7, ll_8, ll_9, ll_30, ll_48, ll_50, ll_57, ll_99, ll_100, ll_255, ll_399, ll_999, ll_99999, nq_bs, nq_ltS, nq_b2S, b2_id, bi_id, iI_add, iI_sub, iI_mul, iI_neg, lI_neg, iI_64, iI_lt, iI_le, iI_eq, iI_ag, iI_as, iI_ar, iI_dv, iI_rem, isOut8, in9, bo_nz, bo_t, bo_f, wr_s, wr_n, wr_k, if_pos, if_neg, ↓reduceIte, Nat.reduceAdd, Nat.reduceMul, Nat.reduceSub, Nat.reduceEqDiff, Int.reduceToNat, Int.toNat_natCast, Int.reduceNeg, Int.reduceAdd, Int.reduceSub, Int.reduceMul, isPlace8 p0 p1, isPlace9 p0m p1, areTwo8 p0 p1, areTwo9 p0m p1, isPair8 p0 p1, areFt9 p0m p1, isPact8, isPact9, isWord8 w0 w1, isWord9 w0m w1, isSheet8, isSheet9, isPart8, isPart9, s0]) (by unfold fX9_stance; simp (disch := omega) only [il_0, il_1, il_2, il_3, il_4, il_5, il_6, il_7, il_8, il_9, il_10, il_11, il_12, il_13, il_16, il_20, il_30, il_31, il_32, il_33, il_36, il_37, il_38, il_40, il_41, il_42, il_43, il_45, il_47, il_48, il_50, il_57, il_60, il_61, il_62, il_70, il_71, il_79, il_80, il_97, il_98, il_99, il_100, il_107, il_110, il_111, il_114, il_115, il_116, il_121, il_124, il_128, il_130, il_140, il_160, il_255, il_399, il_540, il_590, il_610, il_999, il_1000, il_1250, il_10000, il_12345, il_99999, il_1000000, il_1103515245, ll_0, ll_1, ll_2, ll_3, ll_4, ll_5, ll_6, ll_7, ll_8, ll_9, ll_30, ll_48, ll_50, ll_57, ll_99, ll_100, ll_255, ll_399, ll_999, ll_99999, nq_bs, nq_ltS, nq_b2S, b2_id, bi_id, iI_add, iI_sub, iI_mul, iI_neg, lI_neg, iI_64, iI_lt, iI_le, iI_eq, iI_ag, iI_as, iI_ar, iI_dv, iI_rem, isOut8, in9, bo_nz, bo_t, bo_f, wr_s, wr_n, wr_k, if_pos, if_neg, ↓reduceIte, Nat.reduceAdd, Nat.reduceMul, Nat.reduceSub, Nat.reduceEqDiff, Int.reduceToNat, Int.toNat_natCast, Int.reduceNeg, Int.reduceAdd, Int.reduceSub, Int.reduceMul, isPlace8 p0 p1, isPlace9 p0m p1, areTwo8 p0 p1, areTwo9 p0m p1, isPair8 p0 p1, areFt9 p0m p1, isPact8, isPact9, isWord8 w0 w1, isWord9 w0m w1, isSheet8, isSheet9, isPart8, isPart9, h0])
  · exact h.ref 1 (by omega) (by omega) (by unfold fX8_stance; simp (disch := omega) only [il_0, il_1, il_2, il_3, il_4, il_5, il_6, il_7, il_8, il_9, il_10, il_11, il_12, il_13, il_16, il_20, il_30, il_31, il_32, il_33, il_36, il_37, il_38, il_40, il_41, il_42, il_43, il_45, il_47, il_48, il_50, il_57, il_60, il_61, il_62, il_70, il_71, il_79, il_80, il_97, il_98, il_99, il_100, il_107, il_110, il_111, il_114, il_115, il_116, il_121, il_124, il_128, il_130, il_140, il_160, il_255, il_399, il_540, il_590, il_610, il_999, il_1000, il_1250, il_10000, il_12345, il_99999, il_1000000, il_1103515245, ll_0, ll_1, ll_2, ll_3, ll_4, ll_5, ll_6, ll_7, ll_8, ll_9, ll_30, ll_48, ll_50, ll_57, ll_99, ll_100, ll_255, ll_399, ll_999, ll_99999, nq_bs, nq_ltS, nq_b2S, b2_id, bi_id, iI_add, iI_sub, iI_mul, iI_neg, lI_neg, iI_64, iI_lt, iI_le, iI_eq, iI_ag, iI_as, iI_ar, iI_dv, iI_rem, isOut8, in9, bo_nz, bo_t, bo_f, wr_s, wr_n, wr_k, if_pos, if_neg, ↓reduceIte, Nat.reduceAdd, Nat.reduceMul, Nat.reduceSub, Nat.reduceEqDiff, Int.reduceToNat, Int.toNat_natCast, Int.reduceNeg, Int.reduceAdd, Int.reduceSub, Int.reduceMul, isPlace8 p0 p1, isPlace9 p0m p1, areTwo8 p0 p1, areTwo9 p0m p1, isPair8 p0 p1, areFt9 p0m p1, isPact8, isPact9, isWord8 w0 w1, isWord9 w0m w1, isSheet8, isSheet9, isPart8, isPart9, s0]) (by unfold fX9_stance; simp (disch := omega) only [il_0, il_1, il_2, il_3, il_4, il_5, il_6, il_7, il_8, il_9, il_10, il_11, il_12, il_13, il_16, il_20, il_30, il_31, il_32, il_33, il_36, il_37, il_38, il_40, il_41, il_42, il_43, il_45, il_47, il_48, il_50, il_57, il_60, il_61, il_62, il_70, il_71, il_79, il_80, il_97, il_98, il_99, il_100, il_107, il_110, il_111, il_114, il_115, il_116, il_121, il_124, il_128, il_130, il_140, il_160, il_255, il_399, il_540, il_590, il_610, il_999, il_1000, il_1250, il_10000, il_12345, il_99999, il_1000000, il_1103515245, ll_0, ll_1, ll_2, ll_3, ll_4, ll_5, ll_6, ll_7, ll_8, ll_9, ll_30, ll_48, ll_50, ll_57, ll_99, ll_100, ll_255, ll_399, ll_999, ll_99999, nq_bs, nq_ltS, nq_b2S, b2_id, bi_id, iI_add, iI_sub, iI_mul, iI_neg, lI_neg, iI_64, iI_lt, iI_le, iI_eq, iI_ag, iI_as, iI_ar, iI_dv, iI_rem, isOut8, in9, bo_nz, bo_t, bo_f, wr_s, wr_n, wr_k, if_pos, if_neg, ↓reduceIte, Nat.reduceAdd, Nat.reduceMul, Nat.reduceSub, Nat.reduceEqDiff, Int.reduceToNat, Int.toNat_natCast, Int.reduceNeg, Int.reduceAdd, Int.reduceSub, Int.reduceMul, isPlace8 p0 p1, isPlace9 p0m p1, areTwo8 p0 p1, areTwo9 p0m p1, isPair8 p0 p1, areFt9 p0m p1, isPact8, isPact9, isWord8 w0 w1, isWord9 w0m w1, isSheet8, isSheet9, isPart8, isPart9, h0])
