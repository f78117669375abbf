/-! 16.c: hops: word, words -/
def flt (D : Nat → Int) (k f p : Int) : Int := if 0 ≤ k ∧ k ≤ 6 ∧ pairP f (D 1) ∧ 0 ≤ p ∧ p < 4 then (if wayI D (f / 10) (f % 10) < 0 then 2 else if D 2 < 80 then 0 else 4) else 1
theorem flt_0 {D : Nat → Int} {k f p : Int} (h : flt D k f p = 0) : (0 ≤ k ∧ k ≤ 6) ∧ pairP f (D 1) ∧ (0 ≤ p ∧ p ≤ 3) ∧ 0 ≤ wayI D (f / 10) (f % 10) ∧ D 2 < 80 := by
  unfold flt at h
  split at h
  · rename_i g
    split at h
    · omega
    · split at h
      · refine ⟨by omega, g.2.2.1, by omega, by omega, by omega⟩
      · omega
  · omega
theorem flt_bd (D : Nat → Int) (k f p : Int) : 0 ≤ flt D k f p ∧ flt D k f p < 6 := by
  unfold flt
  split
  · split
    · omega
    · split <;> omega
  · omega
theorem fault8 {Mx : Mem} {D : Nat → Int} (hR : GR Mx 3 D) (hL : GL Mx 6 D) {k f p : Int} (hk : inR k) (hf : inR f) (hp : inR p) : fX8_faultOfWord (iI k) (iI f) (iI p) Mx = some (iI (flt D k f p)) := by
  have p0 := hR.1
  have p1 := hR.2.1
  have w0 := hL.1
  have w1 := hL.2.1
  unfold fX8_faultOfWord flt
  by_cases g1 : 0 ≤ k ∧ k ≤ 6
  · by_cases g2 : pairP f (D 1)
    · by_cases g3 : 0 ≤ p ∧ p < 4
      · have k8 := years8 hR (i := f / 10) (j := f % 10) (by omega) (by omega)
        have bd := wayI_bd hR (i := f / 10) (j := f % 10) (by omega) (by omega)
        rw [if_pos (show 0 ≤ k ∧ k ≤ 6 ∧ pairP f (D 1) ∧ 0 ≤ p ∧ p < 4 by omega)]
        by_cases c : wayI D (f / 10) (f % 10) < 0
        · simp (disch := omega) only [il_0, il_1, il_2, il_3, il_4, il_5, il_6, il_7, il_8, il_9, il_10, il_11, il_12, il_13, il_16, il_20, il_30, il_31, il_32, il_33, il_36, il_37, il_38, il_40, il_41, il_42, il_43, il_45, il_47, il_48, il_50, il_57, il_60, il_61, il_62, il_70, il_71, il_79, il_80, il_97, il_98, il_99, il_100, il_107, il_110, il_111, il_114, il_115, il_116, il_121, il_124, il_128, il_130, il_140, il_160, il_255, il_399, il_540, il_590, il_610, il_999, il_1000, il_1250, il_10000, il_12345, il_99999, il_1000000, il_1103515245, ll_0, ll_1, ll_2, ll_3, ll_4, ll_5, ll_6, ll_7, ll_8, ll_9, ll_30, ll_48, ll_50, ll_57, ll_99, ll_100, ll_255, ll_399, ll_999, ll_99999, nq_bs, nq_ltS, nq_b2S, b2_id, bi_id, iI_add, iI_sub, iI_mul, iI_neg, lI_neg, iI_64, iI_lt, iI_le, iI_eq, iI_ag, iI_as, iI_ar, iI_dv, iI_rem, isOut8, in9, bo_nz, bo_t, bo_f, wr_s, wr_n, wr_k, if_pos, if_neg, ↓reduceIte, Nat.reduceAdd, Nat.reduceMul, Nat.reduceSub, Nat.reduceEqDiff, Int.reduceToNat, Int.toNat_natCast, Int.reduceNeg, Int.reduceAdd, Int.reduceSub, Int.reduceMul, isPair8 p0 p1, isPact8, k8]
        · by_cases c2 : D 2 < 80
          · simp (disch := omega) only [il_0, il_1, il_2, il_3, il_4, il_5, il_6, il_7, il_8, il_9, il_10, il_11, il_12, il_13, il_16, il_20, il_30, il_31, il_32, il_33, il_36, il_37, il_38, il_40, il_41, il_42, il_43, il_45, il_47, il_48, il_50, il_57, il_60, il_61, il_62, il_70, il_71, il_79, il_80, il_97, il_98, il_99, il_100, il_107, il_110, il_111, il_114, il_115, il_116, il_121, il_124, il_128, il_130, il_140, il_160, il_255, il_399, il_540, il_590, il_610, il_999, il_1000, il_1250, il_10000, il_12345, il_99999, il_1000000, il_1103515245, ll_0, ll_1, ll_2, ll_3, ll_4, ll_5, ll_6, ll_7, ll_8, ll_9, ll_30, ll_48, ll_50, ll_57, ll_99, ll_100, ll_255, ll_399, ll_999, ll_99999, nq_bs, nq_ltS, nq_b2S, b2_id, bi_id, iI_add, iI_sub, iI_mul, iI_neg, lI_neg, iI_64, iI_lt, iI_le, iI_eq, iI_ag, iI_as, iI_ar, iI_dv, iI_rem, isOut8, in9, bo_nz, bo_t, bo_f, wr_s, wr_n, wr_k, if_pos, if_neg, ↓reduceIte, Nat.reduceAdd, Nat.reduceMul, Nat.reduceSub, Nat.reduceEqDiff, Int.reduceToNat, Int.toNat_natCast, Int.reduceNeg, Int.reduceAdd, Int.reduceSub, Int.reduceMul, isPair8 p0 p1, isPact8, k8, w0]
          · simp (disch := omega) only [il_0, il_1, il_2, il_3, il_4, il_5, il_6, il_7, il_8, il_9, il_10, il_11, il_12, il_13, il_16, il_20, il_30, il_31, il_32, il_33, il_36, il_37, il_38, il_40, il_41, il_42, il_43, il_45, il_47, il_48, il_50, il_57, il_60, il_61, il_62, il_70, il_71, il_79, il_80, il_97, il_98, il_99, il_100, il_107, il_110, il_111, il_114, il_115, il_116, il_121, il_124, il_128, il_130, il_140, il_160, il_255, il_399, il_540, il_590, il_610, il_999, il_1000, il_1250, il_10000, il_12345, il_99999, il_1000000, il_1103515245, ll_0, ll_1, ll_2, ll_3, ll_4, ll_5, ll_6, ll_7, ll_8, ll_9, ll_30, ll_48, ll_50, ll_57, ll_99, ll_100, ll_255, ll_399, ll_999, ll_99999, nq_bs, nq_ltS, nq_b2S, b2_id, bi_id, iI_add, iI_sub, iI_mul, iI_neg, lI_neg, iI_64, iI_lt, iI_le, iI_eq, iI_ag, iI_as, iI_ar, iI_dv, iI_rem, isOut8, in9, bo_nz, bo_t, bo_f, wr_s, wr_n, wr_k, if_pos, if_neg, ↓reduceIte, Nat.reduceAdd, Nat.reduceMul, Nat.reduceSub, Nat.reduceEqDiff, Int.reduceToNat, Int.toNat_natCast, Int.reduceNeg, Int.reduceAdd, Int.reduceSub, Int.reduceMul, isPair8 p0 p1, isPact8, k8, w0]
      · rw [if_neg (show ¬ (0 ≤ k ∧ k ≤ 6 ∧ pairP f (D 1) ∧ 0 ≤ p ∧ p < 4) by omega)]
        simp (disch := omega) only [il_0, il_1, il_2, il_3, il_4, il_5, il_6, il_7, il_8, il_9, il_10, il_11, il_12, il_13, il_16, il_20, il_30, il_31, il_32, il_33, il_36, il_37, il_38, il_40, il_41, il_42, il_43, il_45, il_47, il_48, il_50, il_57, il_60, il_61, il_62, il_70, il_71, il_79, il_80, il_97, il_98, il_99, il_100, il_107, il_110, il_111, il_114, il_115, il_116, il_121, il_124, il_128, il_130, il_140, il_160, il_255, il_399, il_540, il_590, il_610, il_999, il_1000, il_1250, il_10000, il_12345, il_99999, il_1000000, il_1103515245, ll_0, ll_1, ll_2, ll_3, ll_4, ll_5, ll_6, ll_7, ll_8, ll_9, ll_30, ll_48, ll_50, ll_57, ll_99, ll_100, ll_255, ll_399, ll_999, ll_99999, nq_bs, nq_ltS, nq_b2S, b2_id, bi_id, iI_add, iI_sub, iI_mul, iI_neg, lI_neg, iI_64, iI_lt, iI_le, iI_eq, iI_ag, iI_as, iI_ar, iI_dv, iI_rem, isOut8, in9, bo_nz, bo_t, bo_f, wr_s, wr_n, wr_k, if_pos, if_neg, ↓reduceIte, Nat.reduceAdd, Nat.reduceMul, Nat.reduceSub, Nat.reduceEqDiff, Int.reduceToNat, Int.toNat_natCast, Int.reduceNeg, Int.reduceAdd, Int.reduceSub, Int.reduceMul, isPair8 p0 p1, isPact8]
    · rw [if_neg (show ¬ (0 ≤ k ∧ k ≤ 6 ∧ pairP f (D 1) ∧ 0 ≤ p ∧ p < 4) by omega)]
      simp (disch := omega) only [il_0, il_1, il_2, il_3, il_4, il_5, il_6, il_7, il_8, il_9, il_10, il_11, il_12, il_13, il_16, il_20, il_30, il_31, il_32, il_33, il_36, il_37, il_38, il_40, il_41, il_42, il_43, il_45, il_47, il_48, il_50, il_57, il_60, il_61, il_62, il_70, il_71, il_79, il_80, il_97, il_98, il_99, il_100, il_107, il_110, il_111, il_114, il_115, il_116, il_121, il_124, il_128, il_130, il_140, il_160, il_255, il_399, il_540, il_590, il_610, il_999, il_1000, il_1250, il_10000, il_12345, il_99999, il_1000000, il_1103515245, ll_0, ll_1, ll_2, ll_3, ll_4, ll_5, ll_6, ll_7, ll_8, ll_9, ll_30, ll_48, ll_50, ll_57, ll_99, ll_100, ll_255, ll_399, ll_999, ll_99999, nq_bs, nq_ltS, nq_b2S, b2_id, bi_id, iI_add, iI_sub, iI_mul, iI_neg, lI_neg, iI_64, iI_lt, iI_le, iI_eq, iI_ag, iI_as, iI_ar, iI_dv, iI_rem, isOut8, in9, bo_nz, bo_t, bo_f, wr_s, wr_n, wr_k, if_pos, if_neg, ↓reduceIte, Nat.reduceAdd, Nat.reduceMul, Nat.reduceSub, Nat.reduceEqDiff, Int.reduceToNat, Int.toNat_natCast, Int.reduceNeg, Int.reduceAdd, Int.reduceSub, Int.reduceMul, isPair8 p0 p1, isPact8]
  · rw [if_neg (show ¬ (0 ≤ k ∧ k ≤ 6 ∧ pairP f (D 1) ∧ 0 ≤ p ∧ p < 4) by omega)]
    simp (disch := omega) only [il_0, il_1, il_2, il_3, il_4, il_5, il_6, il_7, il_8, il_9, il_10, il_11, il_12, il_13, il_16, il_20, il_30, il_31, il_32, il_33, il_36, il_37, il_38, il_40, il_41, il_42, il_43, il_45, il_47, il_48, il_50, il_57, il_60, il_61, il_62, il_70, il_71, il_79, il_80, il_97, il_98, il_99, il_100, il_107, il_110, il_111, il_114, il_115, il_116, il_121, il_124, il_128, il_130, il_140, il_160, il_255, il_399, il_540, il_590, il_610, il_999, il_1000, il_1250, il_10000, il_12345, il_99999, il_1000000, il_1103515245, ll_0, ll_1, ll_2, ll_3, ll_4, ll_5, ll_6, ll_7, ll_8, ll_9, ll_30, ll_48, ll_50, ll_57, ll_99, ll_100, ll_255, ll_399, ll_999, ll_99999, nq_bs, nq_ltS, nq_b2S, b2_id, bi_id, iI_add, iI_sub, iI_mul, iI_neg, lI_neg, iI_64, iI_lt, iI_le, iI_eq, iI_ag, iI_as, iI_ar, iI_dv, iI_rem, isOut8, in9, bo_nz, bo_t, bo_f, wr_s, wr_n, wr_k, if_pos, if_neg, ↓reduceIte, Nat.reduceAdd, Nat.reduceMul, Nat.reduceSub, Nat.reduceEqDiff, Int.reduceToNat, Int.toNat_natCast, Int.reduceNeg, Int.reduceAdd, Int.reduceSub, Int.reduceMul, isPair8 p0 p1, isPact8]
theorem why9 {M Mx : Mem} {D : Nat → Int} (h0 : ∀ j, j < 1250 → M 1 j = iI (D j)) (hR : GR Mx 3 D) (hL : GL Mx 6 D) {k f p : Int} (hk : inR k) (hf : inR f) (hp : inR p) : ∃ M', fX9_whyNot (iI k) (iI f) (iI p) M = some (iI (flt D k f p), M') ∧ (M' = M ∨ M' = wayM D M) := by
  have p0 : M 1 1 = iI (D 1) := h0 1 (by omega)
  have p1 := hR.2.1
  have w0 : wayM D M 1 2 = iI (D 2) := by rw [wayM_k (by omega)]; exact h0 2 (by omega)
  have w1 := hL.2.1
  unfold fX9_whyNot flt
  by_cases g1 : 0 ≤ k ∧ k ≤ 6
  · by_cases g2 : pairP f (D 1)
    · by_cases g3 : 0 ≤ p ∧ p < 4
      · have k9 := wayOf9 h0 hR (i := f / 10) (j := f % 10) (by omega) (by omega)
        have bd := wayI_bd hR (i := f / 10) (j := f % 10) (by omega) (by omega)
        rw [if_pos (show 0 ≤ k ∧ k ≤ 6 ∧ pairP f (D 1) ∧ 0 ≤ p ∧ p < 4 by omega)]
        refine ⟨wayM D M, ?_, Or.inr rfl⟩
        by_cases c : wayI D (f / 10) (f % 10) < 0
        · simp (disch := omega) only [il_0, il_1, il_2, il_3, il_4, il_5, il_6, il_7, il_8, il_9, il_10, il_11, il_12, il_13, il_16, il_20, il_30, il_31, il_32, il_33, il_36, il_37, il_38, il_40, il_41, il_42, il_43, il_45, il_47, il_48, il_50, il_57, il_60, il_61, il_62, il_70, il_71, il_79, il_80, il_97, il_98, il_99, il_100, il_107, il_110, il_111, il_114, il_115, il_116, il_121, il_124, il_128, il_130, il_140, il_160, il_255, il_399, il_540, il_590, il_610, il_999, il_1000, il_1250, il_10000, il_12345, il_99999, il_1000000, il_1103515245, ll_0, ll_1, ll_2, ll_3, ll_4, ll_5, ll_6, ll_7, ll_8, ll_9, ll_30, ll_48, ll_50, ll_57, ll_99, ll_100, ll_255, ll_399, ll_999, ll_99999, nq_bs, nq_ltS, nq_b2S, b2_id, bi_id, iI_add, iI_sub, iI_mul, iI_neg, lI_neg, iI_64, iI_lt, iI_le, iI_eq, iI_ag, iI_as, iI_ar, iI_dv, iI_rem, isOut8, in9, bo_nz, bo_t, bo_f, wr_s, wr_n, wr_k, if_pos, if_neg, ↓reduceIte, Nat.reduceAdd, Nat.reduceMul, Nat.reduceSub, Nat.reduceEqDiff, Int.reduceToNat, Int.toNat_natCast, Int.reduceNeg, Int.reduceAdd, Int.reduceSub, Int.reduceMul, areFt9 p0 p1, isPact9, k9]
        · by_cases c2 : D 2 < 80
          · simp (disch := omega) only [il_0, il_1, il_2, il_3, il_4, il_5, il_6, il_7, il_8, il_9, il_10, il_11, il_12, il_13, il_16, il_20, il_30, il_31, il_32, il_33, il_36, il_37, il_38, il_40, il_41, il_42, il_43, il_45, il_47, il_48, il_50, il_57, il_60, il_61, il_62, il_70, il_71, il_79, il_80, il_97, il_98, il_99, il_100, il_107, il_110, il_111, il_114, il_115, il_116, il_121, il_124, il_128, il_130, il_140, il_160, il_255, il_399, il_540, il_590, il_610, il_999, il_1000, il_1250, il_10000, il_12345, il_99999, il_1000000, il_1103515245, ll_0, ll_1, ll_2, ll_3, ll_4, ll_5, ll_6, ll_7, ll_8, ll_9, ll_30, ll_48, ll_50, ll_57, ll_99, ll_100, ll_255, ll_399, ll_999, ll_99999, nq_bs, nq_ltS, nq_b2S, b2_id, bi_id, iI_add, iI_sub, iI_mul, iI_neg, lI_neg, iI_64, iI_lt, iI_le, iI_eq, iI_ag, iI_as, iI_ar, iI_dv, iI_rem, isOut8, in9, bo_nz, bo_t, bo_f, wr_s, wr_n, wr_k, if_pos, if_neg, ↓reduceIte, Nat.reduceAdd, Nat.reduceMul, Nat.reduceSub, Nat.reduceEqDiff, Int.reduceToNat, Int.toNat_natCast, Int.reduceNeg, Int.reduceAdd, Int.reduceSub, Int.reduceMul, areFt9 p0 p1, isPact9, k9, w0]
          · simp (disch := omega) only [il_0, il_1, il_2, il_3, il_4, il_5, il_6, il_7, il_8, il_9, il_10, il_11, il_12, il_13, il_16, il_20, il_30, il_31, il_32, il_33, il_36, il_37, il_38, il_40, il_41, il_42, il_43, il_45, il_47, il_48, il_50, il_57, il_60, il_61, il_62, il_70, il_71, il_79, il_80, il_97, il_98, il_99, il_100, il_107, il_110, il_111, il_114, il_115, il_116, il_121, il_124, il_128, il_130, il_140, il_160, il_255, il_399, il_540, il_590, il_610, il_999, il_1000, il_1250, il_10000, il_12345, il_99999, il_1000000, il_1103515245, ll_0, ll_1, ll_2, ll_3, ll_4, ll_5, ll_6, ll_7, ll_8, ll_9, ll_30, ll_48, ll_50, ll_57, ll_99, ll_100, ll_255, ll_399, ll_999, ll_99999, nq_bs, nq_ltS, nq_b2S, b2_id, bi_id, iI_add, iI_sub, iI_mul, iI_neg, lI_neg, iI_64, iI_lt, iI_le, iI_eq, iI_ag, iI_as, iI_ar, iI_dv, iI_rem, isOut8, in9, bo_nz, bo_t, bo_f, wr_s, wr_n, wr_k, if_pos, if_neg, ↓reduceIte, Nat.reduceAdd, Nat.reduceMul, Nat.reduceSub, Nat.reduceEqDiff, Int.reduceToNat, Int.toNat_natCast, Int.reduceNeg, Int.reduceAdd, Int.reduceSub, Int.reduceMul, areFt9 p0 p1, isPact9, k9, w0]
      · rw [if_neg (show ¬ (0 ≤ k ∧ k ≤ 6 ∧ pairP f (D 1) ∧ 0 ≤ p ∧ p < 4) by omega)]
        refine ⟨M, ?_, Or.inl rfl⟩
        simp (disch := omega) only [il_0, il_1, il_2, il_3, il_4, il_5, il_6, il_7, il_8, il_9, il_10, il_11, il_12, il_13, il_16, il_20, il_30, il_31, il_32, il_33, il_36, il_37, il_38, il_40, il_41, il_42, il_43, il_45, il_47, il_48, il_50, il_57, il_60, il_61, il_62, il_70, il_71, il_79, il_80, il_97, il_98, il_99, il_100, il_107, il_110, il_111, il_114, il_115, il_116, il_121, il_124, il_128, il_130, il_140, il_160, il_255, il_399, il_540, il_590, il_610, il_999, il_1000, il_1250, il_10000, il_12345, il_99999, il_1000000, il_1103515245, ll_0, ll_1, ll_2, ll_3, ll_4, ll_5, ll_6, ll_7, ll_8, ll_9, ll_30, ll_48, ll_50, ll_57, ll_99, ll_100, ll_255, ll_399, ll_999, ll_99999, nq_bs, nq_ltS, nq_b2S, b2_id, bi_id, iI_add, iI_sub, iI_mul, iI_neg, lI_neg, iI_64, iI_lt, iI_le, iI_eq, iI_ag, iI_as, iI_ar, iI_dv, iI_rem, isOut8, in9, bo_nz, bo_t, bo_f, wr_s, wr_n, wr_k, if_pos, if_neg, ↓reduceIte, Nat.reduceAdd, Nat.reduceMul, Nat.reduceSub, Nat.reduceEqDiff, Int.reduceToNat, Int.toNat_natCast, Int.reduceNeg, Int.reduceAdd, Int.reduceSub, Int.reduceMul, areFt9 p0 p1, isPact9]
    · rw [if_neg (show ¬ (0 ≤ k ∧ k ≤ 6 ∧ pairP f (D 1) ∧ 0 ≤ p ∧ p < 4) by omega)]
      refine ⟨M, ?_, Or.inl rfl⟩
      simp (disch := omega) only [il_0, il_1, il_2, il_3, il_4, il_5, il_6, il_7, il_8, il_9, il_10, il_11, il_12, il_13, il_16, il_20, il_30, il_31, il_32, il_33, il_36, il_37, il_38, il_40, il_41, il_42, il_43, il_45, il_47, il_48, il_50, il_57, il_60, il_61, il_62, il_70, il_71, il_79, il_80, il_97, il_98, il_99, il_100, il_107, il_110, il_111, il_114, il_115, il_116, il_121, il_124, il_128, il_130, il_140, il_160, il_255, il_399, il_540, il_590, il_610, il_999, il_1000, il_1250, il_10000, il_12345, il_99999, il_1000000, il_1103515245, ll_0, ll_1, ll_2, ll_3, ll_4, ll_5, ll_6, ll_7, ll_8, ll_9, ll_30, ll_48, ll_50, ll_57, ll_99, ll_100, ll_255, ll_399, ll_999, ll_99999, nq_bs, nq_ltS, nq_b2S, b2_id, bi_id, iI_add, iI_sub, iI_mul, iI_neg, lI_neg, iI_64, iI_lt, iI_le, iI_eq, iI_ag, iI_as, iI_ar, iI_dv, iI_rem, isOut8, in9, bo_nz, bo_t, bo_f, wr_s, wr_n, wr_k, if_pos, if_neg, ↓reduceIte, Nat.reduceAdd, Nat.reduceMul, Nat.reduceSub, Nat.reduceEqDiff, Int.reduceToNat, Int.toNat_natCast, Int.reduceNeg, Int.reduceAdd, Int.reduceSub, Int.reduceMul, areFt9 p0 p1, isPact9]
  · rw [if_neg (show ¬ (0 ≤ k ∧ k ≤ 6 ∧ pairP f (D 1) ∧ 0 ≤ p ∧ p < 4) by omega)]
    refine ⟨M, ?_, Or.inl rfl⟩
    simp (disch := omega) only [il_0, il_1, il_2, il_3, il_4, il_5, il_6, il_7, il_8, il_9, il_10, il_11, il_12, il_13, il_16, il_20, il_30, il_31, il_32, il_33, il_36, il_37, il_38, il_40, il_41, il_42, il_43, il_45, il_47, il_48, il_50, il_57, il_60, il_61, il_62, il_70, il_71, il_79, il_80, il_97, il_98, il_99, il_100, il_107, il_110, il_111, il_114, il_115, il_116, il_121, il_124, il_128, il_130, il_140, il_160, il_255, il_399, il_540, il_590, il_610, il_999, il_1000, il_1250, il_10000, il_12345, il_99999, il_1000000, il_1103515245, ll_0, ll_1, ll_2, ll_3, ll_4, ll_5, ll_6, ll_7, ll_8, ll_9, ll_30, ll_48, ll_50, ll_57, ll_99, ll_100, ll_255, ll_399, ll_999, ll_99999, nq_bs, nq_ltS, nq_b2S, b2_id, bi_id, iI_add, iI_sub, iI_mul, iI_neg, lI_neg, iI_64, iI_lt, iI_le, iI_eq, iI_ag, iI_as, iI_ar, iI_dv, iI_rem, isOut8, in9, bo_nz, bo_t, bo_f, wr_s, wr_n, wr_k, if_pos, if_neg, ↓reduceIte, Nat.reduceAdd, Nat.reduceMul, Nat.reduceSub, Nat.reduceEqDiff, Int.reduceToNat, Int.toNat_natCast, Int.reduceNeg, Int.reduceAdd, Int.reduceSub, Int.reduceMul, areFt9 p0 p1, isPact9]
theorem KeepM.wayM {D : Nat → Int} {M : Mem} : KeepM M (wayM D M) := ⟨fun k hk => wayM_k (by omega), by rw [wayM_k (by omega)], by rw [wayM_k (by omega)]⟩
theorem KeepM.trans {M M' M'' : Mem} (h : KeepM M M') (h' : KeepM M' M'') : KeepM M M'' := ⟨fun k hk => (h'.1 k hk).trans (h.1 k hk), h'.2.1.trans h.2.1, h'.2.2.trans h.2.2⟩
theorem KeepX.trans {M M' M'' : Mem} (h : KeepX M M') (h' : KeepX M' M'') : KeepX M M'' := fun k hk => (h' k hk).trans (h k hk)
/-- both ask whether a word can be sent, and send it if so -/
theorem RR.ask {Mx Mm : Mem} {D : Nat → Int} (h : RR Mx Mm) (hc : Cur 2 (Mm 1) Mx D) {k f p : Int} (hk : inR k) (hf : inR f) (hp : inR p) : fX8_faultOfWord (iI k) (iI f) (iI p) Mx = some (iI (flt D k f p)) ∧ ∃ Mm1, fX9_whyNot (iI k) (iI f) (iI p) Mm = some (iI (flt D k f p), Mm1) ∧ KeepM Mm Mm1 ∧ RR Mx Mm1 ∧ Cur 2 (Mm1 1) Mx D ∧ (flt D k f p = 0 → ∃ Mx2 Mm2, fX7_send 2 (iI k) (iI (f / 10)) (iI (f % 10)) (iI p) Mx = some (iI (D 2), Mx2) ∧ fX9_sends (iI k) (iI f) (iI p) Mm1 = some Mm2 ∧ KeepX Mx Mx2 ∧ KeepM Mm Mm2 ∧ RR Mx2 Mm2 ∧ Mm2 1 2 = iI (D 2 + 1)) := by
  have hc' := hc
  obtain ⟨h0, hS, hR, hL, hA, hT⟩ := hc'
  refine ⟨fault8 hR hL hk hf hp, ?_⟩
  obtain ⟨M', x1, x2⟩ := why9 h0 hR hL hk hf hp
  have key : KeepM Mm M' ∧ RR Mx M' ∧ Cur 2 (M' 1) Mx D := by
    rcases x2 with rfl | rfl
    · exact ⟨KeepM.refl _, h, hc⟩
    · exact ⟨KeepM.wayM, h.wayM, by rw [wayM_k (by omega)]; exact hc⟩
  refine ⟨M', x1, key.1, key.2.1, key.2.2, ?_⟩
  intro hz
  obtain ⟨g1, g2, g3, g4, g5⟩ := flt_0 hz
  have p1 := hR.2.1
  have w1 := hL.2.1
  obtain ⟨Mx2, y1, y2, y3⟩ := send8 hc (k := k) (a := f / 10) (b := f % 10) (p := p) g1 (by omega) (by omega) g3 g4 g5
  obtain ⟨Mm2, z1, z2, z3⟩ := sends9 key.2.2.1 hS hR hL (k := k) (f := f) (p := p) g1 (by omega) g3 g4 g5
  refine ⟨Mx2, Mm2, y1, z1, y2, key.1.trans z2, h.upd y2 (key.1.trans z2) (y3 (Mm2 1) z3), ?_⟩
  rw [z3 2 (by omega)]
  unfold sndD
  rw [sD_2]
theorem hop_word (a0 a1 a2 : Int32) (Mx Mm : Mem) (h : RR Mx Mm) : ∃ (r : Int32) (Mx1 Mm1 : Mem), fX8_word a0 a1 a2 Mx = some (r, Mx1) ∧ fX9_word a0 a1 a2 Mm = some (r, Mm1) ∧ RR Mx1 Mm1 := by
  obtain ⟨x, hx, rfl⟩ := iI_of a0
  obtain ⟨y, hy, rfl⟩ := iI_of a1
  obtain ⟨z, hz, rfl⟩ := iI_of a2
  obtain ⟨D, hc⟩ := h.1
  obtain ⟨e8, Mm1, e9, k1, h1, hc1, snd⟩ := h.ask hc hx hy hz
  have w1 := hc.2.2.2.1.2.1
  by_cases c : flt D x y z = 0
  · obtain ⟨Mx2, Mm2, y1, z1, _, _, hR2, n2⟩ := snd c
    obtain ⟨_, g2, _⟩ := flt_0 c
    have p1 := hc.2.2.1.2.1
    refine ⟨iI (D 2), Mx2, Mm2, ?_, ?_, hR2⟩
    · unfold fX8_word
      rw [e8, nq_bs, c, if_pos (by decide)]
      simp (disch := omega) only [il_0, il_1, il_2, il_3, il_4, il_5, il_6, il_7, il_8, il_9, il_10, il_11, il_12, il_13, il_16, il_20, il_30, il_31, il_32, il_33, il_36, il_37, il_38, il_40, il_41, il_42, il_43, il_45, il_47, il_48, il_50, il_57, il_60, il_61, il_62, il_70, il_71, il_79, il_80, il_97, il_98, il_99, il_100, il_107, il_110, il_111, il_114, il_115, il_116, il_121, il_124, il_128, il_130, il_140, il_160, il_255, il_399, il_540, il_590, il_610, il_999, il_1000, il_1250, il_10000, il_12345, il_99999, il_1000000, il_1103515245, ll_0, ll_1, ll_2, ll_3, ll_4, ll_5, ll_6, ll_7, ll_8, ll_9, ll_30, ll_48, ll_50, ll_57, ll_99, ll_100, ll_255, ll_399, ll_999, ll_99999, iI_dv, iI_rem, nq_bs, y1, nq_b2S]
    · unfold fX9_word
      rw [e9, nq_b2S, c, if_pos (by decide), z1, nq_bs]
      simp (disch := omega) only [il_0, il_1, il_2, il_3, il_4, il_5, il_6, il_7, il_8, il_9, il_10, il_11, il_12, il_13, il_16, il_20, il_30, il_31, il_32, il_33, il_36, il_37, il_38, il_40, il_41, il_42, il_43, il_45, il_47, il_48, il_50, il_57, il_60, il_61, il_62, il_70, il_71, il_79, il_80, il_97, il_98, il_99, il_100, il_107, il_110, il_111, il_114, il_115, il_116, il_121, il_124, il_128, il_130, il_140, il_160, il_255, il_399, il_540, il_590, il_610, il_999, il_1000, il_1250, il_10000, il_12345, il_99999, il_1000000, il_1103515245, ll_0, ll_1, ll_2, ll_3, ll_4, ll_5, ll_6, ll_7, ll_8, ll_9, ll_30, ll_48, ll_50, ll_57, ll_99, ll_100, ll_255, ll_399, ll_999, ll_99999, nq_bs, nq_ltS, nq_b2S, b2_id, bi_id, iI_add, iI_sub, iI_mul, iI_neg, lI_neg, iI_64, iI_lt, iI_le, iI_eq, iI_ag, iI_as, iI_ar, iI_dv, iI_rem, isOut8, in9, bo_nz, bo_t, bo_f, wr_s, wr_n, wr_k, if_pos, if_neg, ↓reduceIte, Nat.reduceAdd, Nat.reduceMul, Nat.reduceSub, Nat.reduceEqDiff, Int.reduceToNat, Int.toNat_natCast, Int.reduceNeg, Int.reduceAdd, Int.reduceSub, Int.reduceMul, n2]
      rw [show D 2 + 1 - 1 = D 2 by omega]
  · have bd := flt_bd D x y z
    refine h1.ref (flt D x y z) bd.1 bd.2 ?_ ?_
    · unfold fX8_word
      rw [e8, nq_bs, if_neg (by rw [il_0, iI_eq (by omega) (by omega)]; exact c), b2_id]
    · unfold fX9_word
      rw [e9, nq_b2S, if_neg (by rw [il_0, iI_eq (by omega) (by omega)]; exact c), b2_id]
