/-! 12.a: guards -/
theorem isPlace8 {x n : Int} {M : Mem} (h : M 3 0 = iI n) (hn : 0 ≤ n ∧ n ≤ 6) (hx : inR x) : fX8_isPlace (iI x) M = some (bo (0 ≤ x ∧ x < n)) := by
  unfold fX8_isPlace
  simp (disch := omega) only [h, nq_ltS, nq_bs, il_0, il_1, iI_sub, isOut8]
  by_cases hg : 0 ≤ x ∧ x < n
  · simp (disch := omega) only [bo_t, bo_f, ↓reduceIte]
  · rw [bo_t (by omega), bo_f hg]; rfl
theorem isPlace9 {x n : Int} {M : Mem} (h : M 1 1 = iI n) (hn : 0 ≤ n ∧ n ≤ 6) (hx : inR x) : fX9_isPlace (iI x) M = some (bo (0 ≤ x ∧ x < n)) := by
  unfold fX9_isPlace
  simp (disch := omega) only [il_0, il_1, il_2, il_3, il_4, il_5, il_6, il_7, il_8, il_9, il_10, il_11, il_12, il_13, il_16, il_20, il_30, il_31, il_32, il_33, il_36, il_37, il_38, il_40, il_41, il_42, il_43, il_45, il_47, il_48, il_50, il_57, il_60, il_61, il_62, il_70, il_71, il_79, il_80, il_97, il_98, il_99, il_100, il_107, il_110, il_111, il_114, il_115, il_116, il_121, il_124, il_128, il_130, il_140, il_160, il_255, il_399, il_540, il_590, il_610, il_999, il_1000, il_1250, il_10000, il_12345, il_99999, il_1000000, il_1103515245, ll_0, ll_1, ll_2, ll_3, ll_4, ll_5, ll_6, ll_7, ll_8, ll_9, ll_30, ll_48, ll_50, ll_57, ll_99, ll_100, ll_255, ll_399, ll_999, ll_99999, iI_ag, ↓reduceIte, Nat.reduceAdd, Nat.reduceMul, Nat.reduceSub, Nat.reduceEqDiff, Int.reduceToNat, Int.toNat_natCast, Int.reduceNeg, Int.reduceAdd, Int.reduceSub, Int.reduceMul, h, nq_bs, iI_sub, iI_64, in9, bo_nz]
  exact congrArg some (bo_c (by omega))
theorem isWord8 {x n : Int} {M : Mem} (h : M 6 0 = iI n) (hn : 0 ≤ n ∧ n ≤ 80) (hx : inR x) : fX8_isWord (iI x) M = some (bo (0 ≤ x ∧ x < n)) := by
  unfold fX8_isWord
  simp (disch := omega) only [h, nq_ltS, nq_bs, il_0, il_1, iI_sub, isOut8]
  by_cases hg : 0 ≤ x ∧ x < n
  · simp (disch := omega) only [bo_t, bo_f, ↓reduceIte]
  · rw [bo_t (by omega), bo_f hg]; rfl
theorem isWord9 {x n : Int} {M : Mem} (h : M 1 2 = iI n) (hn : 0 ≤ n ∧ n ≤ 80) (hx : inR x) : fX9_isWord (iI x) M = some (bo (0 ≤ x ∧ x < n)) := by
  unfold fX9_isWord
  simp (disch := omega) only [il_0, il_1, il_2, il_3, il_4, il_5, il_6, il_7, il_8, il_9, il_10, il_11, il_12, il_13, il_16, il_20, il_30, il_31, il_32, il_33, il_36, il_37, il_38, il_40, il_41, il_42, il_43, il_45, il_47, il_48, il_50, il_57, il_60, il_61, il_62, il_70, il_71, il_79, il_80, il_97, il_98, il_99, il_100, il_107, il_110, il_111, il_114, il_115, il_116, il_121, il_124, il_128, il_130, il_140, il_160, il_255, il_399, il_540, il_590, il_610, il_999, il_1000, il_1250, il_10000, il_12345, il_99999, il_1000000, il_1103515245, ll_0, ll_1, ll_2, ll_3, ll_4, ll_5, ll_6, ll_7, ll_8, ll_9, ll_30, ll_48, ll_50, ll_57, ll_99, ll_100, ll_255, ll_399, ll_999, ll_99999, iI_ag, ↓reduceIte, Nat.reduceAdd, Nat.reduceMul, Nat.reduceSub, Nat.reduceEqDiff, Int.reduceToNat, Int.toNat_natCast, Int.reduceNeg, Int.reduceAdd, Int.reduceSub, Int.reduceMul, h, nq_bs, iI_sub, iI_64, in9, bo_nz]
  exact congrArg some (bo_c (by omega))
theorem isPact8 {x : Int} {M : Mem} (hx : inR x) : fX8_isPact (iI x) M = some (bo (0 ≤ x ∧ x < 4)) := by
  unfold fX8_isPact
  simp (disch := omega) only [il_0, il_1, il_2, il_3, il_4, il_5, il_6, il_7, il_8, il_9, il_10, il_11, il_12, il_13, il_16, il_20, il_30, il_31, il_32, il_33, il_36, il_37, il_38, il_40, il_41, il_42, il_43, il_45, il_47, il_48, il_50, il_57, il_60, il_61, il_62, il_70, il_71, il_79, il_80, il_97, il_98, il_99, il_100, il_107, il_110, il_111, il_114, il_115, il_116, il_121, il_124, il_128, il_130, il_140, il_160, il_255, il_399, il_540, il_590, il_610, il_999, il_1000, il_1250, il_10000, il_12345, il_99999, il_1000000, il_1103515245, ll_0, ll_1, ll_2, ll_3, ll_4, ll_5, ll_6, ll_7, ll_8, ll_9, ll_30, ll_48, ll_50, ll_57, ll_99, ll_100, ll_255, ll_399, ll_999, ll_99999, nq_bs, isOut8]
  by_cases hg : 0 ≤ x ∧ x < 4
  · simp (disch := omega) only [bo_t, bo_f, ↓reduceIte]
  · rw [bo_t (by omega), bo_f hg]; rfl
theorem isPact9 {x : Int} {M : Mem} (hx : inR x) : fX9_isPact (iI x) M = some (bo (0 ≤ x ∧ x < 4)) := by
  unfold fX9_isPact
  simp (disch := omega) only [il_0, il_1, il_2, il_3, il_4, il_5, il_6, il_7, il_8, il_9, il_10, il_11, il_12, il_13, il_16, il_20, il_30, il_31, il_32, il_33, il_36, il_37, il_38, il_40, il_41, il_42, il_43, il_45, il_47, il_48, il_50, il_57, il_60, il_61, il_62, il_70, il_71, il_79, il_80, il_97, il_98, il_99, il_100, il_107, il_110, il_111, il_114, il_115, il_116, il_121, il_124, il_128, il_130, il_140, il_160, il_255, il_399, il_540, il_590, il_610, il_999, il_1000, il_1250, il_10000, il_12345, il_99999, il_1000000, il_1103515245, ll_0, ll_1, ll_2, ll_3, ll_4, ll_5, ll_6, ll_7, ll_8, ll_9, ll_30, ll_48, ll_50, ll_57, ll_99, ll_100, ll_255, ll_399, ll_999, ll_99999, nq_bs, iI_64, in9, bo_nz]
  exact congrArg some (bo_c (by omega))
theorem isSheet8 {x : Int} {M : Mem} (hx : inR x) : fX8_isSheet (iI x) M = some (bo (0 ≤ x ∧ x < 4)) := by
  unfold fX8_isSheet
  simp (disch := omega) only [il_0, il_1, il_2, il_3, il_4, il_5, il_6, il_7, il_8, il_9, il_10, il_11, il_12, il_13, il_16, il_20, il_30, il_31, il_32, il_33, il_36, il_37, il_38, il_40, il_41, il_42, il_43, il_45, il_47, il_48, il_50, il_57, il_60, il_61, il_62, il_70, il_71, il_79, il_80, il_97, il_98, il_99, il_100, il_107, il_110, il_111, il_114, il_115, il_116, il_121, il_124, il_128, il_130, il_140, il_160, il_255, il_399, il_540, il_590, il_610, il_999, il_1000, il_1250, il_10000, il_12345, il_99999, il_1000000, il_1103515245, ll_0, ll_1, ll_2, ll_3, ll_4, ll_5, ll_6, ll_7, ll_8, ll_9, ll_30, ll_48, ll_50, ll_57, ll_99, ll_100, ll_255, ll_399, ll_999, ll_99999, nq_bs, isOut8]
  by_cases hg : 0 ≤ x ∧ x < 4
  · simp (disch := omega) only [bo_t, bo_f, ↓reduceIte]
  · rw [bo_t (by omega), bo_f hg]; rfl
theorem isSheet9 {x : Int} {M : Mem} (hx : inR x) : fX9_isSheet (iI x) M = some (bo (0 ≤ x ∧ x < 4)) := by
  unfold fX9_isSheet
  simp (disch := omega) only [il_0, il_1, il_2, il_3, il_4, il_5, il_6, il_7, il_8, il_9, il_10, il_11, il_12, il_13, il_16, il_20, il_30, il_31, il_32, il_33, il_36, il_37, il_38, il_40, il_41, il_42, il_43, il_45, il_47, il_48, il_50, il_57, il_60, il_61, il_62, il_70, il_71, il_79, il_80, il_97, il_98, il_99, il_100, il_107, il_110, il_111, il_114, il_115, il_116, il_121, il_124, il_128, il_130, il_140, il_160, il_255, il_399, il_540, il_590, il_610, il_999, il_1000, il_1250, il_10000, il_12345, il_99999, il_1000000, il_1103515245, ll_0, ll_1, ll_2, ll_3, ll_4, ll_5, ll_6, ll_7, ll_8, ll_9, ll_30, ll_48, ll_50, ll_57, ll_99, ll_100, ll_255, ll_399, ll_999, ll_99999, nq_bs, iI_64, in9, bo_nz]
  exact congrArg some (bo_c (by omega))
theorem areTwo8 {x y n : Int} {M : Mem} (h : M 3 0 = iI n) (hn : 0 ≤ n ∧ n ≤ 6) (hx : inR x) (hy : inR y) : fX8_areTwo (iI x) (iI y) M = some (bo (0 ≤ x ∧ x < n ∧ 0 ≤ y ∧ y < n ∧ x ≠ y)) := by
  unfold fX8_areTwo
  rw [isPlace8 h hn hx, isPlace8 h hn hy]
  simp (disch := omega) only [nq_bs, il_0, il_1, il_2, il_3, il_4, il_5, il_6, il_7, il_8, il_9, il_10, il_11, il_12, il_13, il_16, il_20, il_30, il_31, il_32, il_33, il_36, il_37, il_38, il_40, il_41, il_42, il_43, il_45, il_47, il_48, il_50, il_57, il_60, il_61, il_62, il_70, il_71, il_79, il_80, il_97, il_98, il_99, il_100, il_107, il_110, il_111, il_114, il_115, il_116, il_121, il_124, il_128, il_130, il_140, il_160, il_255, il_399, il_540, il_590, il_610, il_999, il_1000, il_1250, il_10000, il_12345, il_99999, il_1000000, il_1103515245, ll_0, ll_1, ll_2, ll_3, ll_4, ll_5, ll_6, ll_7, ll_8, ll_9, ll_30, ll_48, ll_50, ll_57, ll_99, ll_100, ll_255, ll_399, ll_999, ll_99999, bo_0, iI_eq]
  by_cases h1 : 0 ≤ x ∧ x < n
  · by_cases h2 : 0 ≤ y ∧ y < n
    · by_cases h3 : x = y
      · rw [if_neg (fun k => k h1), if_neg (fun k => k h2), if_pos h3, bo_f (by omega)]
      · rw [if_neg (fun k => k h1), if_neg (fun k => k h2), if_neg h3, bo_t (by omega)]
    · rw [if_neg (fun k => k h1), if_pos h2, bo_f (by omega)]
  · rw [if_pos h1, bo_f (by omega)]
theorem areTwo9 {x y n : Int} {M : Mem} (h : M 1 1 = iI n) (hn : 0 ≤ n ∧ n ≤ 6) (hx : inR x) (hy : inR y) : fX9_areTwo (iI x) (iI y) M = some (bo (0 ≤ x ∧ x < n ∧ 0 ≤ y ∧ y < n ∧ x ≠ y)) := by
  unfold fX9_areTwo
  rw [isPlace9 h hn hx, isPlace9 h hn hy]
  simp (disch := omega) only [nq_bs, il_0, il_1, il_2, il_3, il_4, il_5, il_6, il_7, il_8, il_9, il_10, il_11, il_12, il_13, il_16, il_20, il_30, il_31, il_32, il_33, il_36, il_37, il_38, il_40, il_41, il_42, il_43, il_45, il_47, il_48, il_50, il_57, il_60, il_61, il_62, il_70, il_71, il_79, il_80, il_97, il_98, il_99, il_100, il_107, il_110, il_111, il_114, il_115, il_116, il_121, il_124, il_128, il_130, il_140, il_160, il_255, il_399, il_540, il_590, il_610, il_999, il_1000, il_1250, il_10000, il_12345, il_99999, il_1000000, il_1103515245, ll_0, ll_1, ll_2, ll_3, ll_4, ll_5, ll_6, ll_7, ll_8, ll_9, ll_30, ll_48, ll_50, ll_57, ll_99, ll_100, ll_255, ll_399, ll_999, ll_99999, bo_0, iI_eq]
  by_cases h1 : 0 ≤ x ∧ x < n
  · by_cases h2 : 0 ≤ y ∧ y < n
    · by_cases h3 : x = y
      · rw [if_neg (fun k => k h1), if_neg (fun k => k h2), if_pos h3, bo_f (by omega)]
      · rw [if_neg (fun k => k h1), if_neg (fun k => k h2), if_neg h3, bo_t (by omega)]
    · rw [if_neg (fun k => k h1), if_pos h2, bo_f (by omega)]
  · rw [if_pos h1, bo_f (by omega)]
abbrev pairP (x n : Int) : Prop := 0 ≤ x ∧ x / 10 < n ∧ x % 10 < n ∧ x / 10 ≠ x % 10
theorem isPair8 {x n : Int} {M : Mem} (h : M 3 0 = iI n) (hn : 0 ≤ n ∧ n ≤ 6) (hx : inR x) : fX8_isPair (iI x) M = some (bo (pairP x n)) := by
  unfold fX8_isPair
  by_cases h0 : x < 0
  · simp (disch := omega) only [il_0, il_1, il_2, il_3, il_4, il_5, il_6, il_7, il_8, il_9, il_10, il_11, il_12, il_13, il_16, il_20, il_30, il_31, il_32, il_33, il_36, il_37, il_38, il_40, il_41, il_42, il_43, il_45, il_47, il_48, il_50, il_57, il_60, il_61, il_62, il_70, il_71, il_79, il_80, il_97, il_98, il_99, il_100, il_107, il_110, il_111, il_114, il_115, il_116, il_121, il_124, il_128, il_130, il_140, il_160, il_255, il_399, il_540, il_590, il_610, il_999, il_1000, il_1250, il_10000, il_12345, il_99999, il_1000000, il_1103515245, ll_0, ll_1, ll_2, ll_3, ll_4, ll_5, ll_6, ll_7, ll_8, ll_9, ll_30, ll_48, ll_50, ll_57, ll_99, ll_100, ll_255, ll_399, ll_999, ll_99999, iI_lt]
    rw [if_pos h0, bo_f (by omega)]
  · simp (disch := omega) only [il_0, il_1, il_2, il_3, il_4, il_5, il_6, il_7, il_8, il_9, il_10, il_11, il_12, il_13, il_16, il_20, il_30, il_31, il_32, il_33, il_36, il_37, il_38, il_40, il_41, il_42, il_43, il_45, il_47, il_48, il_50, il_57, il_60, il_61, il_62, il_70, il_71, il_79, il_80, il_97, il_98, il_99, il_100, il_107, il_110, il_111, il_114, il_115, il_116, il_121, il_124, il_128, il_130, il_140, il_160, il_255, il_399, il_540, il_590, il_610, il_999, il_1000, il_1250, il_10000, il_12345, il_99999, il_1000000, il_1103515245, ll_0, ll_1, ll_2, ll_3, ll_4, ll_5, ll_6, ll_7, ll_8, ll_9, ll_30, ll_48, ll_50, ll_57, ll_99, ll_100, ll_255, ll_399, ll_999, ll_99999, iI_lt, iI_dv, iI_rem, nq_bs, areTwo8 h hn]
    rw [if_neg h0]
    by_cases hg : pairP x n
    · rw [bo_t (by omega), bo_t hg]; rfl
    · rw [bo_f (by omega), bo_f hg]; rfl
theorem areFt9 {x n : Int} {M : Mem} (h : M 1 1 = iI n) (hn : 0 ≤ n ∧ n ≤ 6) (hx : inR x) : fX9_areFt (iI x) M = some (bo (pairP x n)) := by
  unfold fX9_areFt
  by_cases h0 : x < 0
  · simp (disch := omega) only [il_0, il_1, il_2, il_3, il_4, il_5, il_6, il_7, il_8, il_9, il_10, il_11, il_12, il_13, il_16, il_20, il_30, il_31, il_32, il_33, il_36, il_37, il_38, il_40, il_41, il_42, il_43, il_45, il_47, il_48, il_50, il_57, il_60, il_61, il_62, il_70, il_71, il_79, il_80, il_97, il_98, il_99, il_100, il_107, il_110, il_111, il_114, il_115, il_116, il_121, il_124, il_128, il_130, il_140, il_160, il_255, il_399, il_540, il_590, il_610, il_999, il_1000, il_1250, il_10000, il_12345, il_99999, il_1000000, il_1103515245, ll_0, ll_1, ll_2, ll_3, ll_4, ll_5, ll_6, ll_7, ll_8, ll_9, ll_30, ll_48, ll_50, ll_57, ll_99, ll_100, ll_255, ll_399, ll_999, ll_99999, iI_lt]
    rw [if_pos h0, bo_f (by omega)]
  · simp (disch := omega) only [il_0, il_1, il_2, il_3, il_4, il_5, il_6, il_7, il_8, il_9, il_10, il_11, il_12, il_13, il_16, il_20, il_30, il_31, il_32, il_33, il_36, il_37, il_38, il_40, il_41, il_42, il_43, il_45, il_47, il_48, il_50, il_57, il_60, il_61, il_62, il_70, il_71, il_79, il_80, il_97, il_98, il_99, il_100, il_107, il_110, il_111, il_114, il_115, il_116, il_121, il_124, il_128, il_130, il_140, il_160, il_255, il_399, il_540, il_590, il_610, il_999, il_1000, il_1250, il_10000, il_12345, il_99999, il_1000000, il_1103515245, ll_0, ll_1, ll_2, ll_3, ll_4, ll_5, ll_6, ll_7, ll_8, ll_9, ll_30, ll_48, ll_50, ll_57, ll_99, ll_100, ll_255, ll_399, ll_999, ll_99999, iI_lt, iI_dv, iI_rem, nq_bs, areTwo9 h hn]
    rw [if_neg h0]
    by_cases hg : pairP x n
    · rw [bo_t (by omega), bo_t hg]; rfl
    · rw [bo_f (by omega), bo_f hg]; rfl
abbrev partP (x m : Int) : Prop := 0 ≤ x ∧ 1 ≤ x % 10 ∧ x % 10 ≤ m ∧ x / 10 ≤ x % 10
theorem isPart8 {x m : Int} {M : Mem} (hx : inR x) (hm : inR m) : fX8_isPart (iI x) (iI m) M = some (bo (partP x m)) := by
  unfold fX8_isPart
  by_cases h0 : x < 0
  · simp (disch := omega) only [il_0, il_1, il_2, il_3, il_4, il_5, il_6, il_7, il_8, il_9, il_10, il_11, il_12, il_13, il_16, il_20, il_30, il_31, il_32, il_33, il_36, il_37, il_38, il_40, il_41, il_42, il_43, il_45, il_47, il_48, il_50, il_57, il_60, il_61, il_62, il_70, il_71, il_79, il_80, il_97, il_98, il_99, il_100, il_107, il_110, il_111, il_114, il_115, il_116, il_121, il_124, il_128, il_130, il_140, il_160, il_255, il_399, il_540, il_590, il_610, il_999, il_1000, il_1250, il_10000, il_12345, il_99999, il_1000000, il_1103515245, ll_0, ll_1, ll_2, ll_3, ll_4, ll_5, ll_6, ll_7, ll_8, ll_9, ll_30, ll_48, ll_50, ll_57, ll_99, ll_100, ll_255, ll_399, ll_999, ll_99999, iI_lt]
    rw [if_pos h0, bo_f (by omega)]
  · simp (disch := omega) only [il_0, il_1, il_2, il_3, il_4, il_5, il_6, il_7, il_8, il_9, il_10, il_11, il_12, il_13, il_16, il_20, il_30, il_31, il_32, il_33, il_36, il_37, il_38, il_40, il_41, il_42, il_43, il_45, il_47, il_48, il_50, il_57, il_60, il_61, il_62, il_70, il_71, il_79, il_80, il_97, il_98, il_99, il_100, il_107, il_110, il_111, il_114, il_115, il_116, il_121, il_124, il_128, il_130, il_140, il_160, il_255, il_399, il_540, il_590, il_610, il_999, il_1000, il_1250, il_10000, il_12345, il_99999, il_1000000, il_1103515245, ll_0, ll_1, ll_2, ll_3, ll_4, ll_5, ll_6, ll_7, ll_8, ll_9, ll_30, ll_48, ll_50, ll_57, ll_99, ll_100, ll_255, ll_399, ll_999, ll_99999, iI_lt, iI_dv, iI_rem, nq_bs, isOut8]
    rw [if_neg h0]
    by_cases h1 : 1 ≤ x % 10 ∧ x % 10 ≤ m
    · rw [bo_f (by omega), if_pos rfl]
      by_cases h2 : x % 10 < x / 10
      · rw [if_pos h2, bo_f (by omega)]
      · rw [if_neg h2, bo_t (by omega)]
    · rw [bo_t (by omega), bo_f (by omega)]; rfl
theorem isPart9 {x : Int} {M : Mem} (hx : inR x) : fX9_isPart (iI x) M = some (bo (partP x 9)) := by
  unfold fX9_isPart
  by_cases h0 : x < 0
  · simp (disch := omega) only [il_0, il_1, il_2, il_3, il_4, il_5, il_6, il_7, il_8, il_9, il_10, il_11, il_12, il_13, il_16, il_20, il_30, il_31, il_32, il_33, il_36, il_37, il_38, il_40, il_41, il_42, il_43, il_45, il_47, il_48, il_50, il_57, il_60, il_61, il_62, il_70, il_71, il_79, il_80, il_97, il_98, il_99, il_100, il_107, il_110, il_111, il_114, il_115, il_116, il_121, il_124, il_128, il_130, il_140, il_160, il_255, il_399, il_540, il_590, il_610, il_999, il_1000, il_1250, il_10000, il_12345, il_99999, il_1000000, il_1103515245, ll_0, ll_1, ll_2, ll_3, ll_4, ll_5, ll_6, ll_7, ll_8, ll_9, ll_30, ll_48, ll_50, ll_57, ll_99, ll_100, ll_255, ll_399, ll_999, ll_99999, iI_lt]
    rw [if_pos h0, bo_f (by omega)]
  · simp (disch := omega) only [il_0, il_1, il_2, il_3, il_4, il_5, il_6, il_7, il_8, il_9, il_10, il_11, il_12, il_13, il_16, il_20, il_30, il_31, il_32, il_33, il_36, il_37, il_38, il_40, il_41, il_42, il_43, il_45, il_47, il_48, il_50, il_57, il_60, il_61, il_62, il_70, il_71, il_79, il_80, il_97, il_98, il_99, il_100, il_107, il_110, il_111, il_114, il_115, il_116, il_121, il_124, il_128, il_130, il_140, il_160, il_255, il_399, il_540, il_590, il_610, il_999, il_1000, il_1250, il_10000, il_12345, il_99999, il_1000000, il_1103515245, ll_0, ll_1, ll_2, ll_3, ll_4, ll_5, ll_6, ll_7, ll_8, ll_9, ll_30, ll_48, ll_50, ll_57, ll_99, ll_100, ll_255, ll_399, ll_999, ll_99999, iI_lt, iI_dv, iI_rem, nq_bs, iI_64, in9]
    rw [if_neg h0]
    by_cases h1 : 1 ≤ x % 10 ∧ x % 10 ≤ 9
    · rw [bo_t (by omega), if_neg (by decide)]
      by_cases h2 : x % 10 < x / 10
      · rw [if_pos h2, bo_f (by omega)]
      · rw [if_neg h2, bo_t (by omega)]
    · rw [bo_f (by omega), bo_f (by omega)]; rfl
theorem wo9 {M : Mem} {D : Nat → Int} {w f : Int} (h0 : ∀ j, j < 1250 → M 1 j = iI (D j)) (hw : 0 ≤ w ∧ w < 80) (hf : 0 ≤ f ∧ f < 8) : fX9_wo (iI w) (iI f) M = some (iI (D (610 + 8 * w.toNat + f.toNat))) := by
  unfold fX9_wo
  simp (disch := omega) only [il_0, il_1, il_2, il_3, il_4, il_5, il_6, il_7, il_8, il_9, il_10, il_11, il_12, il_13, il_16, il_20, il_30, il_31, il_32, il_33, il_36, il_37, il_38, il_40, il_41, il_42, il_43, il_45, il_47, il_48, il_50, il_57, il_60, il_61, il_62, il_70, il_71, il_79, il_80, il_97, il_98, il_99, il_100, il_107, il_110, il_111, il_114, il_115, il_116, il_121, il_124, il_128, il_130, il_140, il_160, il_255, il_399, il_540, il_590, il_610, il_999, il_1000, il_1250, il_10000, il_12345, il_99999, il_1000000, il_1103515245, ll_0, ll_1, ll_2, ll_3, ll_4, ll_5, ll_6, ll_7, ll_8, ll_9, ll_30, ll_48, ll_50, ll_57, ll_99, ll_100, ll_255, ll_399, ll_999, ll_99999, iI_add, iI_sub, iI_mul, iI_neg, iI_ag, nq_bs]
  rw [h0 _ (by omega), show (610 + 8 * w + f).toNat = 610 + 8 * w.toNat + f.toNat by omega]
theorem row_wr {M : Mem} {D : Nat → Int} {i : Nat} {v : Int} (h0 : ∀ j, j < 1250 → M 1 j = iI (D j)) : ∀ j, j < 1250 → nq_wr M 1 i (iI v) 1 j = iI (upI D i v j) := by
  intro j hj
  by_cases e : j = i
  · rw [wr_s ⟨rfl, e⟩, upI_s e]
  · rw [wr_n (Or.inr e), upI_n e, h0 j hj]
