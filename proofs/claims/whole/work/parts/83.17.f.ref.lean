/-! 17.f: stances: the reference's way -/
def RS (D : Nat → Int) (M : Mem) (sd : Nat) (t : Int × Int) : Prop := M 6 sd = iI t.1 ∧ (t.1 = 1 → ∃ w : Nat, (w : Int) < D 2 ∧ M 7 sd = iI w ∧ t.2 = D (614 + 8 * w) + D (616 + 8 * w))
def F9 (sd : Nat) (M M' : Mem) : Prop := (∀ k, k ≠ 6 → k ≠ 7 → M' k = M k) ∧ ∀ j, j ≠ sd → M' 6 j = M 6 j ∧ M' 7 j = M 7 j
theorem F9.refl (sd : Nat) (M : Mem) : F9 sd M M := ⟨fun _ _ _ => rfl, fun _ _ => ⟨rfl, rfl⟩⟩
theorem F9.trans {sd : Nat} {M M' M'' : Mem} (h : F9 sd M M') (h' : F9 sd M' M'') : F9 sd M M'' := ⟨fun k h1 h2 => (h'.1 k h1 h2).trans (h.1 k h1 h2), fun j hj => ⟨((h'.2 j hj).1).trans (h.2 j hj).1, ((h'.2 j hj).2).trans (h.2 j hj).2⟩⟩
theorem F9.w6 {sd : Nat} {M M' : Mem} {v : Int32} (h : F9 sd M M') : F9 sd M (nq_wr M' 6 sd v) := ⟨fun k h1 h2 => by rw [wr_k h1]; exact h.1 k h1 h2, fun j hj => ⟨by rw [wr_n (Or.inr hj)]; exact (h.2 j hj).1, by rw [wr_k (by omega)]; exact (h.2 j hj).2⟩⟩
theorem F9.w7 {sd : Nat} {M M' : Mem} {v : Int32} (h : F9 sd M M') : F9 sd M (nq_wr M' 7 sd v) := ⟨fun k h1 h2 => by rw [wr_k h2]; exact h.1 k h1 h2, fun j hj => ⟨by rw [wr_k (by omega)]; exact (h.2 j hj).1, by rw [wr_n (Or.inr hj)]; exact (h.2 j hj).2⟩⟩
/-- the reference's words -/
def W9 (D : Nat → Int) (M : Mem) : Prop := (∀ j, j < 1250 → M 1 j = iI (D j)) ∧ (0 ≤ D 2 ∧ D 2 ≤ 80) ∧ ∀ w : Nat, (w : Int) < D 2 → wordOK D w
theorem F9.W9 {sd : Nat} {M M' : Mem} {D : Nat → Int} (h : F9 sd M M') (hW : W9 D M) : W9 D M' := ⟨fun j hj => by rw [h.1 1 (by omega) (by omega)]; exact hW.1 j hj, hW.2⟩
theorem over9 {M : Mem} {D : Nat → Int} {w : Nat} {Y : Int} (hW : W9 D M) (hw : (w : Int) < D 2) (hY : inR Y) : fX9_isOver (iI w) (iI Y) M = some (bo (D (614 + 8 * w) + D (616 + 8 * w) < Y)) := by
  obtain ⟨h0, w1, hk⟩ := hW
  obtain ⟨_, _, _, _, k4, _, k6, _⟩ := hk w hw
  unfold fX9_isOver
  by_cases c : D (614 + 8 * w) + D (616 + 8 * w) < Y
  · simp (disch := omega) only [il_0, il_1, il_2, il_3, il_4, il_5, il_6, il_7, il_8, il_9, il_10, il_11, il_12, il_13, il_16, il_20, il_30, il_31, il_32, il_33, il_36, il_37, il_38, il_40, il_41, il_42, il_43, il_45, il_47, il_48, il_50, il_57, il_60, il_61, il_62, il_70, il_71, il_79, il_80, il_97, il_98, il_99, il_100, il_107, il_110, il_111, il_114, il_115, il_116, il_121, il_124, il_128, il_130, il_140, il_160, il_255, il_399, il_540, il_590, il_610, il_999, il_1000, il_1250, il_10000, il_12345, il_99999, il_1000000, il_1103515245, ll_0, ll_1, ll_2, ll_3, ll_4, ll_5, ll_6, ll_7, ll_8, ll_9, ll_30, ll_48, ll_50, ll_57, ll_99, ll_100, ll_255, ll_399, ll_999, ll_99999, nq_bs, nq_ltS, nq_b2S, b2_id, bi_id, iI_add, iI_sub, iI_mul, iI_neg, lI_neg, iI_64, iI_lt, iI_le, iI_eq, iI_ag, iI_as, iI_ar, iI_dv, iI_rem, isOut8, in9, bo_nz, bo_t, bo_f, wr_s, wr_n, wr_k, if_pos, if_neg, ↓reduceIte, Nat.reduceAdd, Nat.reduceMul, Nat.reduceSub, Nat.reduceEqDiff, Int.reduceToNat, Int.toNat_natCast, Int.reduceNeg, Int.reduceAdd, Int.reduceSub, Int.reduceMul, wo9n h0]
  · simp (disch := omega) only [il_0, il_1, il_2, il_3, il_4, il_5, il_6, il_7, il_8, il_9, il_10, il_11, il_12, il_13, il_16, il_20, il_30, il_31, il_32, il_33, il_36, il_37, il_38, il_40, il_41, il_42, il_43, il_45, il_47, il_48, il_50, il_57, il_60, il_61, il_62, il_70, il_71, il_79, il_80, il_97, il_98, il_99, il_100, il_107, il_110, il_111, il_114, il_115, il_116, il_121, il_124, il_128, il_130, il_140, il_160, il_255, il_399, il_540, il_590, il_610, il_999, il_1000, il_1250, il_10000, il_12345, il_99999, il_1000000, il_1103515245, ll_0, ll_1, ll_2, ll_3, ll_4, ll_5, ll_6, ll_7, ll_8, ll_9, ll_30, ll_48, ll_50, ll_57, ll_99, ll_100, ll_255, ll_399, ll_999, ll_99999, nq_bs, nq_ltS, nq_b2S, b2_id, bi_id, iI_add, iI_sub, iI_mul, iI_neg, lI_neg, iI_64, iI_lt, iI_le, iI_eq, iI_ag, iI_as, iI_ar, iI_dv, iI_rem, isOut8, in9, bo_nz, bo_t, bo_f, wr_s, wr_n, wr_k, if_pos, if_neg, ↓reduceIte, Nat.reduceAdd, Nat.reduceMul, Nat.reduceSub, Nat.reduceEqDiff, Int.reduceToNat, Int.toNat_natCast, Int.reduceNeg, Int.reduceAdd, Int.reduceSub, Int.reduceMul, wo9n h0]
theorem ends9 {M : Mem} {D : Nat → Int} {sd : Nat} {t : Int × Int} {Y : Int} (hW : W9 D M) (hs : sd < 2) (h : RS D M sd t) (ht : SR t) (hY : inR Y) : ∃ M', fX9_ends (iI sd) (iI Y) M = some M' ∧ F9 sd M M' ∧ RS D M' sd (endS Y t) := by
  obtain ⟨r1, r2⟩ := h
  unfold SR at ht
  unfold fX9_ends endS
  by_cases g1 : t.1 = 1
  · obtain ⟨w, q1, q2, q3⟩ := r2 g1
    have ov := over9 hW q1 hY
    have w1 := hW.2.1
    by_cases g2 : t.2 < Y
    · refine ⟨nq_wr M 6 sd (iI 0), ?_, (F9.refl sd M).w6, ?_⟩
      · simp (disch := omega) only [il_0, il_1, il_2, il_3, il_4, il_5, il_6, il_7, il_8, il_9, il_10, il_11, il_12, il_13, il_16, il_20, il_30, il_31, il_32, il_33, il_36, il_37, il_38, il_40, il_41, il_42, il_43, il_45, il_47, il_48, il_50, il_57, il_60, il_61, il_62, il_70, il_71, il_79, il_80, il_97, il_98, il_99, il_100, il_107, il_110, il_111, il_114, il_115, il_116, il_121, il_124, il_128, il_130, il_140, il_160, il_255, il_399, il_540, il_590, il_610, il_999, il_1000, il_1250, il_10000, il_12345, il_99999, il_1000000, il_1103515245, ll_0, ll_1, ll_2, ll_3, ll_4, ll_5, ll_6, ll_7, ll_8, ll_9, ll_30, ll_48, ll_50, ll_57, ll_99, ll_100, ll_255, ll_399, ll_999, ll_99999, nq_bs, nq_ltS, nq_b2S, b2_id, bi_id, iI_add, iI_sub, iI_mul, iI_neg, lI_neg, iI_64, iI_lt, iI_le, iI_eq, iI_ag, iI_as, iI_ar, iI_dv, iI_rem, isOut8, in9, bo_nz, bo_t, bo_f, wr_s, wr_n, wr_k, if_pos, if_neg, ↓reduceIte, Nat.reduceAdd, Nat.reduceMul, Nat.reduceSub, Nat.reduceEqDiff, Int.reduceToNat, Int.toNat_natCast, Int.reduceNeg, Int.reduceAdd, Int.reduceSub, Int.reduceMul, r1, q2, ov]
      · rw [if_pos ⟨g1, g2⟩]
        refine ⟨by rw [wr_s ⟨rfl, rfl⟩], fun c => ?_⟩
        exact absurd c (by show ¬ (0 : Int) = 1; omega)
    · refine ⟨M, ?_, F9.refl sd M, ?_⟩
      · simp (disch := omega) only [il_0, il_1, il_2, il_3, il_4, il_5, il_6, il_7, il_8, il_9, il_10, il_11, il_12, il_13, il_16, il_20, il_30, il_31, il_32, il_33, il_36, il_37, il_38, il_40, il_41, il_42, il_43, il_45, il_47, il_48, il_50, il_57, il_60, il_61, il_62, il_70, il_71, il_79, il_80, il_97, il_98, il_99, il_100, il_107, il_110, il_111, il_114, il_115, il_116, il_121, il_124, il_128, il_130, il_140, il_160, il_255, il_399, il_540, il_590, il_610, il_999, il_1000, il_1250, il_10000, il_12345, il_99999, il_1000000, il_1103515245, ll_0, ll_1, ll_2, ll_3, ll_4, ll_5, ll_6, ll_7, ll_8, ll_9, ll_30, ll_48, ll_50, ll_57, ll_99, ll_100, ll_255, ll_399, ll_999, ll_99999, nq_bs, nq_ltS, nq_b2S, b2_id, bi_id, iI_add, iI_sub, iI_mul, iI_neg, lI_neg, iI_64, iI_lt, iI_le, iI_eq, iI_ag, iI_as, iI_ar, iI_dv, iI_rem, isOut8, in9, bo_nz, bo_t, bo_f, wr_s, wr_n, wr_k, if_pos, if_neg, ↓reduceIte, Nat.reduceAdd, Nat.reduceMul, Nat.reduceSub, Nat.reduceEqDiff, Int.reduceToNat, Int.toNat_natCast, Int.reduceNeg, Int.reduceAdd, Int.reduceSub, Int.reduceMul, r1, q2, ov]
      · rw [if_neg (fun c => g2 c.2)]; exact ⟨r1, r2⟩
  · refine ⟨M, ?_, F9.refl sd M, ?_⟩
    · simp (disch := omega) only [il_0, il_1, il_2, il_3, il_4, il_5, il_6, il_7, il_8, il_9, il_10, il_11, il_12, il_13, il_16, il_20, il_30, il_31, il_32, il_33, il_36, il_37, il_38, il_40, il_41, il_42, il_43, il_45, il_47, il_48, il_50, il_57, il_60, il_61, il_62, il_70, il_71, il_79, il_80, il_97, il_98, il_99, il_100, il_107, il_110, il_111, il_114, il_115, il_116, il_121, il_124, il_128, il_130, il_140, il_160, il_255, il_399, il_540, il_590, il_610, il_999, il_1000, il_1250, il_10000, il_12345, il_99999, il_1000000, il_1103515245, ll_0, ll_1, ll_2, ll_3, ll_4, ll_5, ll_6, ll_7, ll_8, ll_9, ll_30, ll_48, ll_50, ll_57, ll_99, ll_100, ll_255, ll_399, ll_999, ll_99999, nq_bs, nq_ltS, nq_b2S, b2_id, bi_id, iI_add, iI_sub, iI_mul, iI_neg, lI_neg, iI_64, iI_lt, iI_le, iI_eq, iI_ag, iI_as, iI_ar, iI_dv, iI_rem, isOut8, in9, bo_nz, bo_t, bo_f, wr_s, wr_n, wr_k, if_pos, if_neg, ↓reduceIte, Nat.reduceAdd, Nat.reduceMul, Nat.reduceSub, Nat.reduceEqDiff, Int.reduceToNat, Int.toNat_natCast, Int.reduceNeg, Int.reduceAdd, Int.reduceSub, Int.reduceMul, r1]
    · rw [if_neg (fun c => g1 c.1)]; exact ⟨r1, r2⟩
theorem RS.set {M : Mem} {D : Nat → Int} {sd : Nat} {t : Int × Int} {v : Int} (hv : v ≠ 1) : RS D (nq_wr M 6 sd (iI v)) sd (v, t.2) := ⟨by rw [wr_s ⟨rfl, rfl⟩], fun c => absurd c hv⟩
theorem RS.same {M : Mem} {D : Nat → Int} {sd : Nat} {t : Int × Int} (h : RS D M sd t) : RS D (nq_wr M 6 sd (iI t.1)) sd t := by
  refine ⟨by rw [wr_s ⟨rfl, rfl⟩], fun c => ?_⟩
  obtain ⟨w, q1, q2, q3⟩ := h.2 c
  exact ⟨w, q1, by rw [wr_k (by omega)]; exact q2, q3⟩
theorem comes9 {M : Mem} {D : Nat → Int} {sd w : Nat} {t : Int × Int} (hW : W9 D M) (hw : (w : Int) < D 2) (hs : sd < 2) (h : RS D M sd t) (ht : SR t) : ∃ M', fX9_comes (iI sd) (iI w) M = some M' ∧ F9 sd M M' ∧ RS D M' sd (rcv D t w) := by
  obtain ⟨h0, w1, hk⟩ := hW
  obtain ⟨k0, _⟩ := hk w hw
  have r1 := h.1
  unfold SR at ht
  unfold fX9_comes fX9_comes_L35 rcv
  by_cases g2 : D (610 + 8 * w) = 2
  · by_cases gs : t.1 = 1
    · refine ⟨nq_wr M 6 sd (iI 2), ?_, (F9.refl sd M).w6, ?_⟩
      · simp (disch := omega) only [il_0, il_1, il_2, il_3, il_4, il_5, il_6, il_7, il_8, il_9, il_10, il_11, il_12, il_13, il_16, il_20, il_30, il_31, il_32, il_33, il_36, il_37, il_38, il_40, il_41, il_42, il_43, il_45, il_47, il_48, il_50, il_57, il_60, il_61, il_62, il_70, il_71, il_79, il_80, il_97, il_98, il_99, il_100, il_107, il_110, il_111, il_114, il_115, il_116, il_121, il_124, il_128, il_130, il_140, il_160, il_255, il_399, il_540, il_590, il_610, il_999, il_1000, il_1250, il_10000, il_12345, il_99999, il_1000000, il_1103515245, ll_0, ll_1, ll_2, ll_3, ll_4, ll_5, ll_6, ll_7, ll_8, ll_9, ll_30, ll_48, ll_50, ll_57, ll_99, ll_100, ll_255, ll_399, ll_999, ll_99999, nq_bs, nq_ltS, nq_b2S, b2_id, bi_id, iI_add, iI_sub, iI_mul, iI_neg, lI_neg, iI_64, iI_lt, iI_le, iI_eq, iI_ag, iI_as, iI_ar, iI_dv, iI_rem, isOut8, in9, bo_nz, bo_t, bo_f, wr_s, wr_n, wr_k, if_pos, if_neg, ↓reduceIte, Nat.reduceAdd, Nat.reduceMul, Nat.reduceSub, Nat.reduceEqDiff, Int.reduceToNat, Int.toNat_natCast, Int.reduceNeg, Int.reduceAdd, Int.reduceSub, Int.reduceMul, r1, wo9n h0]
      · rw [if_pos ⟨g2, gs⟩]; exact RS.set (by omega)
    · refine ⟨nq_wr M 6 sd (iI t.1), ?_, (F9.refl sd M).w6, ?_⟩
      · simp (disch := omega) only [il_0, il_1, il_2, il_3, il_4, il_5, il_6, il_7, il_8, il_9, il_10, il_11, il_12, il_13, il_16, il_20, il_30, il_31, il_32, il_33, il_36, il_37, il_38, il_40, il_41, il_42, il_43, il_45, il_47, il_48, il_50, il_57, il_60, il_61, il_62, il_70, il_71, il_79, il_80, il_97, il_98, il_99, il_100, il_107, il_110, il_111, il_114, il_115, il_116, il_121, il_124, il_128, il_130, il_140, il_160, il_255, il_399, il_540, il_590, il_610, il_999, il_1000, il_1250, il_10000, il_12345, il_99999, il_1000000, il_1103515245, ll_0, ll_1, ll_2, ll_3, ll_4, ll_5, ll_6, ll_7, ll_8, ll_9, ll_30, ll_48, ll_50, ll_57, ll_99, ll_100, ll_255, ll_399, ll_999, ll_99999, nq_bs, nq_ltS, nq_b2S, b2_id, bi_id, iI_add, iI_sub, iI_mul, iI_neg, lI_neg, iI_64, iI_lt, iI_le, iI_eq, iI_ag, iI_as, iI_ar, iI_dv, iI_rem, isOut8, in9, bo_nz, bo_t, bo_f, wr_s, wr_n, wr_k, if_pos, if_neg, ↓reduceIte, Nat.reduceAdd, Nat.reduceMul, Nat.reduceSub, Nat.reduceEqDiff, Int.reduceToNat, Int.toNat_natCast, Int.reduceNeg, Int.reduceAdd, Int.reduceSub, Int.reduceMul, r1, wo9n h0]
      · rw [if_neg (fun c => gs c.2), if_neg (by omega)]; exact h.same
  · by_cases g4 : D (610 + 8 * w) = 4
    · by_cases gs : t.1 = 1
      · refine ⟨nq_wr M 6 sd (iI 0), ?_, (F9.refl sd M).w6, ?_⟩
        · simp (disch := omega) only [il_0, il_1, il_2, il_3, il_4, il_5, il_6, il_7, il_8, il_9, il_10, il_11, il_12, il_13, il_16, il_20, il_30, il_31, il_32, il_33, il_36, il_37, il_38, il_40, il_41, il_42, il_43, il_45, il_47, il_48, il_50, il_57, il_60, il_61, il_62, il_70, il_71, il_79, il_80, il_97, il_98, il_99, il_100, il_107, il_110, il_111, il_114, il_115, il_116, il_121, il_124, il_128, il_130, il_140, il_160, il_255, il_399, il_540, il_590, il_610, il_999, il_1000, il_1250, il_10000, il_12345, il_99999, il_1000000, il_1103515245, ll_0, ll_1, ll_2, ll_3, ll_4, ll_5, ll_6, ll_7, ll_8, ll_9, ll_30, ll_48, ll_50, ll_57, ll_99, ll_100, ll_255, ll_399, ll_999, ll_99999, nq_bs, nq_ltS, nq_b2S, b2_id, bi_id, iI_add, iI_sub, iI_mul, iI_neg, lI_neg, iI_64, iI_lt, iI_le, iI_eq, iI_ag, iI_as, iI_ar, iI_dv, iI_rem, isOut8, in9, bo_nz, bo_t, bo_f, wr_s, wr_n, wr_k, if_pos, if_neg, ↓reduceIte, Nat.reduceAdd, Nat.reduceMul, Nat.reduceSub, Nat.reduceEqDiff, Int.reduceToNat, Int.toNat_natCast, Int.reduceNeg, Int.reduceAdd, Int.reduceSub, Int.reduceMul, r1, wo9n h0]
        · rw [if_neg (fun c => g2 c.1), if_pos ⟨g4, Or.inl gs⟩]; exact RS.set (by omega)
      · by_cases gs2 : t.1 = 2
        · refine ⟨nq_wr M 6 sd (iI 0), ?_, (F9.refl sd M).w6, ?_⟩
          · simp (disch := omega) only [il_0, il_1, il_2, il_3, il_4, il_5, il_6, il_7, il_8, il_9, il_10, il_11, il_12, il_13, il_16, il_20, il_30, il_31, il_32, il_33, il_36, il_37, il_38, il_40, il_41, il_42, il_43, il_45, il_47, il_48, il_50, il_57, il_60, il_61, il_62, il_70, il_71, il_79, il_80, il_97, il_98, il_99, il_100, il_107, il_110, il_111, il_114, il_115, il_116, il_121, il_124, il_128, il_130, il_140, il_160, il_255, il_399, il_540, il_590, il_610, il_999, il_1000, il_1250, il_10000, il_12345, il_99999, il_1000000, il_1103515245, ll_0, ll_1, ll_2, ll_3, ll_4, ll_5, ll_6, ll_7, ll_8, ll_9, ll_30, ll_48, ll_50, ll_57, ll_99, ll_100, ll_255, ll_399, ll_999, ll_99999, nq_bs, nq_ltS, nq_b2S, b2_id, bi_id, iI_add, iI_sub, iI_mul, iI_neg, lI_neg, iI_64, iI_lt, iI_le, iI_eq, iI_ag, iI_as, iI_ar, iI_dv, iI_rem, isOut8, in9, bo_nz, bo_t, bo_f, wr_s, wr_n, wr_k, if_pos, if_neg, ↓reduceIte, Nat.reduceAdd, Nat.reduceMul, Nat.reduceSub, Nat.reduceEqDiff, Int.reduceToNat, Int.toNat_natCast, Int.reduceNeg, Int.reduceAdd, Int.reduceSub, Int.reduceMul, r1, wo9n h0]
          · rw [if_neg (fun c => g2 c.1), if_pos ⟨g4, Or.inr gs2⟩]; exact RS.set (by omega)
        · refine ⟨nq_wr M 6 sd (iI t.1), ?_, (F9.refl sd M).w6, ?_⟩
          · simp (disch := omega) only [il_0, il_1, il_2, il_3, il_4, il_5, il_6, il_7, il_8, il_9, il_10, il_11, il_12, il_13, il_16, il_20, il_30, il_31, il_32, il_33, il_36, il_37, il_38, il_40, il_41, il_42, il_43, il_45, il_47, il_48, il_50, il_57, il_60, il_61, il_62, il_70, il_71, il_79, il_80, il_97, il_98, il_99, il_100, il_107, il_110, il_111, il_114, il_115, il_116, il_121, il_124, il_128, il_130, il_140, il_160, il_255, il_399, il_540, il_590, il_610, il_999, il_1000, il_1250, il_10000, il_12345, il_99999, il_1000000, il_1103515245, ll_0, ll_1, ll_2, ll_3, ll_4, ll_5, ll_6, ll_7, ll_8, ll_9, ll_30, ll_48, ll_50, ll_57, ll_99, ll_100, ll_255, ll_399, ll_999, ll_99999, nq_bs, nq_ltS, nq_b2S, b2_id, bi_id, iI_add, iI_sub, iI_mul, iI_neg, lI_neg, iI_64, iI_lt, iI_le, iI_eq, iI_ag, iI_as, iI_ar, iI_dv, iI_rem, isOut8, in9, bo_nz, bo_t, bo_f, wr_s, wr_n, wr_k, if_pos, if_neg, ↓reduceIte, Nat.reduceAdd, Nat.reduceMul, Nat.reduceSub, Nat.reduceEqDiff, Int.reduceToNat, Int.toNat_natCast, Int.reduceNeg, Int.reduceAdd, Int.reduceSub, Int.reduceMul, r1, wo9n h0]
          · rw [if_neg (fun c => g2 c.1), if_neg (by omega)]; exact h.same
    · refine ⟨nq_wr M 6 sd (iI t.1), ?_, (F9.refl sd M).w6, ?_⟩
      · simp (disch := omega) only [il_0, il_1, il_2, il_3, il_4, il_5, il_6, il_7, il_8, il_9, il_10, il_11, il_12, il_13, il_16, il_20, il_30, il_31, il_32, il_33, il_36, il_37, il_38, il_40, il_41, il_42, il_43, il_45, il_47, il_48, il_50, il_57, il_60, il_61, il_62, il_70, il_71, il_79, il_80, il_97, il_98, il_99, il_100, il_107, il_110, il_111, il_114, il_115, il_116, il_121, il_124, il_128, il_130, il_140, il_160, il_255, il_399, il_540, il_590, il_610, il_999, il_1000, il_1250, il_10000, il_12345, il_99999, il_1000000, il_1103515245, ll_0, ll_1, ll_2, ll_3, ll_4, ll_5, ll_6, ll_7, ll_8, ll_9, ll_30, ll_48, ll_50, ll_57, ll_99, ll_100, ll_255, ll_399, ll_999, ll_99999, nq_bs, nq_ltS, nq_b2S, b2_id, bi_id, iI_add, iI_sub, iI_mul, iI_neg, lI_neg, iI_64, iI_lt, iI_le, iI_eq, iI_ag, iI_as, iI_ar, iI_dv, iI_rem, isOut8, in9, bo_nz, bo_t, bo_f, wr_s, wr_n, wr_k, if_pos, if_neg, ↓reduceIte, Nat.reduceAdd, Nat.reduceMul, Nat.reduceSub, Nat.reduceEqDiff, Int.reduceToNat, Int.toNat_natCast, Int.reduceNeg, Int.reduceAdd, Int.reduceSub, Int.reduceMul, r1, wo9n h0]
      · rw [if_neg (fun c => g2 c.1), if_neg (fun c => g4 c.1)]; exact h.same
theorem off_ge {D : Nat → Int} {Y j : Int} : ∀ (l : List Nat) (a : Int), Y ≤ l.foldl (offG D j) a ↔ (Y ≤ a ∨ ∃ w, w ∈ l ∧ ((D (610 + 8 * w) = 1 ∨ D (610 + 8 * w) = 2) ∧ D (611 + 8 * w) = j) ∧ Y ≤ D (614 + 8 * w) + D (616 + 8 * w)) := by
  intro l
  induction l with
  | nil => intro a; simp
  | cons v l ih =>
    intro a
    rw [List.foldl_cons, ih]
    unfold offG
    constructor
    · rintro (h | ⟨w, h1, h2⟩)
      · split at h
        · rename_i c
          split at h
          · right; exact ⟨v, by simp, c, h⟩
          · left; exact h
        · left; exact h
      · right; exact ⟨w, by simp [h1], h2⟩
    · rintro (h | ⟨w, h1, h2, h3⟩)
      · left
        split
        · split <;> omega
        · exact h
      · rcases List.mem_cons.mp h1 with e | h1
        · subst e
          left
          rw [if_pos h2]
          split <;> omega
        · right; exact ⟨w, h1, h2, h3⟩
def ansB (D : Nat → Int) (x pc j Y : Int) (w : Nat) : Bool := decide ((D (610 + 8 * w) = 1 ∨ D (610 + 8 * w) = 2) ∧ D (611 + 8 * w) = j ∧ (D (612 + 8 * w) = x ∧ D (613 + 8 * w) = pc ∧ 0 ≤ D (615 + 8 * w) ∧ D (615 + 8 * w) ≤ Y) ∧ Y ≤ D (614 + 8 * w) + D (616 + 8 * w))
theorem ans_iff {D : Nat → Int} {x pc j : Int} {Y : Nat} : (Y : Int) ≤ (((arrU D (Y + 1)).filter (qF D x pc)).foldl (offG D j) (-1)) ↔ (List.range (D 2).toNat).any (ansB D x pc j Y) = true := by
  rw [off_ge, List.any_eq_true]
  constructor
  · rintro (h | ⟨w, h1, h2, h3⟩)
    · omega
    · obtain ⟨m1, m2⟩ := List.mem_filter.mp h1
      have := arrU_mem.mp m1
      unfold qF at m2
      rw [decide_eq_true_eq] at m2
      refine ⟨w, List.mem_range.mpr this.1, ?_⟩
      unfold ansB
      rw [decide_eq_true_eq]
      exact ⟨h2.1, h2.2, ⟨m2.1, m2.2, this.2.1, by omega⟩, h3⟩
  · rintro ⟨w, h1, h2⟩
    unfold ansB at h2
    rw [decide_eq_true_eq] at h2
    obtain ⟨a, b, ⟨c1, c2, c3, c4⟩, d⟩ := h2
    right
    refine ⟨w, List.mem_filter.mpr ⟨arrU_mem.mpr ⟨List.mem_range.mp h1, c3, by omega⟩, ?_⟩, ⟨a, b⟩, d⟩
    unfold qF; rw [decide_eq_true_eq]; exact ⟨c1, c2⟩
theorem any_fold {q : Nat → Bool} : ∀ (l : List Nat) (b : Bool), l.foldl (fun b w => b || q w) b = (b || l.any q) := by
  intro l
  induction l with
  | nil => intro b; simp
  | cons w l ih => intro b; rw [List.foldl_cons, ih, List.any_cons, Bool.or_assoc]
theorem answer9 {M : Mem} {D : Nat → Int} {w Y : Nat} (hW : W9 D M) (hw : (w : Int) < D 2) (hY : Y < 1000) : fX9_isAnswer (iI w) (iI Y) M = some (bo ((Y : Int) ≤ offT D (D (611 + 8 * w)) (D (613 + 8 * w)) (Y + 1) (D (612 + 8 * w)).toNat)) := by
  have hW' := hW
  obtain ⟨h0, w1, hk⟩ := hW'
  obtain ⟨_, q1, q2, q3, _⟩ := hk w hw
  have e := (lp_fold (body := fun s : Int32 × Int32 => fX9_isAnswer_B5 (iI w) (iI Y) s.1 s.2 M) (fun k (b : Bool) => (iI (if b = true then 1 else 0), iI k)) (fun b => iI (if b = true then 1 else 0)) (fun b v => b || ansB D (D (611 + 8 * w)) (D (613 + 8 * w)) (D (612 + 8 * w)) Y v) (D 2).toNat (fun _ _ => True) (by omega)
    (by
      intro k b hkk _
      refine ⟨?_, trivial⟩
      have ok := hk k (by omega)
      have ok' := ok
      obtain ⟨k0, k1, _, _, k4, _, k6, _⟩ := ok'
      have hc := hasCome9 h0 (show k < 80 by omega) ok (x := D (611 + 8 * w)) (y := D (613 + 8 * w)) (Y := (Y : Int)) (by omega) (by omega) (by omega)
      have ov := over9 hW (w := k) (Y := (Y : Int)) (by omega) (by omega)
      have isf : fX9_isOf (iI (D (610 + 8 * k))) (iI 1) M = some (bo (D (610 + 8 * k) = 1 ∨ D (610 + 8 * k) = 2)) := by
        rw [isOf9 k0 (by omega)]
        exact congrArg some (bo_c (by omega))
      show fX9_isAnswer_B5 (iI w) (iI Y) (iI (if b = true then 1 else 0)) (iI k) M = _
      unfold fX9_isAnswer_B5 fX9_isAnswer_L72_5 fX9_isAnswer_L73_5
      cases b with
      | true =>
        simp only [if_true, Bool.true_or]
        by_cases g1 : D (610 + 8 * k) = 1 ∨ D (610 + 8 * k) = 2
        · by_cases g2 : D (611 + 8 * k) = D (612 + 8 * w)
          · by_cases g3 : D (612 + 8 * k) = D (611 + 8 * w) ∧ D (613 + 8 * k) = D (613 + 8 * w) ∧ 0 ≤ D (615 + 8 * k) ∧ D (615 + 8 * k) ≤ Y
            · simp (disch := omega) only [il_0, il_1, il_2, il_3, il_4, il_5, il_6, il_7, il_8, il_9, il_10, il_11, il_12, il_13, il_16, il_20, il_30, il_31, il_32, il_33, il_36, il_37, il_38, il_40, il_41, il_42, il_43, il_45, il_47, il_48, il_50, il_57, il_60, il_61, il_62, il_70, il_71, il_79, il_80, il_97, il_98, il_99, il_100, il_107, il_110, il_111, il_114, il_115, il_116, il_121, il_124, il_128, il_130, il_140, il_160, il_255, il_399, il_540, il_590, il_610, il_999, il_1000, il_1250, il_10000, il_12345, il_99999, il_1000000, il_1103515245, ll_0, ll_1, ll_2, ll_3, ll_4, ll_5, ll_6, ll_7, ll_8, ll_9, ll_30, ll_48, ll_50, ll_57, ll_99, ll_100, ll_255, ll_399, ll_999, ll_99999, nq_bs, nq_ltS, nq_b2S, b2_id, bi_id, iI_add, iI_sub, iI_mul, iI_neg, lI_neg, iI_64, iI_lt, iI_le, iI_eq, iI_ag, iI_as, iI_ar, iI_dv, iI_rem, isOut8, in9, bo_nz, bo_t, bo_f, wr_s, wr_n, wr_k, if_pos, if_neg, ↓reduceIte, Nat.reduceAdd, Nat.reduceMul, Nat.reduceSub, Nat.reduceEqDiff, Int.reduceToNat, Int.toNat_natCast, Int.reduceNeg, Int.reduceAdd, Int.reduceSub, Int.reduceMul, h0, wo9n h0, isf, hc]; rfl
            · simp (disch := omega) only [il_0, il_1, il_2, il_3, il_4, il_5, il_6, il_7, il_8, il_9, il_10, il_11, il_12, il_13, il_16, il_20, il_30, il_31, il_32, il_33, il_36, il_37, il_38, il_40, il_41, il_42, il_43, il_45, il_47, il_48, il_50, il_57, il_60, il_61, il_62, il_70, il_71, il_79, il_80, il_97, il_98, il_99, il_100, il_107, il_110, il_111, il_114, il_115, il_116, il_121, il_124, il_128, il_130, il_140, il_160, il_255, il_399, il_540, il_590, il_610, il_999, il_1000, il_1250, il_10000, il_12345, il_99999, il_1000000, il_1103515245, ll_0, ll_1, ll_2, ll_3, ll_4, ll_5, ll_6, ll_7, ll_8, ll_9, ll_30, ll_48, ll_50, ll_57, ll_99, ll_100, ll_255, ll_399, ll_999, ll_99999, nq_bs, nq_ltS, nq_b2S, b2_id, bi_id, iI_add, iI_sub, iI_mul, iI_neg, lI_neg, iI_64, iI_lt, iI_le, iI_eq, iI_ag, iI_as, iI_ar, iI_dv, iI_rem, isOut8, in9, bo_nz, bo_t, bo_f, wr_s, wr_n, wr_k, if_pos, if_neg, ↓reduceIte, Nat.reduceAdd, Nat.reduceMul, Nat.reduceSub, Nat.reduceEqDiff, Int.reduceToNat, Int.toNat_natCast, Int.reduceNeg, Int.reduceAdd, Int.reduceSub, Int.reduceMul, h0, wo9n h0, isf, hc]; rfl
          · simp (disch := omega) only [il_0, il_1, il_2, il_3, il_4, il_5, il_6, il_7, il_8, il_9, il_10, il_11, il_12, il_13, il_16, il_20, il_30, il_31, il_32, il_33, il_36, il_37, il_38, il_40, il_41, il_42, il_43, il_45, il_47, il_48, il_50, il_57, il_60, il_61, il_62, il_70, il_71, il_79, il_80, il_97, il_98, il_99, il_100, il_107, il_110, il_111, il_114, il_115, il_116, il_121, il_124, il_128, il_130, il_140, il_160, il_255, il_399, il_540, il_590, il_610, il_999, il_1000, il_1250, il_10000, il_12345, il_99999, il_1000000, il_1103515245, ll_0, ll_1, ll_2, ll_3, ll_4, ll_5, ll_6, ll_7, ll_8, ll_9, ll_30, ll_48, ll_50, ll_57, ll_99, ll_100, ll_255, ll_399, ll_999, ll_99999, nq_bs, nq_ltS, nq_b2S, b2_id, bi_id, iI_add, iI_sub, iI_mul, iI_neg, lI_neg, iI_64, iI_lt, iI_le, iI_eq, iI_ag, iI_as, iI_ar, iI_dv, iI_rem, isOut8, in9, bo_nz, bo_t, bo_f, wr_s, wr_n, wr_k, if_pos, if_neg, ↓reduceIte, Nat.reduceAdd, Nat.reduceMul, Nat.reduceSub, Nat.reduceEqDiff, Int.reduceToNat, Int.toNat_natCast, Int.reduceNeg, Int.reduceAdd, Int.reduceSub, Int.reduceMul, h0, wo9n h0, isf]; rfl
        · simp (disch := omega) only [il_0, il_1, il_2, il_3, il_4, il_5, il_6, il_7, il_8, il_9, il_10, il_11, il_12, il_13, il_16, il_20, il_30, il_31, il_32, il_33, il_36, il_37, il_38, il_40, il_41, il_42, il_43, il_45, il_47, il_48, il_50, il_57, il_60, il_61, il_62, il_70, il_71, il_79, il_80, il_97, il_98, il_99, il_100, il_107, il_110, il_111, il_114, il_115, il_116, il_121, il_124, il_128, il_130, il_140, il_160, il_255, il_399, il_540, il_590, il_610, il_999, il_1000, il_1250, il_10000, il_12345, il_99999, il_1000000, il_1103515245, ll_0, ll_1, ll_2, ll_3, ll_4, ll_5, ll_6, ll_7, ll_8, ll_9, ll_30, ll_48, ll_50, ll_57, ll_99, ll_100, ll_255, ll_399, ll_999, ll_99999, nq_bs, nq_ltS, nq_b2S, b2_id, bi_id, iI_add, iI_sub, iI_mul, iI_neg, lI_neg, iI_64, iI_lt, iI_le, iI_eq, iI_ag, iI_as, iI_ar, iI_dv, iI_rem, isOut8, in9, bo_nz, bo_t, bo_f, wr_s, wr_n, wr_k, if_pos, if_neg, ↓reduceIte, Nat.reduceAdd, Nat.reduceMul, Nat.reduceSub, Nat.reduceEqDiff, Int.reduceToNat, Int.toNat_natCast, Int.reduceNeg, Int.reduceAdd, Int.reduceSub, Int.reduceMul, h0, wo9n h0, isf]; rfl
      | false =>
        simp only [Bool.false_or]
        unfold ansB
        simp only [decide_eq_true_eq, Bool.false_eq_true, if_false]
        by_cases g1 : D (610 + 8 * k) = 1 ∨ D (610 + 8 * k) = 2
        · by_cases g2 : D (611 + 8 * k) = D (612 + 8 * w)
          · by_cases g3 : D (612 + 8 * k) = D (611 + 8 * w) ∧ D (613 + 8 * k) = D (613 + 8 * w) ∧ 0 ≤ D (615 + 8 * k) ∧ D (615 + 8 * k) ≤ Y
            · by_cases g4 : D (614 + 8 * k) + D (616 + 8 * k) < Y
              · simp (disch := omega) only [il_0, il_1, il_2, il_3, il_4, il_5, il_6, il_7, il_8, il_9, il_10, il_11, il_12, il_13, il_16, il_20, il_30, il_31, il_32, il_33, il_36, il_37, il_38, il_40, il_41, il_42, il_43, il_45, il_47, il_48, il_50, il_57, il_60, il_61, il_62, il_70, il_71, il_79, il_80, il_97, il_98, il_99, il_100, il_107, il_110, il_111, il_114, il_115, il_116, il_121, il_124, il_128, il_130, il_140, il_160, il_255, il_399, il_540, il_590, il_610, il_999, il_1000, il_1250, il_10000, il_12345, il_99999, il_1000000, il_1103515245, ll_0, ll_1, ll_2, ll_3, ll_4, ll_5, ll_6, ll_7, ll_8, ll_9, ll_30, ll_48, ll_50, ll_57, ll_99, ll_100, ll_255, ll_399, ll_999, ll_99999, nq_bs, nq_ltS, nq_b2S, b2_id, bi_id, iI_add, iI_sub, iI_mul, iI_neg, lI_neg, iI_64, iI_lt, iI_le, iI_eq, iI_ag, iI_as, iI_ar, iI_dv, iI_rem, isOut8, in9, bo_nz, bo_t, bo_f, wr_s, wr_n, wr_k, if_pos, if_neg, ↓reduceIte, Nat.reduceAdd, Nat.reduceMul, Nat.reduceSub, Nat.reduceEqDiff, Int.reduceToNat, Int.toNat_natCast, Int.reduceNeg, Int.reduceAdd, Int.reduceSub, Int.reduceMul, h0, wo9n h0, isf, hc, ov]; rfl
              · simp (disch := omega) only [il_0, il_1, il_2, il_3, il_4, il_5, il_6, il_7, il_8, il_9, il_10, il_11, il_12, il_13, il_16, il_20, il_30, il_31, il_32, il_33, il_36, il_37, il_38, il_40, il_41, il_42, il_43, il_45, il_47, il_48, il_50, il_57, il_60, il_61, il_62, il_70, il_71, il_79, il_80, il_97, il_98, il_99, il_100, il_107, il_110, il_111, il_114, il_115, il_116, il_121, il_124, il_128, il_130, il_140, il_160, il_255, il_399, il_540, il_590, il_610, il_999, il_1000, il_1250, il_10000, il_12345, il_99999, il_1000000, il_1103515245, ll_0, ll_1, ll_2, ll_3, ll_4, ll_5, ll_6, ll_7, ll_8, ll_9, ll_30, ll_48, ll_50, ll_57, ll_99, ll_100, ll_255, ll_399, ll_999, ll_99999, nq_bs, nq_ltS, nq_b2S, b2_id, bi_id, iI_add, iI_sub, iI_mul, iI_neg, lI_neg, iI_64, iI_lt, iI_le, iI_eq, iI_ag, iI_as, iI_ar, iI_dv, iI_rem, isOut8, in9, bo_nz, bo_t, bo_f, wr_s, wr_n, wr_k, if_pos, if_neg, ↓reduceIte, Nat.reduceAdd, Nat.reduceMul, Nat.reduceSub, Nat.reduceEqDiff, Int.reduceToNat, Int.toNat_natCast, Int.reduceNeg, Int.reduceAdd, Int.reduceSub, Int.reduceMul, h0, wo9n h0, isf, hc, ov]; rfl
            · simp (disch := omega) only [il_0, il_1, il_2, il_3, il_4, il_5, il_6, il_7, il_8, il_9, il_10, il_11, il_12, il_13, il_16, il_20, il_30, il_31, il_32, il_33, il_36, il_37, il_38, il_40, il_41, il_42, il_43, il_45, il_47, il_48, il_50, il_57, il_60, il_61, il_62, il_70, il_71, il_79, il_80, il_97, il_98, il_99, il_100, il_107, il_110, il_111, il_114, il_115, il_116, il_121, il_124, il_128, il_130, il_140, il_160, il_255, il_399, il_540, il_590, il_610, il_999, il_1000, il_1250, il_10000, il_12345, il_99999, il_1000000, il_1103515245, ll_0, ll_1, ll_2, ll_3, ll_4, ll_5, ll_6, ll_7, ll_8, ll_9, ll_30, ll_48, ll_50, ll_57, ll_99, ll_100, ll_255, ll_399, ll_999, ll_99999, nq_bs, nq_ltS, nq_b2S, b2_id, bi_id, iI_add, iI_sub, iI_mul, iI_neg, lI_neg, iI_64, iI_lt, iI_le, iI_eq, iI_ag, iI_as, iI_ar, iI_dv, iI_rem, isOut8, in9, bo_nz, bo_t, bo_f, wr_s, wr_n, wr_k, if_pos, if_neg, ↓reduceIte, Nat.reduceAdd, Nat.reduceMul, Nat.reduceSub, Nat.reduceEqDiff, Int.reduceToNat, Int.toNat_natCast, Int.reduceNeg, Int.reduceAdd, Int.reduceSub, Int.reduceMul, h0, wo9n h0, isf, hc]; rfl
          · simp (disch := omega) only [il_0, il_1, il_2, il_3, il_4, il_5, il_6, il_7, il_8, il_9, il_10, il_11, il_12, il_13, il_16, il_20, il_30, il_31, il_32, il_33, il_36, il_37, il_38, il_40, il_41, il_42, il_43, il_45, il_47, il_48, il_50, il_57, il_60, il_61, il_62, il_70, il_71, il_79, il_80, il_97, il_98, il_99, il_100, il_107, il_110, il_111, il_114, il_115, il_116, il_121, il_124, il_128, il_130, il_140, il_160, il_255, il_399, il_540, il_590, il_610, il_999, il_1000, il_1250, il_10000, il_12345, il_99999, il_1000000, il_1103515245, ll_0, ll_1, ll_2, ll_3, ll_4, ll_5, ll_6, ll_7, ll_8, ll_9, ll_30, ll_48, ll_50, ll_57, ll_99, ll_100, ll_255, ll_399, ll_999, ll_99999, nq_bs, nq_ltS, nq_b2S, b2_id, bi_id, iI_add, iI_sub, iI_mul, iI_neg, lI_neg, iI_64, iI_lt, iI_le, iI_eq, iI_ag, iI_as, iI_ar, iI_dv, iI_rem, isOut8, in9, bo_nz, bo_t, bo_f, wr_s, wr_n, wr_k, if_pos, if_neg, ↓reduceIte, Nat.reduceAdd, Nat.reduceMul, Nat.reduceSub, Nat.reduceEqDiff, Int.reduceToNat, Int.toNat_natCast, Int.reduceNeg, Int.reduceAdd, Int.reduceSub, Int.reduceMul, h0, wo9n h0, isf]; rfl
        · simp (disch := omega) only [il_0, il_1, il_2, il_3, il_4, il_5, il_6, il_7, il_8, il_9, il_10, il_11, il_12, il_13, il_16, il_20, il_30, il_31, il_32, il_33, il_36, il_37, il_38, il_40, il_41, il_42, il_43, il_45, il_47, il_48, il_50, il_57, il_60, il_61, il_62, il_70, il_71, il_79, il_80, il_97, il_98, il_99, il_100, il_107, il_110, il_111, il_114, il_115, il_116, il_121, il_124, il_128, il_130, il_140, il_160, il_255, il_399, il_540, il_590, il_610, il_999, il_1000, il_1250, il_10000, il_12345, il_99999, il_1000000, il_1103515245, ll_0, ll_1, ll_2, ll_3, ll_4, ll_5, ll_6, ll_7, ll_8, ll_9, ll_30, ll_48, ll_50, ll_57, ll_99, ll_100, ll_255, ll_399, ll_999, ll_99999, nq_bs, nq_ltS, nq_b2S, b2_id, bi_id, iI_add, iI_sub, iI_mul, iI_neg, lI_neg, iI_64, iI_lt, iI_le, iI_eq, iI_ag, iI_as, iI_ar, iI_dv, iI_rem, isOut8, in9, bo_nz, bo_t, bo_f, wr_s, wr_n, wr_k, if_pos, if_neg, ↓reduceIte, Nat.reduceAdd, Nat.reduceMul, Nat.reduceSub, Nat.reduceEqDiff, Int.reduceToNat, Int.toNat_natCast, Int.reduceNeg, Int.reduceAdd, Int.reduceSub, Int.reduceMul, h0, wo9n h0, isf]; rfl)
    (by
      intro b _
      show fX9_isAnswer_B5 (iI w) (iI Y) _ (iI ((D 2).toNat : Nat)) M = _
      unfold fX9_isAnswer_B5
      simp (disch := omega) only [il_0, il_1, il_2, il_3, il_4, il_5, il_6, il_7, il_8, il_9, il_10, il_11, il_12, il_13, il_16, il_20, il_30, il_31, il_32, il_33, il_36, il_37, il_38, il_40, il_41, il_42, il_43, il_45, il_47, il_48, il_50, il_57, il_60, il_61, il_62, il_70, il_71, il_79, il_80, il_97, il_98, il_99, il_100, il_107, il_110, il_111, il_114, il_115, il_116, il_121, il_124, il_128, il_130, il_140, il_160, il_255, il_399, il_540, il_590, il_610, il_999, il_1000, il_1250, il_10000, il_12345, il_99999, il_1000000, il_1103515245, ll_0, ll_1, ll_2, ll_3, ll_4, ll_5, ll_6, ll_7, ll_8, ll_9, ll_30, ll_48, ll_50, ll_57, ll_99, ll_100, ll_255, ll_399, ll_999, ll_99999, nq_bs, nq_ltS, nq_b2S, b2_id, bi_id, iI_add, iI_sub, iI_mul, iI_neg, lI_neg, iI_64, iI_lt, iI_le, iI_eq, iI_ag, iI_as, iI_ar, iI_dv, iI_rem, isOut8, in9, bo_nz, bo_t, bo_f, wr_s, wr_n, wr_k, if_pos, if_neg, ↓reduceIte, Nat.reduceAdd, Nat.reduceMul, Nat.reduceSub, Nat.reduceEqDiff, Int.reduceToNat, Int.toNat_natCast, Int.reduceNeg, Int.reduceAdd, Int.reduceSub, Int.reduceMul, h0]) false trivial).1
  rw [any_fold, Bool.false_or] at e
  unfold fX9_isAnswer fX9_isAnswer_L5 fX9_isAnswer_L106
  rw [show ((0 : Int32), (0 : Int32)) = (iI (if false = true then 1 else 0), iI ((0 : Nat) : Int)) from rfl, e, nq_bs]
  have hj : (((D (612 + 8 * w)).toNat : Nat) : Int) = D (612 + 8 * w) := by omega
  have key : ((Y : Int) ≤ offT D (D (611 + 8 * w)) (D (613 + 8 * w)) (Y + 1) (D (612 + 8 * w)).toNat) ↔ (List.range (D 2).toNat).any (ansB D (D (611 + 8 * w)) (D (613 + 8 * w)) (D (612 + 8 * w)) Y) = true := by
    unfold offT
    rw [hj]; exact ans_iff
  by_cases c : (List.range (D 2).toNat).any (ansB D (D (611 + 8 * w)) (D (613 + 8 * w)) (D (612 + 8 * w)) Y) = true
  · rw [bo_t (key.mpr c), c]; rfl
  · rw [bo_f (fun k => c (key.mp k)), if_neg c]; rfl
