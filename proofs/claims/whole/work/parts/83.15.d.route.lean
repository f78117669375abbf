/-! 15.d: routes -/
def NN (w : Nat → Nat) (i j : Nat) : Nat := LL w i j % 10
abbrev Tgt (w : Nat → Nat) (t a b : Nat) : Prop := 0 < w (a * 6 + b) ∧ w (a * 6 + b) + YY w b t = YY w a t
theorem tgt_n {w : Nat → Nat} (hw : ∀ j, j < 36 → w j ≤ 30) (hd : ∀ a, a < 6 → w (a * 6 + a) = 0) {t a b : Nat} (ht : t < 6) (ha : a < 6) (hb : b < 6) (hr : YY w a t < 10000) (h : Tgt w t a b) : NN w a t ≤ NN w b t + 1 ∧ YY w b t < 10000 ∧ b ≠ a := by
  obtain ⟨h1, h2⟩ := h
  have hne : b ≠ a := by
    rintro rfl
    have := hd b hb; omega
  have e := fw_b (ml0_d (w := w)) ha ht hb
  rw [ml0_e ha hb hne, if_neg (by omega)] at e
  have l1 := LY hw ha ht
  have l2 := LY hw hb ht
  unfold NN
  unfold LL at *
  omega
theorem ex_n {w : Nat → Nat} (hw : ∀ j, j < 36 → w j ≤ 30) {t a : Nat} (ht : t < 6) (ha : a < 6) (hat : a ≠ t) (hr : YY w a t < 10000) : ∃ b, b < 6 ∧ Tgt w t a b ∧ NN w a t = NN w b t + 1 ∧ YY w b t < 10000 := by
  have l1 := LY hw ha ht
  obtain ⟨k, hk, hki, e⟩ := fw_c (F := 1000000) (ml0_d (w := w)) ha ht hat (by unfold LL at l1; omega)
  have l2 := LY hw hk ht
  have e2 := fw_b (r0_d (w := w)) ha ht hk
  rw [ml0_e ha hk hki] at e
  rw [r0_e ha hk hki] at e2
  by_cases c : w (a * 6 + k) = 0
  · rw [if_pos c] at e; unfold LL at l1; omega
  · rw [if_neg c] at e e2
    refine ⟨k, hk, ⟨by omega, ?_⟩, ?_, ?_⟩
    · unfold YY LL at *; omega
    · unfold NN YY LL at *; omega
    · unfold YY LL at *; omega
theorem nn_t {w : Nat → Nat} {t : Nat} (ht : t < 6) : NN w t t = 0 ∧ YY w t t = 0 := by
  have h1 := fw_diag (ml0_d (w := w)) 6 t ht
  have h2 := fw_diag (r0_d (w := w)) 6 t ht
  unfold NN LL YY
  omega
theorem YY_bd {w : Nat → Nat} (hw : ∀ j, j < 36 → w j ≤ 30) {a t : Nat} (ha : a < 6) (ht : t < 6) : YY w a t ≤ 10000 := by
  refine Nat.le_trans (fw_le 6 _) ?_
  have := hw (a * 6 + t) (by omega)
  unfold r0
  split
  · omega
  · split <;> omega
/-- the memory in which the reference seeks a route -/
def RtM (D : Nat → Int) (M : Mem) : Prop := (∀ j, j < 1250 → M 1 j = iI (D j)) ∧ ∀ a t, a < 6 → t < 6 → M 4 (a * 6 + t) = iI (YY (nearN D) a t)
theorem onWay9 {M : Mem} {D : Nat → Int} (hM : RtM D M) (hn : ∀ j, j < 36 → 0 ≤ D (20 + j) ∧ D (20 + j) ≤ 30) {a b t : Nat} (ha : a < 6) (hb : b < 6) (ht : t < 6) : fX9_isOnWay (iI a) (iI b) (iI t) M = some (if Tgt (nearN D) t a b then iI 1 else iI 0) := by
  have hw : ∀ j, j < 36 → nearN D j ≤ 30 := fun j hj => by have := hn j hj; unfold nearN; omega
  have nk := hn (a * 6 + b) (by omega)
  have ek : nearN D (a * 6 + b) = (D (20 + (a * 6 + b))).toNat := rfl
  have y1 := YY_bd hw ha ht
  have y2 := YY_bd hw hb ht
  have q1 := hM.1 (20 + (a * 6 + b)) (by omega)
  have q2 := hM.2 a t ha ht
  have q3 := hM.2 b t hb ht
  have e1 : (20 + 6 * (a : Int) + (b : Int)).toNat = 20 + (a * 6 + b) := by omega
  have e2 : (6 * (b : Int) + (t : Int)).toNat = b * 6 + t := by omega
  have e3 : (6 * (a : Int) + (t : Int)).toNat = a * 6 + t := by omega
  unfold fX9_isOnWay Tgt
  by_cases c1 : D (20 + (a * 6 + b)) ≤ 0
  · simp (disch := omega) only [il_0, il_1, il_2, il_3, il_4, il_5, il_6, il_7, il_8, il_9, il_10, il_11, il_12, il_13, il_16, il_20, il_30, il_31, il_32, il_33, il_36, il_37, il_38, il_40, il_41, il_42, il_43, il_45, il_47, il_48, il_50, il_57, il_60, il_61, il_62, il_70, il_71, il_79, il_80, il_97, il_98, il_99, il_100, il_107, il_110, il_111, il_114, il_115, il_116, il_121, il_124, il_128, il_130, il_140, il_160, il_255, il_399, il_540, il_590, il_610, il_999, il_1000, il_1250, il_10000, il_12345, il_99999, il_1000000, il_1103515245, ll_0, ll_1, ll_2, ll_3, ll_4, ll_5, ll_6, ll_7, ll_8, ll_9, ll_30, ll_48, ll_50, ll_57, ll_99, ll_100, ll_255, ll_399, ll_999, ll_99999, nq_bs, nq_ltS, nq_b2S, b2_id, bi_id, iI_add, iI_sub, iI_mul, iI_neg, lI_neg, iI_64, iI_lt, iI_le, iI_eq, iI_ag, iI_as, iI_ar, iI_dv, iI_rem, isOut8, in9, bo_nz, bo_t, bo_f, wr_s, wr_n, wr_k, if_pos, if_neg, ↓reduceIte, Nat.reduceAdd, Nat.reduceMul, Nat.reduceSub, Nat.reduceEqDiff, Int.reduceToNat, Int.toNat_natCast, Int.reduceNeg, Int.reduceAdd, Int.reduceSub, Int.reduceMul, e1, q1]
  · by_cases c2 : D (20 + (a * 6 + b)) + (YY (nearN D) b t : Int) = (YY (nearN D) a t : Int)
    · simp (disch := omega) only [il_0, il_1, il_2, il_3, il_4, il_5, il_6, il_7, il_8, il_9, il_10, il_11, il_12, il_13, il_16, il_20, il_30, il_31, il_32, il_33, il_36, il_37, il_38, il_40, il_41, il_42, il_43, il_45, il_47, il_48, il_50, il_57, il_60, il_61, il_62, il_70, il_71, il_79, il_80, il_97, il_98, il_99, il_100, il_107, il_110, il_111, il_114, il_115, il_116, il_121, il_124, il_128, il_130, il_140, il_160, il_255, il_399, il_540, il_590, il_610, il_999, il_1000, il_1250, il_10000, il_12345, il_99999, il_1000000, il_1103515245, ll_0, ll_1, ll_2, ll_3, ll_4, ll_5, ll_6, ll_7, ll_8, ll_9, ll_30, ll_48, ll_50, ll_57, ll_99, ll_100, ll_255, ll_399, ll_999, ll_99999, nq_bs, nq_ltS, nq_b2S, b2_id, bi_id, iI_add, iI_sub, iI_mul, iI_neg, lI_neg, iI_64, iI_lt, iI_le, iI_eq, iI_ag, iI_as, iI_ar, iI_dv, iI_rem, isOut8, in9, bo_nz, bo_t, bo_f, wr_s, wr_n, wr_k, if_pos, if_neg, ↓reduceIte, Nat.reduceAdd, Nat.reduceMul, Nat.reduceSub, Nat.reduceEqDiff, Int.reduceToNat, Int.toNat_natCast, Int.reduceNeg, Int.reduceAdd, Int.reduceSub, Int.reduceMul, e1, e2, e3, q1, q2, q3]
    · simp (disch := omega) only [il_0, il_1, il_2, il_3, il_4, il_5, il_6, il_7, il_8, il_9, il_10, il_11, il_12, il_13, il_16, il_20, il_30, il_31, il_32, il_33, il_36, il_37, il_38, il_40, il_41, il_42, il_43, il_45, il_47, il_48, il_50, il_57, il_60, il_61, il_62, il_70, il_71, il_79, il_80, il_97, il_98, il_99, il_100, il_107, il_110, il_111, il_114, il_115, il_116, il_121, il_124, il_128, il_130, il_140, il_160, il_255, il_399, il_540, il_590, il_610, il_999, il_1000, il_1250, il_10000, il_12345, il_99999, il_1000000, il_1103515245, ll_0, ll_1, ll_2, ll_3, ll_4, ll_5, ll_6, ll_7, ll_8, ll_9, ll_30, ll_48, ll_50, ll_57, ll_99, ll_100, ll_255, ll_399, ll_999, ll_99999, nq_bs, nq_ltS, nq_b2S, b2_id, bi_id, iI_add, iI_sub, iI_mul, iI_neg, lI_neg, iI_64, iI_lt, iI_le, iI_eq, iI_ag, iI_as, iI_ar, iI_dv, iI_rem, isOut8, in9, bo_nz, bo_t, bo_f, wr_s, wr_n, wr_k, if_pos, if_neg, ↓reduceIte, Nat.reduceAdd, Nat.reduceMul, Nat.reduceSub, Nat.reduceEqDiff, Int.reduceToNat, Int.toNat_natCast, Int.reduceNeg, Int.reduceAdd, Int.reduceSub, Int.reduceMul, e1, e2, e3, q1, q2, q3]
/-- steps so far: rounds r, steps e of the next -/
def StQ (w : Nat → Nat) (t r e : Nat) (M M' : Mem) : Prop := (∀ k, k ≠ 5 → M' k = M k) ∧ ∃ st : Nat → Int, (∀ a, a < 6 → M' 5 a = iI (st a) ∧ 0 ≤ st a ∧ st a ≤ 10000 ∧ (YY w a t < 10000 → (NN w a t : Int) ≤ st a)) ∧ (∀ a, a < 6 → YY w a t < 10000 → NN w a t ≤ r → st a ≤ NN w a t) ∧ (∀ a b, a < 6 → b < 6 → YY w a t < 10000 → NN w a t = r + 1 → Tgt w t a b → NN w b t = r → a * 6 + b < e → st a ≤ r + 1)
theorem steps_edge {M M' : Mem} {D : Nat → Int} {t r e : Nat} (hM : RtM D M) (hn : ∀ j, j < 36 → 0 ≤ D (20 + j) ∧ D (20 + j) ≤ 30) (hd : ∀ a, a < 6 → D (20 + 7 * a) = 0) (ht : t < 6) (he : e < 36) (h : StQ (nearN D) t r e M M') : ∃ M2, fX9_findSteps_B42_34 (iI t) (iI r) (iI e) M' = some (.inl (iI ((e + 1 : Nat) : Int), M2)) ∧ StQ (nearN D) t r (e + 1) M M2 := by
  have hw : ∀ j, j < 36 → nearN D j ≤ 30 := fun j hj => by have := hn j hj; unfold nearN; omega
  have hdd : ∀ a, a < 6 → nearN D (a * 6 + a) = 0 := fun a ha => by
    have := hd a ha
    unfold nearN; rw [show 20 + (a * 6 + a) = 20 + 7 * a by omega, this]; rfl
  obtain ⟨f1, st, i1, i2, i3⟩ := h
  have hM' : RtM D M' := ⟨fun j hj => by rw [f1 1 (by omega)]; exact hM.1 j hj, fun a t ha ht => by rw [f1 4 (by omega)]; exact hM.2 a t ha ht⟩
  obtain ⟨a, b, ha, hb, rfl⟩ : ∃ a b, a < 6 ∧ b < 6 ∧ e = a * 6 + b := ⟨e / 6, e % 6, by omega, by omega, by omega⟩
  have ow := onWay9 hM' hn ha hb ht
  have y1 := YY_bd hw ha ht
  have q4 := hM'.2 a t ha ht
  obtain ⟨sa, sa0, sa1, sa2⟩ := i1 a ha
  obtain ⟨sb, sb0, sb1, sb2⟩ := i1 b hb
  have ed : ((a * 6 + b : Nat) : Int) / 6 = (a : Int) := by omega
  have em : ((a * 6 + b : Nat) : Int) % 6 = (b : Int) := by omega
  have e3 : (6 * (a : Int) + (t : Int)).toNat = a * 6 + t := by omega
  by_cases c : YY (nearN D) a t < 10000 ∧ Tgt (nearN D) t a b ∧ st b + 1 < st a
  · obtain ⟨c1, c2, c3⟩ := c
    have tn := tgt_n hw hdd ht ha hb c1 c2
    refine ⟨nq_wr M' 5 a (iI (st b + 1)), ?_, ?_, fun m => if m = a then st b + 1 else st m, ?_, ?_, ?_⟩
    · unfold fX9_findSteps_B42_34 fX9_findSteps_L112_34_42 fX9_findSteps_L111_34_42
      simp (disch := omega) only [il_0, il_1, il_2, il_3, il_4, il_5, il_6, il_7, il_8, il_9, il_10, il_11, il_12, il_13, il_16, il_20, il_30, il_31, il_32, il_33, il_36, il_37, il_38, il_40, il_41, il_42, il_43, il_45, il_47, il_48, il_50, il_57, il_60, il_61, il_62, il_70, il_71, il_79, il_80, il_97, il_98, il_99, il_100, il_107, il_110, il_111, il_114, il_115, il_116, il_121, il_124, il_128, il_130, il_140, il_160, il_255, il_399, il_540, il_590, il_610, il_999, il_1000, il_1250, il_10000, il_12345, il_99999, il_1000000, il_1103515245, ll_0, ll_1, ll_2, ll_3, ll_4, ll_5, ll_6, ll_7, ll_8, ll_9, ll_30, ll_48, ll_50, ll_57, ll_99, ll_100, ll_255, ll_399, ll_999, ll_99999, nq_bs, nq_ltS, nq_b2S, b2_id, bi_id, iI_add, iI_sub, iI_mul, iI_neg, lI_neg, iI_64, iI_lt, iI_le, iI_eq, iI_ag, iI_as, iI_ar, iI_dv, iI_rem, isOut8, in9, bo_nz, bo_t, bo_f, wr_s, wr_n, wr_k, if_pos, if_neg, ↓reduceIte, Nat.reduceAdd, Nat.reduceMul, Nat.reduceSub, Nat.reduceEqDiff, Int.reduceToNat, Int.toNat_natCast, Int.reduceNeg, Int.reduceAdd, Int.reduceSub, Int.reduceMul, ed, em, e3, q4, ow, sa, sb, c2]
      rfl
    · intro k hk; rw [wr_k hk]; exact f1 k hk
    · intro m hm
      by_cases em2 : m = a
      · subst em2
        rw [wr_s ⟨rfl, rfl⟩]
        simp only [if_true]
        have := sb2 tn.2.1
        refine ⟨trivial, by omega, by omega, fun _ => by omega⟩
      · rw [wr_n (Or.inr em2)]
        simp only [if_neg em2]; exact i1 m hm
    · intro m hm hr hN
      by_cases em2 : m = a
      · subst em2
        simp only [if_true]
        have := i2 m hm hr hN; omega
      · simp only [if_neg em2]; exact i2 m hm hr hN
    · intro m n hm hn' hr hN hT hNb hlt
      by_cases em2 : m = a
      · subst em2
        simp only [if_true]
        by_cases en : n = b
        · subst en
          have := i2 n hn' (tn.2.1) (by omega); omega
        · have := i3 m n hm hn' hr hN hT hNb (by omega); omega
      · simp only [if_neg em2]; exact i3 m n hm hn' hr hN hT hNb (by omega)
  · refine ⟨nq_wr M' 5 a (iI (st a)), ?_, ?_, st, ?_, i2, ?_⟩
    · unfold fX9_findSteps_B42_34 fX9_findSteps_L111_34_42 fX9_findSteps_L112_34_42
      by_cases c1 : YY (nearN D) a t < 10000
      · by_cases c2 : Tgt (nearN D) t a b
        · simp (disch := omega) only [il_0, il_1, il_2, il_3, il_4, il_5, il_6, il_7, il_8, il_9, il_10, il_11, il_12, il_13, il_16, il_20, il_30, il_31, il_32, il_33, il_36, il_37, il_38, il_40, il_41, il_42, il_43, il_45, il_47, il_48, il_50, il_57, il_60, il_61, il_62, il_70, il_71, il_79, il_80, il_97, il_98, il_99, il_100, il_107, il_110, il_111, il_114, il_115, il_116, il_121, il_124, il_128, il_130, il_140, il_160, il_255, il_399, il_540, il_590, il_610, il_999, il_1000, il_1250, il_10000, il_12345, il_99999, il_1000000, il_1103515245, ll_0, ll_1, ll_2, ll_3, ll_4, ll_5, ll_6, ll_7, ll_8, ll_9, ll_30, ll_48, ll_50, ll_57, ll_99, ll_100, ll_255, ll_399, ll_999, ll_99999, nq_bs, nq_ltS, nq_b2S, b2_id, bi_id, iI_add, iI_sub, iI_mul, iI_neg, lI_neg, iI_64, iI_lt, iI_le, iI_eq, iI_ag, iI_as, iI_ar, iI_dv, iI_rem, isOut8, in9, bo_nz, bo_t, bo_f, wr_s, wr_n, wr_k, if_pos, if_neg, ↓reduceIte, Nat.reduceAdd, Nat.reduceMul, Nat.reduceSub, Nat.reduceEqDiff, Int.reduceToNat, Int.toNat_natCast, Int.reduceNeg, Int.reduceAdd, Int.reduceSub, Int.reduceMul, ed, em, e3, q4, ow, sa, sb, c2]
          rfl
        · simp (disch := omega) only [il_0, il_1, il_2, il_3, il_4, il_5, il_6, il_7, il_8, il_9, il_10, il_11, il_12, il_13, il_16, il_20, il_30, il_31, il_32, il_33, il_36, il_37, il_38, il_40, il_41, il_42, il_43, il_45, il_47, il_48, il_50, il_57, il_60, il_61, il_62, il_70, il_71, il_79, il_80, il_97, il_98, il_99, il_100, il_107, il_110, il_111, il_114, il_115, il_116, il_121, il_124, il_128, il_130, il_140, il_160, il_255, il_399, il_540, il_590, il_610, il_999, il_1000, il_1250, il_10000, il_12345, il_99999, il_1000000, il_1103515245, ll_0, ll_1, ll_2, ll_3, ll_4, ll_5, ll_6, ll_7, ll_8, ll_9, ll_30, ll_48, ll_50, ll_57, ll_99, ll_100, ll_255, ll_399, ll_999, ll_99999, nq_bs, nq_ltS, nq_b2S, b2_id, bi_id, iI_add, iI_sub, iI_mul, iI_neg, lI_neg, iI_64, iI_lt, iI_le, iI_eq, iI_ag, iI_as, iI_ar, iI_dv, iI_rem, isOut8, in9, bo_nz, bo_t, bo_f, wr_s, wr_n, wr_k, if_pos, if_neg, ↓reduceIte, Nat.reduceAdd, Nat.reduceMul, Nat.reduceSub, Nat.reduceEqDiff, Int.reduceToNat, Int.toNat_natCast, Int.reduceNeg, Int.reduceAdd, Int.reduceSub, Int.reduceMul, ed, em, e3, q4, ow, sa, sb, c2]
          rfl
      · simp (disch := omega) only [il_0, il_1, il_2, il_3, il_4, il_5, il_6, il_7, il_8, il_9, il_10, il_11, il_12, il_13, il_16, il_20, il_30, il_31, il_32, il_33, il_36, il_37, il_38, il_40, il_41, il_42, il_43, il_45, il_47, il_48, il_50, il_57, il_60, il_61, il_62, il_70, il_71, il_79, il_80, il_97, il_98, il_99, il_100, il_107, il_110, il_111, il_114, il_115, il_116, il_121, il_124, il_128, il_130, il_140, il_160, il_255, il_399, il_540, il_590, il_610, il_999, il_1000, il_1250, il_10000, il_12345, il_99999, il_1000000, il_1103515245, ll_0, ll_1, ll_2, ll_3, ll_4, ll_5, ll_6, ll_7, ll_8, ll_9, ll_30, ll_48, ll_50, ll_57, ll_99, ll_100, ll_255, ll_399, ll_999, ll_99999, nq_bs, nq_ltS, nq_b2S, b2_id, bi_id, iI_add, iI_sub, iI_mul, iI_neg, lI_neg, iI_64, iI_lt, iI_le, iI_eq, iI_ag, iI_as, iI_ar, iI_dv, iI_rem, isOut8, in9, bo_nz, bo_t, bo_f, wr_s, wr_n, wr_k, if_pos, if_neg, ↓reduceIte, Nat.reduceAdd, Nat.reduceMul, Nat.reduceSub, Nat.reduceEqDiff, Int.reduceToNat, Int.toNat_natCast, Int.reduceNeg, Int.reduceAdd, Int.reduceSub, Int.reduceMul, ed, em, e3, q4, sa, sb]
        rfl
    · intro k hk; rw [wr_k hk]; exact f1 k hk
    · intro m hm
      by_cases em2 : m = a
      · subst em2
        rw [wr_s ⟨rfl, rfl⟩]; exact ⟨rfl, (i1 m hm).2⟩
      · rw [wr_n (Or.inr em2)]; exact i1 m hm
    · intro m n hm hn' hr hN hT hNb hlt
      by_cases em2 : m = a ∧ n = b
      · obtain ⟨rfl, rfl⟩ := em2
        have tn := tgt_n hw hdd ht hm hn' hr hT
        have := i2 n hn' tn.2.1 (by omega)
        have : ¬ st n + 1 < st m := fun k => c ⟨hr, hT, k⟩
        omega
      · exact i3 m n hm hn' hr hN hT hNb (by omega)
theorem steps9 {M : Mem} {D : Nat → Int} {t : Nat} (hM : RtM D M) (hn : ∀ j, j < 36 → 0 ≤ D (20 + j) ∧ D (20 + j) ≤ 30) (hd : ∀ a, a < 6 → D (20 + 7 * a) = 0) (ht : t < 6) : ∃ M', fX9_findSteps (iI t) M = some M' ∧ (∀ k, k ≠ 5 → M' k = M k) ∧ ∀ a, a < 6 → YY (nearN D) a t < 10000 → M' 5 a = iI (NN (nearN D) a t) := by
  have hw : ∀ j, j < 36 → nearN D j ≤ 30 := fun j hj => by have := hn j hj; unfold nearN; omega
  have e1 := lp_rg (body := fun s : Int32 × Mem => fX9_findSteps_B2 (iI t) s.1 s.2) (M := M) 5 0 6 (fun k => if k = t then iI 0 else iI 10000) (by omega)
    (by
      intro k hk
      show fX9_findSteps_B2 (iI t) (iI k) _ = _
      unfold fX9_findSteps_B2
      by_cases c : k = t
      · simp (disch := omega) only [il_0, il_1, il_2, il_3, il_4, il_5, il_6, il_7, il_8, il_9, il_10, il_11, il_12, il_13, il_16, il_20, il_30, il_31, il_32, il_33, il_36, il_37, il_38, il_40, il_41, il_42, il_43, il_45, il_47, il_48, il_50, il_57, il_60, il_61, il_62, il_70, il_71, il_79, il_80, il_97, il_98, il_99, il_100, il_107, il_110, il_111, il_114, il_115, il_116, il_121, il_124, il_128, il_130, il_140, il_160, il_255, il_399, il_540, il_590, il_610, il_999, il_1000, il_1250, il_10000, il_12345, il_99999, il_1000000, il_1103515245, ll_0, ll_1, ll_2, ll_3, ll_4, ll_5, ll_6, ll_7, ll_8, ll_9, ll_30, ll_48, ll_50, ll_57, ll_99, ll_100, ll_255, ll_399, ll_999, ll_99999, nq_bs, nq_ltS, nq_b2S, b2_id, bi_id, iI_add, iI_sub, iI_mul, iI_neg, lI_neg, iI_64, iI_lt, iI_le, iI_eq, iI_ag, iI_as, iI_ar, iI_dv, iI_rem, isOut8, in9, bo_nz, bo_t, bo_f, wr_s, wr_n, wr_k, if_pos, if_neg, ↓reduceIte, Nat.reduceAdd, Nat.reduceMul, Nat.reduceSub, Nat.reduceEqDiff, Int.reduceToNat, Int.toNat_natCast, Int.reduceNeg, Int.reduceAdd, Int.reduceSub, Int.reduceMul, Nat.zero_add, c]
        rfl
      · simp (disch := omega) only [il_0, il_1, il_2, il_3, il_4, il_5, il_6, il_7, il_8, il_9, il_10, il_11, il_12, il_13, il_16, il_20, il_30, il_31, il_32, il_33, il_36, il_37, il_38, il_40, il_41, il_42, il_43, il_45, il_47, il_48, il_50, il_57, il_60, il_61, il_62, il_70, il_71, il_79, il_80, il_97, il_98, il_99, il_100, il_107, il_110, il_111, il_114, il_115, il_116, il_121, il_124, il_128, il_130, il_140, il_160, il_255, il_399, il_540, il_590, il_610, il_999, il_1000, il_1250, il_10000, il_12345, il_99999, il_1000000, il_1103515245, ll_0, ll_1, ll_2, ll_3, ll_4, ll_5, ll_6, ll_7, ll_8, ll_9, ll_30, ll_48, ll_50, ll_57, ll_99, ll_100, ll_255, ll_399, ll_999, ll_99999, nq_bs, nq_ltS, nq_b2S, b2_id, bi_id, iI_add, iI_sub, iI_mul, iI_neg, lI_neg, iI_64, iI_lt, iI_le, iI_eq, iI_ag, iI_as, iI_ar, iI_dv, iI_rem, isOut8, in9, bo_nz, bo_t, bo_f, wr_s, wr_n, wr_k, if_pos, if_neg, ↓reduceIte, Nat.reduceAdd, Nat.reduceMul, Nat.reduceSub, Nat.reduceEqDiff, Int.reduceToNat, Int.toNat_natCast, Int.reduceNeg, Int.reduceAdd, Int.reduceSub, Int.reduceMul, Nat.zero_add, c]
        rfl)
    (by
      show fX9_findSteps_B2 (iI t) (iI ((6 : Nat) : Int)) _ = _
      unfold fX9_findSteps_B2
      rw [if_pos (by decide)])
  have q0 : StQ (nearN D) t 0 0 M (rg M 5 0 6 (fun k => if k = t then iI 0 else iI 10000)) := by
    refine ⟨fun k hk => rg_k hk, fun a => if a = t then 0 else 10000, ?_, ?_, ?_⟩
    · intro a ha
      rw [rg_s ⟨rfl, by omega, by omega⟩, Nat.sub_zero]
      by_cases c : a = t
      · subst c
        simp only [if_true]
        have := nn_t (w := nearN D) ha
        refine ⟨trivial, by omega, by omega, fun _ => by omega⟩
      · simp only [if_neg c]
        have := LY hw ha ht
        refine ⟨trivial, by omega, by omega, fun _ => by unfold NN; omega⟩
    · intro a ha hr hN
      by_cases c : a = t
      · simp only [if_pos c]; omega
      · obtain ⟨b, _, _, h3, _⟩ := ex_n hw ht ha c hr
        omega
    · intro a b _ _ _ _ _ _ hlt; omega
  have e2 := nq_for0 (body := fun s : Int32 × Mem => fX9_findSteps_B34 (iI t) s.1 s.2) 6 (fun r s => s.1 = iI r ∧ StQ (nearN D) t r 0 M s.2) (fun M' => StQ (nearN D) t 6 0 M M') (s := (iI 0, rg M 5 0 6 (fun k => if k = t then iI 0 else iI 10000))) (by omega) ⟨rfl, q0⟩
    (by
      rintro r ⟨i, M1⟩ hr ⟨h1, h2⟩
      dsimp only at h1 h2
      subst h1
      left
      obtain ⟨M2, x1, x2⟩ := nq_for0 (body := fun s : Int32 × Mem => fX9_findSteps_B42_34 (iI t) (iI r) s.1 s.2) 36 (fun e s => s.1 = iI e ∧ StQ (nearN D) t r e M s.2) (fun M' => StQ (nearN D) t r 36 M M') (s := (iI 0, M1)) (by omega) ⟨rfl, h2⟩
        (by
          rintro e ⟨i, M3⟩ he ⟨h1, h2⟩
          dsimp only at h1 h2
          subst h1
          left
          obtain ⟨M4, y1, y2⟩ := steps_edge hM hn hd ht he h2
          exact ⟨_, y1, rfl, y2⟩)
        (by
          rintro ⟨i, M3⟩ ⟨h1, h2⟩
          dsimp only at h1 h2
          subst h1
          refine ⟨M3, ?_, h2⟩
          show fX9_findSteps_B42_34 (iI t) (iI r) (iI ((36 : Nat) : Int)) M3 = _
          unfold fX9_findSteps_B42_34
          rw [if_pos (by decide)])
      refine ⟨(iI ((r + 1 : Nat) : Int), M2), ?_, rfl, ?_⟩
      · show fX9_findSteps_B34 (iI t) (iI r) M1 = _
        unfold fX9_findSteps_B34 fX9_findSteps_L42_34 fX9_findSteps_L157_34
        rw [il_6, if_neg (by rw [iI_le (by omega) (by omega)]; omega), il_0, x1]
        simp only [nq_bs, nq_ltS, il_1, iI_add]
        rfl
      · obtain ⟨f1, st, i1, i2, i3⟩ := x2
        refine ⟨f1, st, i1, ?_, ?_⟩
        · intro a ha hra hN
          by_cases c : NN (nearN D) a t ≤ r
          · exact i2 a ha hra c
          · have hat : a ≠ t := by
              rintro rfl
              have := nn_t (w := nearN D) ha; omega
            obtain ⟨b, hb, hT, hN2, _⟩ := ex_n hw ht ha hat hra
            have := i3 a b ha hb hra (by omega) hT (by omega) (by omega)
            omega
        · intro a b _ _ _ _ _ _ hlt; omega)
    (by
      rintro ⟨i, M1⟩ ⟨h1, h2⟩
      dsimp only at h1 h2
      subst h1
      refine ⟨M1, ?_, h2⟩
      show fX9_findSteps_B34 (iI t) (iI ((6 : Nat) : Int)) M1 = _
      unfold fX9_findSteps_B34
      rw [if_pos (by decide)])
  obtain ⟨M', x1, f1, st, i1, i2, i3⟩ := e2
  refine ⟨M', ?_, f1, ?_⟩
  · unfold fX9_findSteps fX9_findSteps_L2 fX9_findSteps_L32 fX9_findSteps_L34 fX9_findSteps_L163
    rw [il_0, e1]
    simp only [nq_bs]
    rw [x1]
    rfl
  · intro a ha hr
    obtain ⟨s1, s2, s3, s4⟩ := i1 a ha
    have := s4 hr
    have l := LY hw ha ht
    have := i2 a ha hr (by unfold NN; omega)
    rw [s1]
    congr 1
    omega
