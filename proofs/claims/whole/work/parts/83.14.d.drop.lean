/-! 14.d: a word is lost; a word is queued -/
theorem gd_l {l1 l2 : List Nat} {i : Nat} (h : i < l1.length) : (l1 ++ l2).getD i 0 = l1.getD i 0 := by
  rw [List.getD_eq_getElem?_getD, List.getD_eq_getElem?_getD, List.getElem?_append_left h]
theorem gd_r {l1 l2 : List Nat} {i : Nat} (h : l1.length ≤ i) : (l1 ++ l2).getD i 0 = l2.getD (i - l1.length) 0 := by
  rw [List.getD_eq_getElem?_getD, List.getD_eq_getElem?_getD, List.getElem?_append_right h]
theorem gd_e {l : List Nat} {i : Nat} (h : i < l.length) : l.getD i 0 = l[i] := by
  rw [List.getD_eq_getElem?_getD, List.getElem?_eq_getElem h, Option.getD_some]
theorem gd_mem {l : List Nat} {i : Nat} (h : i < l.length) : l.getD i 0 ∈ l := by
  rw [gd_e h]; exact List.getElem_mem h
theorem bkt_drop {D : Nat → Int} {w y : Nat} : bkt (upI D (615 + 8 * w) (-1)) y = (bkt D y).filter (fun v => decide (v ≠ w)) := by
  unfold bkt
  rw [upI_n (by omega), List.filter_filter]
  apply List.filter_congr
  intro v _
  rw [Bool.eq_iff_iff]
  simp only [decide_eq_true_eq, Bool.and_eq_true]
  by_cases e : v = w
  · subst e
    rw [upI_s rfl]
    constructor
    · intro h; omega
    · intro h; exact absurd rfl h.1
  · rw [upI_n (by omega)]
    exact ⟨fun h => ⟨e, h⟩, fun h => h.2⟩
theorem arrU_drop {D : Nat → Int} {w : Nat} : ∀ Y, arrU (upI D (615 + 8 * w) (-1)) Y = (arrU D Y).filter (fun v => decide (v ≠ w)) := by
  intro Y
  induction Y with
  | zero => rfl
  | succ Y ih => rw [arrU_succ, arrU_succ, List.filter_append, ih, bkt_drop]
theorem drop8 {M : Mem} {p w : Nat} {D : Nat → Int} (hL : GL M p D) (hw : (w : Int) < D 2) : ∃ M', fX0_drop p (iI w) M = some M' ∧ (∀ k, (k < p ∨ p + 10 ≤ k) → M' k = M k) ∧ GL M' p (upI D (615 + 8 * w) (-1)) := by
  have hL' := hL
  obtain ⟨g1, w1, g3, g4, g5, g6⟩ := hL'
  have len := arrL_len w1
  have eA : arrL (upI D (615 + 8 * w) (-1)) = (arrL D).filter (fun v => decide (v ≠ w)) := arrU_drop 11000
  have nL : M p 9 = iI (arrL D).length := by rw [← iI_nat]; exact g4
  have key := nq_for0 (body := fun s : Int32 × Int32 × Mem => fX0_drop_B11 p (iI w) s.1 s.2.1 s.2.2) (arrL D).length
    (fun k s => s.1 = iI (((arrL D).take k).filter (fun v => decide (v ≠ w))).length ∧ s.2.1 = iI k ∧ (∀ j, j < (((arrL D).take k).filter (fun v => decide (v ≠ w))).length → s.2.2 (p + 9) j = iI ((((arrL D).take k).filter (fun v => decide (v ≠ w))).getD j 0 : Nat)) ∧ (∀ j, k ≤ j → s.2.2 (p + 9) j = M (p + 9) j) ∧ ∀ a, a ≠ p + 9 → s.2.2 a = nq_wr M (p + 6) w (iI (-1)) a)
    (fun r => r.1 = iI ((arrL D).filter (fun v => decide (v ≠ w))).length ∧ (∀ j, j < ((arrL D).filter (fun v => decide (v ≠ w))).length → r.2 (p + 9) j = iI (((arrL D).filter (fun v => decide (v ≠ w))).getD j 0 : Nat)) ∧ ∀ a, a ≠ p + 9 → r.2 a = nq_wr M (p + 6) w (iI (-1)) a)
    (s := (iI 0, iI 0, nq_wr M (p + 6) w (iI (-1)))) (by omega)
    ⟨by simp, rfl, fun j hj => by simp at hj, fun j _ => by simp (disch := omega) only [wr_k], fun _ _ => rfl⟩
    (by
      rintro k ⟨l, i, M'⟩ hk ⟨h1, h2, h3, h4, h5⟩
      dsimp only at h1 h2 h3 h4 h5
      subst h1; subst h2
      left
      have q9 : M' p 9 = iI (arrL D).length := by rw [h5 p (by omega), wr_k (by omega)]; exact nL
      have gk : M' (p + 9) k = iI ((arrL D).getD k 0 : Nat) := by rw [h4 k (by omega), ← iI_nat]; exact g5 k hk
      have mk := arrL_getD hk
      have et : (arrL D).take (k + 1) = (arrL D).take k ++ [(arrL D).getD k 0] := by rw [List.take_succ_eq_append_getElem hk, gd_e hk]
      have fl : (((arrL D).take k).filter (fun v => decide (v ≠ w))).length ≤ k := by
        refine Nat.le_trans (List.length_filter_le _ _) ?_
        rw [List.length_take]; omega
      rw [et, List.filter_append]
      generalize hv : (arrL D).getD k 0 = v at *
      generalize hF : ((arrL D).take k).filter (fun v => decide (v ≠ w)) = F at *
      by_cases c : v = w
      · refine ⟨(iI F.length, iI ((k + 1 : Nat) : Int), M'), ?_, ?_, rfl, ?_, ?_, h5⟩
        · show fX0_drop_B11 p (iI w) (iI F.length) (iI k) M' = _
          unfold fX0_drop_B11
          simp (disch := omega) only [il_0, il_1, il_2, il_3, il_4, il_5, il_6, il_7, il_8, il_9, il_10, il_11, il_12, il_13, il_16, il_20, il_30, il_31, il_32, il_33, il_36, il_37, il_38, il_40, il_41, il_42, il_43, il_45, il_47, il_48, il_50, il_57, il_60, il_61, il_62, il_70, il_71, il_79, il_80, il_97, il_98, il_99, il_100, il_107, il_110, il_111, il_114, il_115, il_116, il_121, il_124, il_128, il_130, il_140, il_160, il_255, il_399, il_540, il_590, il_610, il_999, il_1000, il_1250, il_10000, il_12345, il_99999, il_1000000, il_1103515245, ll_0, ll_1, ll_2, ll_3, ll_4, ll_5, ll_6, ll_7, ll_8, ll_9, ll_30, ll_48, ll_50, ll_57, ll_99, ll_100, ll_255, ll_399, ll_999, ll_99999, nq_bs, nq_ltS, nq_b2S, b2_id, bi_id, iI_add, iI_sub, iI_mul, iI_neg, lI_neg, iI_64, iI_lt, iI_le, iI_eq, iI_ag, iI_as, iI_ar, iI_dv, iI_rem, isOut8, in9, bo_nz, bo_t, bo_f, wr_s, wr_n, wr_k, if_pos, if_neg, ↓reduceIte, Nat.reduceAdd, Nat.reduceMul, Nat.reduceSub, Nat.reduceEqDiff, Int.reduceToNat, Int.toNat_natCast, Int.reduceNeg, Int.reduceAdd, Int.reduceSub, Int.reduceMul, q9, gk]
          rfl
        · simp [c]
        · simpa [c] using h3
        · intro j hj; exact h4 j (by omega)
      · have ef : List.filter (fun v => decide (v ≠ w)) [v] = [v] := by simp [c]
        rw [ef]
        refine ⟨(iI ((F.length + 1 : Nat) : Int), iI ((k + 1 : Nat) : Int), nq_wr M' (p + 9) F.length (iI v)), ?_, ?_, rfl, ?_, ?_, ?_⟩
        · show fX0_drop_B11 p (iI w) (iI F.length) (iI k) M' = _
          unfold fX0_drop_B11
          simp (disch := omega) only [il_0, il_1, il_2, il_3, il_4, il_5, il_6, il_7, il_8, il_9, il_10, il_11, il_12, il_13, il_16, il_20, il_30, il_31, il_32, il_33, il_36, il_37, il_38, il_40, il_41, il_42, il_43, il_45, il_47, il_48, il_50, il_57, il_60, il_61, il_62, il_70, il_71, il_79, il_80, il_97, il_98, il_99, il_100, il_107, il_110, il_111, il_114, il_115, il_116, il_121, il_124, il_128, il_130, il_140, il_160, il_255, il_399, il_540, il_590, il_610, il_999, il_1000, il_1250, il_10000, il_12345, il_99999, il_1000000, il_1103515245, ll_0, ll_1, ll_2, ll_3, ll_4, ll_5, ll_6, ll_7, ll_8, ll_9, ll_30, ll_48, ll_50, ll_57, ll_99, ll_100, ll_255, ll_399, ll_999, ll_99999, nq_bs, nq_ltS, nq_b2S, b2_id, bi_id, iI_add, iI_sub, iI_mul, iI_neg, lI_neg, iI_64, iI_lt, iI_le, iI_eq, iI_ag, iI_as, iI_ar, iI_dv, iI_rem, isOut8, in9, bo_nz, bo_t, bo_f, wr_s, wr_n, wr_k, if_pos, if_neg, ↓reduceIte, Nat.reduceAdd, Nat.reduceMul, Nat.reduceSub, Nat.reduceEqDiff, Int.reduceToNat, Int.toNat_natCast, Int.reduceNeg, Int.reduceAdd, Int.reduceSub, Int.reduceMul, q9, gk]
          rfl
        · simp
        · intro j hj
          dsimp only
          rw [List.length_append] at hj
          simp only [List.length_cons, List.length_nil] at hj
          by_cases e : j = F.length
          · rw [wr_s ⟨rfl, e⟩, gd_r (by omega), e, Nat.sub_self]; rfl
          · rw [wr_n (Or.inr e), gd_l (by omega)]; exact h3 j (by omega)
        · intro j hj
          dsimp only
          rw [wr_n (Or.inr (by omega))]; exact h4 j (by omega)
        · intro a ha
          dsimp only
          rw [wr_k ha]; exact h5 a ha)
    (by
      rintro ⟨l, i, M'⟩ ⟨h1, h2, h3, h4, h5⟩
      dsimp only at h1 h2 h3 h4 h5
      subst h1; subst h2
      rw [List.take_length] at h3
      have q9 : M' p 9 = iI (arrL D).length := by rw [h5 p (by omega), wr_k (by omega)]; exact nL
      refine ⟨(iI (((arrL D).take (arrL D).length).filter (fun v => decide (v ≠ w))).length, M'), ?_, ?_, h3, h5⟩
      · show fX0_drop_B11 p (iI w) _ (iI (arrL D).length) M' = _
        unfold fX0_drop_B11
        rw [nq_ltS, q9, if_pos ((iI_le (by omega) (by omega)).mpr (by omega))]
      · dsimp only
        rw [List.take_length])
  obtain ⟨⟨l, M2⟩, e, r1, r2, r3⟩ := key
  dsimp only at r1 r2 r3
  have fl : ((arrL D).filter (fun v => decide (v ≠ w))).length ≤ (arrL D).length := List.length_filter_le _ _
  refine ⟨nq_wr M2 p 9 l, ?_, ?_, ?_⟩
  · unfold fX0_drop fX0_drop_L11 fX0_drop_L50
    simp (disch := omega) only [il_0, il_1, il_2, il_3, il_4, il_5, il_6, il_7, il_8, il_9, il_10, il_11, il_12, il_13, il_16, il_20, il_30, il_31, il_32, il_33, il_36, il_37, il_38, il_40, il_41, il_42, il_43, il_45, il_47, il_48, il_50, il_57, il_60, il_61, il_62, il_70, il_71, il_79, il_80, il_97, il_98, il_99, il_100, il_107, il_110, il_111, il_114, il_115, il_116, il_121, il_124, il_128, il_130, il_140, il_160, il_255, il_399, il_540, il_590, il_610, il_999, il_1000, il_1250, il_10000, il_12345, il_99999, il_1000000, il_1103515245, ll_0, ll_1, ll_2, ll_3, ll_4, ll_5, ll_6, ll_7, ll_8, ll_9, ll_30, ll_48, ll_50, ll_57, ll_99, ll_100, ll_255, ll_399, ll_999, ll_99999, iI_neg, iI_as, nq_bs, Int.toNat_natCast]
    rw [e]
    rfl
  · intro k hk
    rw [wr_k (by omega), r3 k (by omega), wr_k (by omega)]
  · refine ⟨?_, ?_, ?_, ?_, ?_, ?_⟩
    · rw [wr_n (by omega), r3 p (by omega), wr_k (by omega), upI_n (by omega)]; exact g1
    · rw [upI_n (by omega)]; exact w1
    · intro v hv f hf
      rw [wr_k (by omega)]
      by_cases e9 : p + 1 + f = p + 9
      · omega
      · rw [r3 _ e9]
        by_cases e : v = w ∧ f = 5
        · obtain ⟨rfl, rfl⟩ := e
          rw [wr_s ⟨by omega, rfl⟩, upI_s (by omega)]
        · rw [wr_n (by omega), upI_n (by omega)]; exact g3 v hv f hf
    · rw [wr_s ⟨rfl, rfl⟩, eA, iI_nat]; exact r1
    · rw [eA]
      intro i hi
      rw [wr_k (by omega), iI_nat]; exact r2 i hi
    · intro v hv
      rw [upI_n (by omega)] at hv
      obtain ⟨a0, a1, a2, a3, a4, a5, a6, a7, a8⟩ := g6 v hv
      have a8' : sentOK (upI D (615 + 8 * w) (-1)) v := a8.frame (upI_n (by omega)) (fun v hv => upI_n (by omega))
      unfold wordOK
      by_cases e : v = w
      · subst e
        simp (disch := omega) only [upI_s, upI_n]
        exact ⟨a0, a1, a2, a3, a4, by omega, a6, a7, a8'⟩
      · simp (disch := omega) only [upI_n]
        exact ⟨a0, a1, a2, a3, a4, a5, a6, a7, a8'⟩
theorem queue8 {M : Mem} {p w : Nat} {A B : List Nat} {cm : Nat → Int} (hlen : A.length + B.length < 80) (h9 : M p 9 = iI ((A.length + B.length : Nat) : Int)) (harr : ∀ i, i < A.length + B.length → M (p + 9) i = iI ((A ++ B).getD i 0 : Nat)) (hcm : ∀ v, v ∈ A ++ B → v < 80 ∧ M (p + 6) v = iI (cm v) ∧ inR (cm v)) (hw : w < 80 ∧ M (p + 6) w = iI (cm w) ∧ inR (cm w)) (hA : ∀ v, v ∈ A → cm v ≤ cm w) (hB : ∀ v, v ∈ B → cm w < cm v) : ∃ M', fX0_queue p (iI w) M = some M' ∧ (∀ k, k ≠ p → k ≠ p + 9 → M' k = M k) ∧ (∀ j, j ≠ 9 → M' p j = M p j) ∧ M' p 9 = iI ((A.length + B.length + 1 : Nat) : Int) ∧ ∀ i, i < A.length + B.length + 1 → M' (p + 9) i = iI ((A ++ w :: B).getD i 0 : Nat) := by
  obtain ⟨hw1, hw2, hw3⟩ := hw
  have lAB : (A ++ B).length = A.length + B.length := List.length_append
  have key := nq_for0 (body := fun s : Int32 × Int32 × Mem => fX0_queue_B10 p (iI w) s.1 s.2.1 s.2.2) B.length
    (fun k s => s.1 = iI ((A.length + B.length : Nat) - (k : Int)) ∧ s.2.1 = iI ((A.length + B.length : Nat) - (k : Int)) ∧ (∀ j, j + k < A.length + B.length → s.2.2 (p + 9) j = iI ((A ++ B).getD j 0 : Nat)) ∧ (∀ j, A.length + B.length < j + k → j ≤ A.length + B.length → s.2.2 (p + 9) j = iI ((A ++ B).getD (j - 1) 0 : Nat)) ∧ ∀ a, a ≠ p + 9 → s.2.2 a = M a)
    (fun r => r.1 = iI (A.length : Int) ∧ (∀ j, j < A.length → r.2 (p + 9) j = iI ((A ++ B).getD j 0 : Nat)) ∧ (∀ j, A.length < j → j ≤ A.length + B.length → r.2 (p + 9) j = iI ((A ++ B).getD (j - 1) 0 : Nat)) ∧ ∀ a, a ≠ p + 9 → r.2 a = M a)
    (s := (iI ((A.length + B.length : Nat) : Int), iI ((A.length + B.length : Nat) : Int), M)) (by omega)
    ⟨by simp, by simp, fun j hj => harr j (by omega), fun j h1 h2 => by omega, fun _ _ => rfl⟩
    (by
      rintro k ⟨l, i, M'⟩ hk ⟨h1, h2, h3, h4, h5⟩
      dsimp only at h1 h2 h3 h4 h5
      subst h1; subst h2
      left
      have q1 := h3 (A.length + B.length - k - 1) (by omega)
      have hm : (A ++ B).getD (A.length + B.length - k - 1) 0 ∈ B := by
        rw [gd_r (by omega)]; exact gd_mem (by omega)
      generalize hv : (A ++ B).getD (A.length + B.length - k - 1) 0 = v at *
      obtain ⟨v1, v2, v3⟩ := hcm v (List.mem_append.mpr (Or.inr hm))
      have := hB v hm
      have c6 := h5 (p + 6) (by omega)
      have en : ((A.length + B.length : Nat) - (k : Int) - 1).toNat = A.length + B.length - k - 1 := by omega
      have en2 : ((A.length + B.length : Nat) - (k : Int)).toNat = A.length + B.length - k := by omega
      refine ⟨(iI ((A.length + B.length : Nat) - ((k + 1 : Nat) : Int)), iI ((A.length + B.length : Nat) - ((k + 1 : Nat) : Int)), nq_wr M' (p + 9) (A.length + B.length - k) (iI v)), ?_, rfl, rfl, ?_, ?_, ?_⟩
      · show fX0_queue_B10 p (iI w) (iI ((A.length + B.length : Nat) - (k : Int))) (iI ((A.length + B.length : Nat) - (k : Int))) M' = _
        unfold fX0_queue_B10
        simp (disch := omega) only [il_0, il_1, il_2, il_3, il_4, il_5, il_6, il_7, il_8, il_9, il_10, il_11, il_12, il_13, il_16, il_20, il_30, il_31, il_32, il_33, il_36, il_37, il_38, il_40, il_41, il_42, il_43, il_45, il_47, il_48, il_50, il_57, il_60, il_61, il_62, il_70, il_71, il_79, il_80, il_97, il_98, il_99, il_100, il_107, il_110, il_111, il_114, il_115, il_116, il_121, il_124, il_128, il_130, il_140, il_160, il_255, il_399, il_540, il_590, il_610, il_999, il_1000, il_1250, il_10000, il_12345, il_99999, il_1000000, il_1103515245, ll_0, ll_1, ll_2, ll_3, ll_4, ll_5, ll_6, ll_7, ll_8, ll_9, ll_30, ll_48, ll_50, ll_57, ll_99, ll_100, ll_255, ll_399, ll_999, ll_99999, nq_bs, nq_ltS, nq_b2S, b2_id, bi_id, iI_add, iI_sub, iI_mul, iI_neg, lI_neg, iI_64, iI_lt, iI_le, iI_eq, iI_ag, iI_as, iI_ar, iI_dv, iI_rem, isOut8, in9, bo_nz, bo_t, bo_f, wr_s, wr_n, wr_k, if_pos, if_neg, ↓reduceIte, Nat.reduceAdd, Nat.reduceMul, Nat.reduceSub, Nat.reduceEqDiff, Int.reduceToNat, Int.toNat_natCast, Int.reduceNeg, Int.reduceAdd, Int.reduceSub, Int.reduceMul, en, en2, q1, c6, v2, hw2]
        rw [show ((A.length + B.length : Nat) : Int) - (k : Int) - 1 = ((A.length + B.length : Nat) : Int) - ((k + 1 : Nat) : Int) by omega, show ((A.length + B.length : Nat) : Int) - (k : Int) + -1 = ((A.length + B.length : Nat) : Int) - ((k + 1 : Nat) : Int) by omega]
      · intro j hj
        dsimp only
        rw [wr_n (Or.inr (by omega))]; exact h3 j (by omega)
      · intro j h1 h2
        dsimp only
        by_cases e : j = A.length + B.length - k
        · rw [wr_s ⟨rfl, e⟩, e, hv]
        · rw [wr_n (Or.inr e)]; exact h4 j (by omega) h2
      · intro a ha
        dsimp only
        rw [wr_k ha]; exact h5 a ha)
    (by
      rintro ⟨l, i, M'⟩ ⟨h1, h2, h3, h4, h5⟩
      dsimp only at h1 h2 h3 h4 h5
      subst h1; subst h2
      have eA : ((A.length + B.length : Nat) : Int) - (B.length : Int) = (A.length : Int) := by omega
      rw [eA]
      have c6 := h5 (p + 6) (by omega)
      refine ⟨(iI (A.length : Int), M'), ?_, rfl, ?_, ?_, h5⟩
      · show fX0_queue_B10 p (iI w) (iI (A.length : Int)) (iI (A.length : Int)) M' = _
        unfold fX0_queue_B10
        by_cases c : A.length = 0
        · simp (disch := omega) only [il_0, il_1, il_2, il_3, il_4, il_5, il_6, il_7, il_8, il_9, il_10, il_11, il_12, il_13, il_16, il_20, il_30, il_31, il_32, il_33, il_36, il_37, il_38, il_40, il_41, il_42, il_43, il_45, il_47, il_48, il_50, il_57, il_60, il_61, il_62, il_70, il_71, il_79, il_80, il_97, il_98, il_99, il_100, il_107, il_110, il_111, il_114, il_115, il_116, il_121, il_124, il_128, il_130, il_140, il_160, il_255, il_399, il_540, il_590, il_610, il_999, il_1000, il_1250, il_10000, il_12345, il_99999, il_1000000, il_1103515245, ll_0, ll_1, ll_2, ll_3, ll_4, ll_5, ll_6, ll_7, ll_8, ll_9, ll_30, ll_48, ll_50, ll_57, ll_99, ll_100, ll_255, ll_399, ll_999, ll_99999, nq_bs, nq_ltS, nq_b2S, b2_id, bi_id, iI_add, iI_sub, iI_mul, iI_neg, lI_neg, iI_64, iI_lt, iI_le, iI_eq, iI_ag, iI_as, iI_ar, iI_dv, iI_rem, isOut8, in9, bo_nz, bo_t, bo_f, wr_s, wr_n, wr_k, if_pos, if_neg, ↓reduceIte, Nat.reduceAdd, Nat.reduceMul, Nat.reduceSub, Nat.reduceEqDiff, Int.reduceToNat, Int.toNat_natCast, Int.reduceNeg, Int.reduceAdd, Int.reduceSub, Int.reduceMul]
        · have q1 := h3 (A.length - 1) (by omega)
          have hm : (A ++ B).getD (A.length - 1) 0 ∈ A := by
            rw [gd_l (by omega)]; exact gd_mem (by omega)
          generalize hv : (A ++ B).getD (A.length - 1) 0 = v at *
          obtain ⟨v1, v2, v3⟩ := hcm v (List.mem_append.mpr (Or.inl hm))
          have := hA v hm
          have en : ((A.length : Int) - 1).toNat = A.length - 1 := by omega
          simp (disch := omega) only [il_0, il_1, il_2, il_3, il_4, il_5, il_6, il_7, il_8, il_9, il_10, il_11, il_12, il_13, il_16, il_20, il_30, il_31, il_32, il_33, il_36, il_37, il_38, il_40, il_41, il_42, il_43, il_45, il_47, il_48, il_50, il_57, il_60, il_61, il_62, il_70, il_71, il_79, il_80, il_97, il_98, il_99, il_100, il_107, il_110, il_111, il_114, il_115, il_116, il_121, il_124, il_128, il_130, il_140, il_160, il_255, il_399, il_540, il_590, il_610, il_999, il_1000, il_1250, il_10000, il_12345, il_99999, il_1000000, il_1103515245, ll_0, ll_1, ll_2, ll_3, ll_4, ll_5, ll_6, ll_7, ll_8, ll_9, ll_30, ll_48, ll_50, ll_57, ll_99, ll_100, ll_255, ll_399, ll_999, ll_99999, nq_bs, nq_ltS, nq_b2S, b2_id, bi_id, iI_add, iI_sub, iI_mul, iI_neg, lI_neg, iI_64, iI_lt, iI_le, iI_eq, iI_ag, iI_as, iI_ar, iI_dv, iI_rem, isOut8, in9, bo_nz, bo_t, bo_f, wr_s, wr_n, wr_k, if_pos, if_neg, ↓reduceIte, Nat.reduceAdd, Nat.reduceMul, Nat.reduceSub, Nat.reduceEqDiff, Int.reduceToNat, Int.toNat_natCast, Int.reduceNeg, Int.reduceAdd, Int.reduceSub, Int.reduceMul, en, q1, c6, v2, hw2]
      · intro j hj; exact h3 j (by omega)
      · intro j h1 h2; exact h4 j (by omega) h2)
  obtain ⟨⟨l, M2⟩, e, r1, r2, r3, r4⟩ := key
  dsimp only at r1 r2 r3 r4
  subst r1
  have q9 : M2 p 9 = iI ((A.length + B.length : Nat) : Int) := by rw [r4 p (by omega)]; exact h9
  refine ⟨nq_wr (nq_wr M2 (p + 9) A.length (iI w)) p 9 (iI ((A.length + B.length + 1 : Nat) : Int)), ?_, ?_, ?_, ?_, ?_⟩
  · unfold fX0_queue fX0_queue_L10 fX0_queue_L60
    simp only [nq_ltS]
    rw [h9, e]
    simp (disch := omega) only [il_0, il_1, il_2, il_3, il_4, il_5, il_6, il_7, il_8, il_9, il_10, il_11, il_12, il_13, il_16, il_20, il_30, il_31, il_32, il_33, il_36, il_37, il_38, il_40, il_41, il_42, il_43, il_45, il_47, il_48, il_50, il_57, il_60, il_61, il_62, il_70, il_71, il_79, il_80, il_97, il_98, il_99, il_100, il_107, il_110, il_111, il_114, il_115, il_116, il_121, il_124, il_128, il_130, il_140, il_160, il_255, il_399, il_540, il_590, il_610, il_999, il_1000, il_1250, il_10000, il_12345, il_99999, il_1000000, il_1103515245, ll_0, ll_1, ll_2, ll_3, ll_4, ll_5, ll_6, ll_7, ll_8, ll_9, ll_30, ll_48, ll_50, ll_57, ll_99, ll_100, ll_255, ll_399, ll_999, ll_99999, nq_bs, nq_ltS, nq_b2S, b2_id, bi_id, iI_add, iI_sub, iI_mul, iI_neg, lI_neg, iI_64, iI_lt, iI_le, iI_eq, iI_ag, iI_as, iI_ar, iI_dv, iI_rem, isOut8, in9, bo_nz, bo_t, bo_f, wr_s, wr_n, wr_k, if_pos, if_neg, ↓reduceIte, Nat.reduceAdd, Nat.reduceMul, Nat.reduceSub, Nat.reduceEqDiff, Int.reduceToNat, Int.toNat_natCast, Int.reduceNeg, Int.reduceAdd, Int.reduceSub, Int.reduceMul, q9]
    rfl
  · intro k h1 h2
    rw [wr_k h1, wr_k h2, r4 k h2]
  · intro j hj
    rw [wr_n (Or.inr hj), wr_k (by omega), r4 p (by omega)]
  · rw [wr_s ⟨rfl, rfl⟩]
  · intro i hi
    rw [wr_k (by omega)]
    by_cases c1 : i = A.length
    · subst c1
      rw [wr_s ⟨rfl, rfl⟩, gd_r (Nat.le_refl _), Nat.sub_self]; rfl
    · rw [wr_n (Or.inr c1)]
      by_cases c2 : i < A.length
      · rw [r2 i c2, gd_l c2, gd_l c2]
      · rw [r3 i (by omega) (by omega), gd_r (by omega), gd_r (by omega), show i - A.length = (i - 1 - A.length) + 1 by omega]
        rfl
theorem hop_lose (a0 : Int32) (Mx Mm : Mem) (h : RR Mx Mm) : ∃ (r : Int32) (Mx1 Mm1 : Mem), fX8_lose a0 Mx = some (r, Mx1) ∧ fX9_lose a0 Mm = some (r, Mm1) ∧ RR Mx1 Mm1 := by
  obtain ⟨D, hc⟩ := h.1
  have hc' := hc
  obtain ⟨h0, hS, hR, hL, hA, hT⟩ := hc'
  have p0 : Mx 3 0 = iI (D 1) := hR.1
  have p1 := hR.2.1
  have p0m : Mm 1 1 = iI (D 1) := h0 1 (by omega)
  have w0m : Mm 1 2 = iI (D 2) := h0 2 (by omega)
  have w0 : Mx 6 0 = iI (D 2) := hL.1
  have w1 := hL.2.1
  obtain ⟨⟨s0, s5, s6, s7, s4, s9, s3, s10⟩, s0', s4', s5', s6', s7', s8', s9', s3', s10'⟩ := hS
  have hS := hc.2.1
  obtain ⟨x, hx, rfl⟩ := iI_of a0
  by_cases gx : 0 ≤ x ∧ x < D 2
  · obtain ⟨w, rfl⟩ := Int.eq_ofNat_of_zero_le gx.1
    obtain ⟨_, _, _, _, _, f6, _⟩ := hL.fld (show w < 80 by omega)
    have k6 := (hL.2.2.2.2.2 w (by omega)).2.2.2.2.2.1
    simp only [Nat.reduceAdd] at f6
    by_cases gc : D 0 < D (615 + 8 * w)
    · obtain ⟨M', e1, e2, e3⟩ := drop8 hL gx.2
      simp only [Nat.reduceAdd] at e1 e2 e3
      refine ⟨iI 1, M', nq_wr Mm 1 (615 + 8 * w) (iI (-1)), ?_, ?_, ?_⟩
      · unfold fX8_lose
        simp (disch := omega) only [il_0, il_1, il_2, il_3, il_4, il_5, il_6, il_7, il_8, il_9, il_10, il_11, il_12, il_13, il_16, il_20, il_30, il_31, il_32, il_33, il_36, il_37, il_38, il_40, il_41, il_42, il_43, il_45, il_47, il_48, il_50, il_57, il_60, il_61, il_62, il_70, il_71, il_79, il_80, il_97, il_98, il_99, il_100, il_107, il_110, il_111, il_114, il_115, il_116, il_121, il_124, il_128, il_130, il_140, il_160, il_255, il_399, il_540, il_590, il_610, il_999, il_1000, il_1250, il_10000, il_12345, il_99999, il_1000000, il_1103515245, ll_0, ll_1, ll_2, ll_3, ll_4, ll_5, ll_6, ll_7, ll_8, ll_9, ll_30, ll_48, ll_50, ll_57, ll_99, ll_100, ll_255, ll_399, ll_999, ll_99999, nq_bs, nq_ltS, nq_b2S, b2_id, bi_id, iI_add, iI_sub, iI_mul, iI_neg, lI_neg, iI_64, iI_lt, iI_le, iI_eq, iI_ag, iI_as, iI_ar, iI_dv, iI_rem, isOut8, in9, bo_nz, bo_t, bo_f, wr_s, wr_n, wr_k, if_pos, if_neg, ↓reduceIte, Nat.reduceAdd, Nat.reduceMul, Nat.reduceSub, Nat.reduceEqDiff, Int.reduceToNat, Int.toNat_natCast, Int.reduceNeg, Int.reduceAdd, Int.reduceSub, Int.reduceMul, isPlace8 p0 p1, isPlace9 p0m p1, areTwo8 p0 p1, areTwo9 p0m p1, isPair8 p0 p1, areFt9 p0m p1, isPact8, isPact9, isWord8 w0 w1, isWord9 w0m w1, isSheet8, isSheet9, isPart8, isPart9, f6, s0, e1]
      · unfold fX9_lose
        simp (disch := omega) only [il_0, il_1, il_2, il_3, il_4, il_5, il_6, il_7, il_8, il_9, il_10, il_11, il_12, il_13, il_16, il_20, il_30, il_31, il_32, il_33, il_36, il_37, il_38, il_40, il_41, il_42, il_43, il_45, il_47, il_48, il_50, il_57, il_60, il_61, il_62, il_70, il_71, il_79, il_80, il_97, il_98, il_99, il_100, il_107, il_110, il_111, il_114, il_115, il_116, il_121, il_124, il_128, il_130, il_140, il_160, il_255, il_399, il_540, il_590, il_610, il_999, il_1000, il_1250, il_10000, il_12345, il_99999, il_1000000, il_1103515245, ll_0, ll_1, ll_2, ll_3, ll_4, ll_5, ll_6, ll_7, ll_8, ll_9, ll_30, ll_48, ll_50, ll_57, ll_99, ll_100, ll_255, ll_399, ll_999, ll_99999, nq_bs, nq_ltS, nq_b2S, b2_id, bi_id, iI_add, iI_sub, iI_mul, iI_neg, lI_neg, iI_64, iI_lt, iI_le, iI_eq, iI_ag, iI_as, iI_ar, iI_dv, iI_rem, isOut8, in9, bo_nz, bo_t, bo_f, wr_s, wr_n, wr_k, if_pos, if_neg, ↓reduceIte, Nat.reduceAdd, Nat.reduceMul, Nat.reduceSub, Nat.reduceEqDiff, Int.reduceToNat, Int.toNat_natCast, Int.reduceNeg, Int.reduceAdd, Int.reduceSub, Int.reduceMul, isPlace8 p0 p1, isPlace9 p0m p1, areTwo8 p0 p1, areTwo9 p0m p1, isPair8 p0 p1, areFt9 p0m p1, isPact8, isPact9, isWord8 w0 w1, isWord9 w0m w1, isSheet8, isSheet9, isPart8, isPart9, wo9n h0, h0]
        rw [show (610 + 8 * (w : Int) + 5).toNat = 615 + 8 * w by omega]
      · refine h.upd (D := upI D (615 + 8 * w) (-1)) ?_ ⟨fun k hk => by simp (disch := omega) only [wr_k], by simp (disch := omega) only [wr_k, wr_n], by simp (disch := omega) only [wr_k, wr_n]⟩ ⟨row_wr h0, hS.frame (e2 2 (by omega)) (fun j hj => upI_n (by omega)), hR.frame (fun k h1 h2 => e2 k (by omega)) (fun j hj => upI_n (by omega)), e3, hA.frame (fun k h1 h2 => e2 k (by omega)) (fun j hj => upI_n (by omega)), hT.frame (fun k h1 h2 => e2 k (by omega)) (fun j hj => upI_n (by omega))⟩
        intro k hk
        exact e2 k (by omega)
    · exact h.ref 3 (by omega) (by omega) (by unfold fX8_lose; simp (disch := omega) only [il_0, il_1, il_2, il_3, il_4, il_5, il_6, il_7, il_8, il_9, il_10, il_11, il_12, il_13, il_16, il_20, il_30, il_31, il_32, il_33, il_36, il_37, il_38, il_40, il_41, il_42, il_43, il_45, il_47, il_48, il_50, il_57, il_60, il_61, il_62, il_70, il_71, il_79, il_80, il_97, il_98, il_99, il_100, il_107, il_110, il_111, il_114, il_115, il_116, il_121, il_124, il_128, il_130, il_140, il_160, il_255, il_399, il_540, il_590, il_610, il_999, il_1000, il_1250, il_10000, il_12345, il_99999, il_1000000, il_1103515245, ll_0, ll_1, ll_2, ll_3, ll_4, ll_5, ll_6, ll_7, ll_8, ll_9, ll_30, ll_48, ll_50, ll_57, ll_99, ll_100, ll_255, ll_399, ll_999, ll_99999, nq_bs, nq_ltS, nq_b2S, b2_id, bi_id, iI_add, iI_sub, iI_mul, iI_neg, lI_neg, iI_64, iI_lt, iI_le, iI_eq, iI_ag, iI_as, iI_ar, iI_dv, iI_rem, isOut8, in9, bo_nz, bo_t, bo_f, wr_s, wr_n, wr_k, if_pos, if_neg, ↓reduceIte, Nat.reduceAdd, Nat.reduceMul, Nat.reduceSub, Nat.reduceEqDiff, Int.reduceToNat, Int.toNat_natCast, Int.reduceNeg, Int.reduceAdd, Int.reduceSub, Int.reduceMul, isPlace8 p0 p1, isPlace9 p0m p1, areTwo8 p0 p1, areTwo9 p0m p1, isPair8 p0 p1, areFt9 p0m p1, isPact8, isPact9, isWord8 w0 w1, isWord9 w0m w1, isSheet8, isSheet9, isPart8, isPart9, f6, s0]) (by unfold fX9_lose; simp (disch := omega) only [il_0, il_1, il_2, il_3, il_4, il_5, il_6, il_7, il_8, il_9, il_10, il_11, il_12, il_13, il_16, il_20, il_30, il_31, il_32, il_33, il_36, il_37, il_38, il_40, il_41, il_42, il_43, il_45, il_47, il_48, il_50, il_57, il_60, il_61, il_62, il_70, il_71, il_79, il_80, il_97, il_98, il_99, il_100, il_107, il_110, il_111, il_114, il_115, il_116, il_121, il_124, il_128, il_130, il_140, il_160, il_255, il_399, il_540, il_590, il_610, il_999, il_1000, il_1250, il_10000, il_12345, il_99999, il_1000000, il_1103515245, ll_0, ll_1, ll_2, ll_3, ll_4, ll_5, ll_6, ll_7, ll_8, ll_9, ll_30, ll_48, ll_50, ll_57, ll_99, ll_100, ll_255, ll_399, ll_999, ll_99999, nq_bs, nq_ltS, nq_b2S, b2_id, bi_id, iI_add, iI_sub, iI_mul, iI_neg, lI_neg, iI_64, iI_lt, iI_le, iI_eq, iI_ag, iI_as, iI_ar, iI_dv, iI_rem, isOut8, in9, bo_nz, bo_t, bo_f, wr_s, wr_n, wr_k, if_pos, if_neg, ↓reduceIte, Nat.reduceAdd, Nat.reduceMul, Nat.reduceSub, Nat.reduceEqDiff, Int.reduceToNat, Int.toNat_natCast, Int.reduceNeg, Int.reduceAdd, Int.reduceSub, Int.reduceMul, isPlace8 p0 p1, isPlace9 p0m p1, areTwo8 p0 p1, areTwo9 p0m p1, isPair8 p0 p1, areFt9 p0m p1, isPact8, isPact9, isWord8 w0 w1, isWord9 w0m w1, isSheet8, isSheet9, isPart8, isPart9, wo9n h0, h0])
  · exact h.ref 1 (by omega) (by omega) (by unfold fX8_lose; simp (disch := omega) only [il_0, il_1, il_2, il_3, il_4, il_5, il_6, il_7, il_8, il_9, il_10, il_11, il_12, il_13, il_16, il_20, il_30, il_31, il_32, il_33, il_36, il_37, il_38, il_40, il_41, il_42, il_43, il_45, il_47, il_48, il_50, il_57, il_60, il_61, il_62, il_70, il_71, il_79, il_80, il_97, il_98, il_99, il_100, il_107, il_110, il_111, il_114, il_115, il_116, il_121, il_124, il_128, il_130, il_140, il_160, il_255, il_399, il_540, il_590, il_610, il_999, il_1000, il_1250, il_10000, il_12345, il_99999, il_1000000, il_1103515245, ll_0, ll_1, ll_2, ll_3, ll_4, ll_5, ll_6, ll_7, ll_8, ll_9, ll_30, ll_48, ll_50, ll_57, ll_99, ll_100, ll_255, ll_399, ll_999, ll_99999, nq_bs, nq_ltS, nq_b2S, b2_id, bi_id, iI_add, iI_sub, iI_mul, iI_neg, lI_neg, iI_64, iI_lt, iI_le, iI_eq, iI_ag, iI_as, iI_ar, iI_dv, iI_rem, isOut8, in9, bo_nz, bo_t, bo_f, wr_s, wr_n, wr_k, if_pos, if_neg, ↓reduceIte, Nat.reduceAdd, Nat.reduceMul, Nat.reduceSub, Nat.reduceEqDiff, Int.reduceToNat, Int.toNat_natCast, Int.reduceNeg, Int.reduceAdd, Int.reduceSub, Int.reduceMul, isPlace8 p0 p1, isPlace9 p0m p1, areTwo8 p0 p1, areTwo9 p0m p1, isPair8 p0 p1, areFt9 p0m p1, isPact8, isPact9, isWord8 w0 w1, isWord9 w0m w1, isSheet8, isSheet9, isPart8, isPart9, h0]) (by unfold fX9_lose; simp (disch := omega) only [il_0, il_1, il_2, il_3, il_4, il_5, il_6, il_7, il_8, il_9, il_10, il_11, il_12, il_13, il_16, il_20, il_30, il_31, il_32, il_33, il_36, il_37, il_38, il_40, il_41, il_42, il_43, il_45, il_47, il_48, il_50, il_57, il_60, il_61, il_62, il_70, il_71, il_79, il_80, il_97, il_98, il_99, il_100, il_107, il_110, il_111, il_114, il_115, il_116, il_121, il_124, il_128, il_130, il_140, il_160, il_255, il_399, il_540, il_590, il_610, il_999, il_1000, il_1250, il_10000, il_12345, il_99999, il_1000000, il_1103515245, ll_0, ll_1, ll_2, ll_3, ll_4, ll_5, ll_6, ll_7, ll_8, ll_9, ll_30, ll_48, ll_50, ll_57, ll_99, ll_100, ll_255, ll_399, ll_999, ll_99999, nq_bs, nq_ltS, nq_b2S, b2_id, bi_id, iI_add, iI_sub, iI_mul, iI_neg, lI_neg, iI_64, iI_lt, iI_le, iI_eq, iI_ag, iI_as, iI_ar, iI_dv, iI_rem, isOut8, in9, bo_nz, bo_t, bo_f, wr_s, wr_n, wr_k, if_pos, if_neg, ↓reduceIte, Nat.reduceAdd, Nat.reduceMul, Nat.reduceSub, Nat.reduceEqDiff, Int.reduceToNat, Int.toNat_natCast, Int.reduceNeg, Int.reduceAdd, Int.reduceSub, Int.reduceMul, isPlace8 p0 p1, isPlace9 p0m p1, areTwo8 p0 p1, areTwo9 p0m p1, isPair8 p0 p1, areFt9 p0m p1, isPact8, isPact9, isWord8 w0 w1, isWord9 w0m w1, isSheet8, isSheet9, isPart8, isPart9, h0])
