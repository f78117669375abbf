/-! 16.e: hop: check -/
theorem range_getD {n k : Nat} (h : k < n) : (List.range n).getD k 0 = k := by
  rw [List.getD_eq_getElem?_getD, List.getElem?_range h]; rfl
theorem takeWhile_true {l : List Nat} : l.takeWhile (fun _ => true) = l := by
  induction l with
  | nil => rfl
  | cons a l ih => simp only [List.takeWhile_cons, if_true]; rw [ih]
/-- one number that waits against one word -/
def ckG (D : Nat → Int) (x y n : Int) (a : Nat) (w : Nat) : Nat ⊕ Int32 := if D (612 + 8 * w) = x ∧ D (613 + 8 * w) = y then (if n ≤ a ∨ D (590 + a) ≠ w then .inr (iI (1 + a)) else .inl (a + 1)) else .inl a
theorem ckG_le {D : Nat → Int} {x y n : Int} {a a' w : Nat} (h : ckG D x y n a w = .inl a') (ha : (a : Int) ≤ n) : (a' : Int) ≤ n ∧ a' ≤ a + 1 := by
  unfold ckG at h
  split at h
  · split at h
    · cases h
    · cases h; omega
  · cases h; omega
def ckV (D : Nat → Int) (x y n : Int) : Int32 := match runL (ckG D x y n) (arrU D (D 0 + 1).toNat) 0 with | .inl a => if n ≤ a then iI 0 else iI (1 + a) | .inr r => r
theorem first8 {M : Mem} {D : Nat → Int} {x y n : Int} (hL : GL M 6 D) (h9 : M 2 9 = iI (D 0)) (s0 : 0 ≤ D 0 ∧ D 0 ≤ 399) (hw : ∀ j, j < 20 → M 22 j = iI (D (590 + j)) ∧ inR (D (590 + j))) (hx : inR x) (hy : inR y) (hn : 0 ≤ n ∧ n ≤ 20) : fX8_firstUnlike (iI x) (iI y) (iI n) M = some (ckV D x y n) := by
  have w1 := hL.2.1
  have len := arrL_len w1
  have nL : M 6 9 = iI (arrL D).length := by rw [← iI_nat]; exact hL.2.2.2.1
  have e := lp_listE (body := fun s : Int32 × Int32 => fX8_firstUnlike_B15 (iI x) (iI y) (iI n) s.1 s.2 M) (fun k (a : Nat) => (iI a, iI k)) (fun a => iI a) (ckG D x y n) (arrL D) (fun w => decide (D (615 + 8 * w) ≤ D 0)) (fun _ a => (a : Int) ≤ n)
    (by
      intro k a hk ha
      obtain ⟨m1, m2⟩ := arrL_getD hk
      have gk : M 15 k = iI ((arrL D).getD k 0 : Nat) := by rw [← iI_nat]; exact hL.2.2.2.2.1 k hk
      generalize (arrL D).getD k 0 = w at *
      have f6 : M 12 w = iI (D (615 + 8 * w)) := (hL.fld (show w < 80 by omega)).2.2.2.2.2.1
      obtain ⟨_, _, _, _, _, k6, _⟩ := hL.2.2.2.2.2 w (by omega)
      show fX8_firstUnlike_B15 (iI x) (iI y) (iI n) (iI a) (iI k) M = _
      unfold fX8_firstUnlike_B15 ckG
      by_cases c : D (615 + 8 * w) ≤ D 0
      · by_cases c2 : D (612 + 8 * w) = x ∧ D (613 + 8 * w) = y
        · by_cases c3 : n ≤ a
          · simp (disch := omega) only [il_0, il_1, il_2, il_3, il_4, il_5, il_6, il_7, il_8, il_9, il_10, il_11, il_12, il_13, il_16, il_20, il_30, il_31, il_32, il_33, il_36, il_37, il_38, il_40, il_41, il_42, il_43, il_45, il_47, il_48, il_50, il_57, il_60, il_61, il_62, il_70, il_71, il_79, il_80, il_97, il_98, il_99, il_100, il_107, il_110, il_111, il_114, il_115, il_116, il_121, il_124, il_128, il_130, il_140, il_160, il_255, il_399, il_540, il_590, il_610, il_999, il_1000, il_1250, il_10000, il_12345, il_99999, il_1000000, il_1103515245, ll_0, ll_1, ll_2, ll_3, ll_4, ll_5, ll_6, ll_7, ll_8, ll_9, ll_30, ll_48, ll_50, ll_57, ll_99, ll_100, ll_255, ll_399, ll_999, ll_99999, nq_bs, nq_ltS, nq_b2S, b2_id, bi_id, iI_add, iI_sub, iI_mul, iI_neg, lI_neg, iI_64, iI_lt, iI_le, iI_eq, iI_ag, iI_as, iI_ar, iI_dv, iI_rem, isOut8, in9, bo_nz, bo_t, bo_f, wr_s, wr_n, wr_k, if_pos, if_neg, ↓reduceIte, Nat.reduceAdd, Nat.reduceMul, Nat.reduceSub, Nat.reduceEqDiff, Int.reduceToNat, Int.toNat_natCast, Int.reduceNeg, Int.reduceAdd, Int.reduceSub, Int.reduceMul, nL, gk, f6, h9, isFor8 hL, decide_eq_true_eq]
          · obtain ⟨q1, q2⟩ := hw a (by omega)
            by_cases c4 : D (590 + a) = w
            · simp (disch := omega) only [il_0, il_1, il_2, il_3, il_4, il_5, il_6, il_7, il_8, il_9, il_10, il_11, il_12, il_13, il_16, il_20, il_30, il_31, il_32, il_33, il_36, il_37, il_38, il_40, il_41, il_42, il_43, il_45, il_47, il_48, il_50, il_57, il_60, il_61, il_62, il_70, il_71, il_79, il_80, il_97, il_98, il_99, il_100, il_107, il_110, il_111, il_114, il_115, il_116, il_121, il_124, il_128, il_130, il_140, il_160, il_255, il_399, il_540, il_590, il_610, il_999, il_1000, il_1250, il_10000, il_12345, il_99999, il_1000000, il_1103515245, ll_0, ll_1, ll_2, ll_3, ll_4, ll_5, ll_6, ll_7, ll_8, ll_9, ll_30, ll_48, ll_50, ll_57, ll_99, ll_100, ll_255, ll_399, ll_999, ll_99999, nq_bs, nq_ltS, nq_b2S, b2_id, bi_id, iI_add, iI_sub, iI_mul, iI_neg, lI_neg, iI_64, iI_lt, iI_le, iI_eq, iI_ag, iI_as, iI_ar, iI_dv, iI_rem, isOut8, in9, bo_nz, bo_t, bo_f, wr_s, wr_n, wr_k, if_pos, if_neg, ↓reduceIte, Nat.reduceAdd, Nat.reduceMul, Nat.reduceSub, Nat.reduceEqDiff, Int.reduceToNat, Int.toNat_natCast, Int.reduceNeg, Int.reduceAdd, Int.reduceSub, Int.reduceMul, nL, gk, f6, h9, isFor8 hL, decide_eq_true_eq, q1]
              rfl
            · simp (disch := omega) only [il_0, il_1, il_2, il_3, il_4, il_5, il_6, il_7, il_8, il_9, il_10, il_11, il_12, il_13, il_16, il_20, il_30, il_31, il_32, il_33, il_36, il_37, il_38, il_40, il_41, il_42, il_43, il_45, il_47, il_48, il_50, il_57, il_60, il_61, il_62, il_70, il_71, il_79, il_80, il_97, il_98, il_99, il_100, il_107, il_110, il_111, il_114, il_115, il_116, il_121, il_124, il_128, il_130, il_140, il_160, il_255, il_399, il_540, il_590, il_610, il_999, il_1000, il_1250, il_10000, il_12345, il_99999, il_1000000, il_1103515245, ll_0, ll_1, ll_2, ll_3, ll_4, ll_5, ll_6, ll_7, ll_8, ll_9, ll_30, ll_48, ll_50, ll_57, ll_99, ll_100, ll_255, ll_399, ll_999, ll_99999, nq_bs, nq_ltS, nq_b2S, b2_id, bi_id, iI_add, iI_sub, iI_mul, iI_neg, lI_neg, iI_64, iI_lt, iI_le, iI_eq, iI_ag, iI_as, iI_ar, iI_dv, iI_rem, isOut8, in9, bo_nz, bo_t, bo_f, wr_s, wr_n, wr_k, if_pos, if_neg, ↓reduceIte, Nat.reduceAdd, Nat.reduceMul, Nat.reduceSub, Nat.reduceEqDiff, Int.reduceToNat, Int.toNat_natCast, Int.reduceNeg, Int.reduceAdd, Int.reduceSub, Int.reduceMul, nL, gk, f6, h9, isFor8 hL, decide_eq_true_eq, q1]
        · simp (disch := omega) only [il_0, il_1, il_2, il_3, il_4, il_5, il_6, il_7, il_8, il_9, il_10, il_11, il_12, il_13, il_16, il_20, il_30, il_31, il_32, il_33, il_36, il_37, il_38, il_40, il_41, il_42, il_43, il_45, il_47, il_48, il_50, il_57, il_60, il_61, il_62, il_70, il_71, il_79, il_80, il_97, il_98, il_99, il_100, il_107, il_110, il_111, il_114, il_115, il_116, il_121, il_124, il_128, il_130, il_140, il_160, il_255, il_399, il_540, il_590, il_610, il_999, il_1000, il_1250, il_10000, il_12345, il_99999, il_1000000, il_1103515245, ll_0, ll_1, ll_2, ll_3, ll_4, ll_5, ll_6, ll_7, ll_8, ll_9, ll_30, ll_48, ll_50, ll_57, ll_99, ll_100, ll_255, ll_399, ll_999, ll_99999, nq_bs, nq_ltS, nq_b2S, b2_id, bi_id, iI_add, iI_sub, iI_mul, iI_neg, lI_neg, iI_64, iI_lt, iI_le, iI_eq, iI_ag, iI_as, iI_ar, iI_dv, iI_rem, isOut8, in9, bo_nz, bo_t, bo_f, wr_s, wr_n, wr_k, if_pos, if_neg, ↓reduceIte, Nat.reduceAdd, Nat.reduceMul, Nat.reduceSub, Nat.reduceEqDiff, Int.reduceToNat, Int.toNat_natCast, Int.reduceNeg, Int.reduceAdd, Int.reduceSub, Int.reduceMul, nL, gk, f6, h9, isFor8 hL, decide_eq_true_eq]
          rfl
      · simp (disch := omega) only [il_0, il_1, il_2, il_3, il_4, il_5, il_6, il_7, il_8, il_9, il_10, il_11, il_12, il_13, il_16, il_20, il_30, il_31, il_32, il_33, il_36, il_37, il_38, il_40, il_41, il_42, il_43, il_45, il_47, il_48, il_50, il_57, il_60, il_61, il_62, il_70, il_71, il_79, il_80, il_97, il_98, il_99, il_100, il_107, il_110, il_111, il_114, il_115, il_116, il_121, il_124, il_128, il_130, il_140, il_160, il_255, il_399, il_540, il_590, il_610, il_999, il_1000, il_1250, il_10000, il_12345, il_99999, il_1000000, il_1103515245, ll_0, ll_1, ll_2, ll_3, ll_4, ll_5, ll_6, ll_7, ll_8, ll_9, ll_30, ll_48, ll_50, ll_57, ll_99, ll_100, ll_255, ll_399, ll_999, ll_99999, nq_bs, nq_ltS, nq_b2S, b2_id, bi_id, iI_add, iI_sub, iI_mul, iI_neg, lI_neg, iI_64, iI_lt, iI_le, iI_eq, iI_ag, iI_as, iI_ar, iI_dv, iI_rem, isOut8, in9, bo_nz, bo_t, bo_f, wr_s, wr_n, wr_k, if_pos, if_neg, ↓reduceIte, Nat.reduceAdd, Nat.reduceMul, Nat.reduceSub, Nat.reduceEqDiff, Int.reduceToNat, Int.toNat_natCast, Int.reduceNeg, Int.reduceAdd, Int.reduceSub, Int.reduceMul, nL, gk, f6, h9, decide_eq_true_eq])
    (by
      intro k a a' hk ha hg
      exact (ckG_le hg ha).1)
    (by
      intro a _
      show fX8_firstUnlike_B15 (iI x) (iI y) (iI n) (iI a) (iI (arrL D).length) M = _
      unfold fX8_firstUnlike_B15
      simp (disch := omega) only [il_0, il_1, il_2, il_3, il_4, il_5, il_6, il_7, il_8, il_9, il_10, il_11, il_12, il_13, il_16, il_20, il_30, il_31, il_32, il_33, il_36, il_37, il_38, il_40, il_41, il_42, il_43, il_45, il_47, il_48, il_50, il_57, il_60, il_61, il_62, il_70, il_71, il_79, il_80, il_97, il_98, il_99, il_100, il_107, il_110, il_111, il_114, il_115, il_116, il_121, il_124, il_128, il_130, il_140, il_160, il_255, il_399, il_540, il_590, il_610, il_999, il_1000, il_1250, il_10000, il_12345, il_99999, il_1000000, il_1103515245, ll_0, ll_1, ll_2, ll_3, ll_4, ll_5, ll_6, ll_7, ll_8, ll_9, ll_30, ll_48, ll_50, ll_57, ll_99, ll_100, ll_255, ll_399, ll_999, ll_99999, nq_bs, nq_ltS, nq_b2S, b2_id, bi_id, iI_add, iI_sub, iI_mul, iI_neg, lI_neg, iI_64, iI_lt, iI_le, iI_eq, iI_ag, iI_as, iI_ar, iI_dv, iI_rem, isOut8, in9, bo_nz, bo_t, bo_f, wr_s, wr_n, wr_k, if_pos, if_neg, ↓reduceIte, Nat.reduceAdd, Nat.reduceMul, Nat.reduceSub, Nat.reduceEqDiff, Int.reduceToNat, Int.toNat_natCast, Int.reduceNeg, Int.reduceAdd, Int.reduceSub, Int.reduceMul, nL])
    (arrL D).length nq_fuel 0 0 (by omega) (by unfold nq_fuel; omega) (by omega)
  rw [List.drop_zero, arrL_take (by omega) (by omega)] at e
  unfold fX8_firstUnlike fX8_firstUnlike_L15 fX8_firstUnlike_L103
  rw [show ((0 : Int32), (0 : Int32)) = (iI ((0 : Nat) : Int), iI ((0 : Nat) : Int)) from rfl, e, nq_bs]
  have bnd : ∀ (l : List Nat) (a b : Nat), (a : Int) ≤ n → runL (ckG D x y n) l a = .inl b → (b : Int) ≤ n := by
    intro l
    induction l with
    | nil => intro a b ha h; cases h; exact ha
    | cons w l ih =>
      intro a b ha h
      simp only [runL] at h
      cases hg : ckG D x y n a w with
      | inl a' => rw [hg] at h; exact ih a' b (ckG_le hg ha).1 h
      | inr r => rw [hg] at h; cases h
  unfold ckV
  cases hr : runL (ckG D x y n) (arrU D (D 0 + 1).toNat) 0 with
  | inl b =>
    have := bnd _ _ _ (by omega) hr
    show (if iI n ≤ iI b then some 0 else some (1 + iI b)) = some (if n ≤ (b : Int) then iI 0 else iI (1 + (b : Int)))
    simp (disch := omega) only [il_0, il_1, il_2, il_3, il_4, il_5, il_6, il_7, il_8, il_9, il_10, il_11, il_12, il_13, il_16, il_20, il_30, il_31, il_32, il_33, il_36, il_37, il_38, il_40, il_41, il_42, il_43, il_45, il_47, il_48, il_50, il_57, il_60, il_61, il_62, il_70, il_71, il_79, il_80, il_97, il_98, il_99, il_100, il_107, il_110, il_111, il_114, il_115, il_116, il_121, il_124, il_128, il_130, il_140, il_160, il_255, il_399, il_540, il_590, il_610, il_999, il_1000, il_1250, il_10000, il_12345, il_99999, il_1000000, il_1103515245, ll_0, ll_1, ll_2, ll_3, ll_4, ll_5, ll_6, ll_7, ll_8, ll_9, ll_30, ll_48, ll_50, ll_57, ll_99, ll_100, ll_255, ll_399, ll_999, ll_99999, iI_add, iI_le]
    split <;> rfl
  | inr r => rfl
theorem check9 {M : Mem} {D : Nat → Int} {x y n : Int} (h0 : ∀ j, j < 1250 → M 1 j = iI (D j)) (w1 : 0 ≤ D 2 ∧ D 2 ≤ 80) (hk : ∀ w : Nat, (w : Int) < D 2 → wordOK D w) (s0 : 0 ≤ D 0 ∧ D 0 ≤ 399) (hw : ∀ j, j < 20 → inR (D (590 + j))) (hx : inR x) (hy : inR y) (hn : 0 ≤ n ∧ n ≤ 20) : fX9_check_L43 (iI x) (iI y) (iI n) (iI 0) (iI 0) M = some (ckV D x y n, M) := by
  have inner : ∀ (yr : Nat) (a : Nat), (yr : Int) ≤ D 0 → (a : Int) ≤ n → nq_lp (fun s : Int32 × Int32 => fX9_check_B57_43 (iI x) (iI y) (iI n) s.1 (iI yr) s.2 M) nq_fuel (iI a, iI 0) = some (match runL (ckG D x y n) (bkt D yr) a with | .inl b => .inl (iI b) | .inr r => .inr (r, M)) := by
    intro yr a hyr ha
    have e := lp_listE (body := fun s : Int32 × Int32 => fX9_check_B57_43 (iI x) (iI y) (iI n) s.1 (iI yr) s.2 M) (fun k (a : Nat) => (iI a, iI k)) (fun a => iI a) (fun a w => if (decide (D (615 + 8 * w) = (yr : Int))) = true then (match ckG D x y n a w with | .inl b => (.inl b : Nat ⊕ (Int32 × Mem)) | .inr r => .inr (r, M)) else .inl a) (List.range (D 2).toNat) (fun _ => true) (fun _ a => (a : Int) ≤ n)
      (by
        intro k a hk2 ha
        rw [List.length_range] at hk2
        rw [range_getD hk2, if_pos rfl]
        have ok := hk k (by omega)
        have hc := hasCome9 h0 (show k < 80 by omega) ok hx hy (show inR (yr : Int) by omega)
        have k6 := ok.2.2.2.2.2.1
        show fX9_check_B57_43 (iI x) (iI y) (iI n) (iI a) (iI yr) (iI k) M = _
        unfold fX9_check_B57_43 ckG
        by_cases c : D (615 + 8 * k) = (yr : Int)
        · rw [if_pos (show decide (D (615 + 8 * k) = (yr : Int)) = true by rw [decide_eq_true_eq]; exact c)]
          by_cases c2 : D (612 + 8 * k) = x ∧ D (613 + 8 * k) = y
          · by_cases c3 : n ≤ a
            · simp (disch := omega) only [il_0, il_1, il_2, il_3, il_4, il_5, il_6, il_7, il_8, il_9, il_10, il_11, il_12, il_13, il_16, il_20, il_30, il_31, il_32, il_33, il_36, il_37, il_38, il_40, il_41, il_42, il_43, il_45, il_47, il_48, il_50, il_57, il_60, il_61, il_62, il_70, il_71, il_79, il_80, il_97, il_98, il_99, il_100, il_107, il_110, il_111, il_114, il_115, il_116, il_121, il_124, il_128, il_130, il_140, il_160, il_255, il_399, il_540, il_590, il_610, il_999, il_1000, il_1250, il_10000, il_12345, il_99999, il_1000000, il_1103515245, ll_0, ll_1, ll_2, ll_3, ll_4, ll_5, ll_6, ll_7, ll_8, ll_9, ll_30, ll_48, ll_50, ll_57, ll_99, ll_100, ll_255, ll_399, ll_999, ll_99999, nq_bs, nq_ltS, nq_b2S, b2_id, bi_id, iI_add, iI_sub, iI_mul, iI_neg, lI_neg, iI_64, iI_lt, iI_le, iI_eq, iI_ag, iI_as, iI_ar, iI_dv, iI_rem, isOut8, in9, bo_nz, bo_t, bo_f, wr_s, wr_n, wr_k, if_pos, if_neg, ↓reduceIte, Nat.reduceAdd, Nat.reduceMul, Nat.reduceSub, Nat.reduceEqDiff, Int.reduceToNat, Int.toNat_natCast, Int.reduceNeg, Int.reduceAdd, Int.reduceSub, Int.reduceMul, h0, hc, wo9n h0]
            · have q2 := hw a (by omega)
              have z : (590 + (a : Int)).toNat = 590 + a := by omega
              by_cases c4 : D (590 + a) = k
              · simp (disch := omega) only [il_0, il_1, il_2, il_3, il_4, il_5, il_6, il_7, il_8, il_9, il_10, il_11, il_12, il_13, il_16, il_20, il_30, il_31, il_32, il_33, il_36, il_37, il_38, il_40, il_41, il_42, il_43, il_45, il_47, il_48, il_50, il_57, il_60, il_61, il_62, il_70, il_71, il_79, il_80, il_97, il_98, il_99, il_100, il_107, il_110, il_111, il_114, il_115, il_116, il_121, il_124, il_128, il_130, il_140, il_160, il_255, il_399, il_540, il_590, il_610, il_999, il_1000, il_1250, il_10000, il_12345, il_99999, il_1000000, il_1103515245, ll_0, ll_1, ll_2, ll_3, ll_4, ll_5, ll_6, ll_7, ll_8, ll_9, ll_30, ll_48, ll_50, ll_57, ll_99, ll_100, ll_255, ll_399, ll_999, ll_99999, nq_bs, nq_ltS, nq_b2S, b2_id, bi_id, iI_add, iI_sub, iI_mul, iI_neg, lI_neg, iI_64, iI_lt, iI_le, iI_eq, iI_ag, iI_as, iI_ar, iI_dv, iI_rem, isOut8, in9, bo_nz, bo_t, bo_f, wr_s, wr_n, wr_k, if_pos, if_neg, ↓reduceIte, Nat.reduceAdd, Nat.reduceMul, Nat.reduceSub, Nat.reduceEqDiff, Int.reduceToNat, Int.toNat_natCast, Int.reduceNeg, Int.reduceAdd, Int.reduceSub, Int.reduceMul, h0, hc, wo9n h0, z]
                rfl
              · simp (disch := omega) only [il_0, il_1, il_2, il_3, il_4, il_5, il_6, il_7, il_8, il_9, il_10, il_11, il_12, il_13, il_16, il_20, il_30, il_31, il_32, il_33, il_36, il_37, il_38, il_40, il_41, il_42, il_43, il_45, il_47, il_48, il_50, il_57, il_60, il_61, il_62, il_70, il_71, il_79, il_80, il_97, il_98, il_99, il_100, il_107, il_110, il_111, il_114, il_115, il_116, il_121, il_124, il_128, il_130, il_140, il_160, il_255, il_399, il_540, il_590, il_610, il_999, il_1000, il_1250, il_10000, il_12345, il_99999, il_1000000, il_1103515245, ll_0, ll_1, ll_2, ll_3, ll_4, ll_5, ll_6, ll_7, ll_8, ll_9, ll_30, ll_48, ll_50, ll_57, ll_99, ll_100, ll_255, ll_399, ll_999, ll_99999, nq_bs, nq_ltS, nq_b2S, b2_id, bi_id, iI_add, iI_sub, iI_mul, iI_neg, lI_neg, iI_64, iI_lt, iI_le, iI_eq, iI_ag, iI_as, iI_ar, iI_dv, iI_rem, isOut8, in9, bo_nz, bo_t, bo_f, wr_s, wr_n, wr_k, if_pos, if_neg, ↓reduceIte, Nat.reduceAdd, Nat.reduceMul, Nat.reduceSub, Nat.reduceEqDiff, Int.reduceToNat, Int.toNat_natCast, Int.reduceNeg, Int.reduceAdd, Int.reduceSub, Int.reduceMul, h0, hc, wo9n h0, z]
          · simp (disch := omega) only [il_0, il_1, il_2, il_3, il_4, il_5, il_6, il_7, il_8, il_9, il_10, il_11, il_12, il_13, il_16, il_20, il_30, il_31, il_32, il_33, il_36, il_37, il_38, il_40, il_41, il_42, il_43, il_45, il_47, il_48, il_50, il_57, il_60, il_61, il_62, il_70, il_71, il_79, il_80, il_97, il_98, il_99, il_100, il_107, il_110, il_111, il_114, il_115, il_116, il_121, il_124, il_128, il_130, il_140, il_160, il_255, il_399, il_540, il_590, il_610, il_999, il_1000, il_1250, il_10000, il_12345, il_99999, il_1000000, il_1103515245, ll_0, ll_1, ll_2, ll_3, ll_4, ll_5, ll_6, ll_7, ll_8, ll_9, ll_30, ll_48, ll_50, ll_57, ll_99, ll_100, ll_255, ll_399, ll_999, ll_99999, nq_bs, nq_ltS, nq_b2S, b2_id, bi_id, iI_add, iI_sub, iI_mul, iI_neg, lI_neg, iI_64, iI_lt, iI_le, iI_eq, iI_ag, iI_as, iI_ar, iI_dv, iI_rem, isOut8, in9, bo_nz, bo_t, bo_f, wr_s, wr_n, wr_k, if_pos, if_neg, ↓reduceIte, Nat.reduceAdd, Nat.reduceMul, Nat.reduceSub, Nat.reduceEqDiff, Int.reduceToNat, Int.toNat_natCast, Int.reduceNeg, Int.reduceAdd, Int.reduceSub, Int.reduceMul, h0, hc]
            rfl
        · rw [if_neg (show ¬ decide (D (615 + 8 * k) = (yr : Int)) = true by rw [decide_eq_true_eq]; exact c)]
          by_cases c2 : D (612 + 8 * k) = x ∧ D (613 + 8 * k) = y ∧ 0 ≤ D (615 + 8 * k) ∧ D (615 + 8 * k) ≤ yr
          · simp (disch := omega) only [il_0, il_1, il_2, il_3, il_4, il_5, il_6, il_7, il_8, il_9, il_10, il_11, il_12, il_13, il_16, il_20, il_30, il_31, il_32, il_33, il_36, il_37, il_38, il_40, il_41, il_42, il_43, il_45, il_47, il_48, il_50, il_57, il_60, il_61, il_62, il_70, il_71, il_79, il_80, il_97, il_98, il_99, il_100, il_107, il_110, il_111, il_114, il_115, il_116, il_121, il_124, il_128, il_130, il_140, il_160, il_255, il_399, il_540, il_590, il_610, il_999, il_1000, il_1250, il_10000, il_12345, il_99999, il_1000000, il_1103515245, ll_0, ll_1, ll_2, ll_3, ll_4, ll_5, ll_6, ll_7, ll_8, ll_9, ll_30, ll_48, ll_50, ll_57, ll_99, ll_100, ll_255, ll_399, ll_999, ll_99999, nq_bs, nq_ltS, nq_b2S, b2_id, bi_id, iI_add, iI_sub, iI_mul, iI_neg, lI_neg, iI_64, iI_lt, iI_le, iI_eq, iI_ag, iI_as, iI_ar, iI_dv, iI_rem, isOut8, in9, bo_nz, bo_t, bo_f, wr_s, wr_n, wr_k, if_pos, if_neg, ↓reduceIte, Nat.reduceAdd, Nat.reduceMul, Nat.reduceSub, Nat.reduceEqDiff, Int.reduceToNat, Int.toNat_natCast, Int.reduceNeg, Int.reduceAdd, Int.reduceSub, Int.reduceMul, h0, hc, wo9n h0]
            rfl
          · simp (disch := omega) only [il_0, il_1, il_2, il_3, il_4, il_5, il_6, il_7, il_8, il_9, il_10, il_11, il_12, il_13, il_16, il_20, il_30, il_31, il_32, il_33, il_36, il_37, il_38, il_40, il_41, il_42, il_43, il_45, il_47, il_48, il_50, il_57, il_60, il_61, il_62, il_70, il_71, il_79, il_80, il_97, il_98, il_99, il_100, il_107, il_110, il_111, il_114, il_115, il_116, il_121, il_124, il_128, il_130, il_140, il_160, il_255, il_399, il_540, il_590, il_610, il_999, il_1000, il_1250, il_10000, il_12345, il_99999, il_1000000, il_1103515245, ll_0, ll_1, ll_2, ll_3, ll_4, ll_5, ll_6, ll_7, ll_8, ll_9, ll_30, ll_48, ll_50, ll_57, ll_99, ll_100, ll_255, ll_399, ll_999, ll_99999, nq_bs, nq_ltS, nq_b2S, b2_id, bi_id, iI_add, iI_sub, iI_mul, iI_neg, lI_neg, iI_64, iI_lt, iI_le, iI_eq, iI_ag, iI_as, iI_ar, iI_dv, iI_rem, isOut8, in9, bo_nz, bo_t, bo_f, wr_s, wr_n, wr_k, if_pos, if_neg, ↓reduceIte, Nat.reduceAdd, Nat.reduceMul, Nat.reduceSub, Nat.reduceEqDiff, Int.reduceToNat, Int.toNat_natCast, Int.reduceNeg, Int.reduceAdd, Int.reduceSub, Int.reduceMul, h0, hc]
            rfl)
      (by
        intro k a a' hk2 ha hg
        rw [List.length_range] at hk2
        rw [range_getD hk2] at hg
        split at hg
        · cases hgg : ckG D x y n a k with
          | inl b => rw [hgg] at hg; cases hg; exact (ckG_le hgg ha).1
          | inr r => rw [hgg] at hg; cases hg
        · cases hg; exact ha)
      (by
        intro a _
        rw [List.length_range]
        show fX9_check_B57_43 (iI x) (iI y) (iI n) (iI a) (iI yr) (iI ((D 2).toNat : Nat)) M = _
        unfold fX9_check_B57_43
        simp (disch := omega) only [il_0, il_1, il_2, il_3, il_4, il_5, il_6, il_7, il_8, il_9, il_10, il_11, il_12, il_13, il_16, il_20, il_30, il_31, il_32, il_33, il_36, il_37, il_38, il_40, il_41, il_42, il_43, il_45, il_47, il_48, il_50, il_57, il_60, il_61, il_62, il_70, il_71, il_79, il_80, il_97, il_98, il_99, il_100, il_107, il_110, il_111, il_114, il_115, il_116, il_121, il_124, il_128, il_130, il_140, il_160, il_255, il_399, il_540, il_590, il_610, il_999, il_1000, il_1250, il_10000, il_12345, il_99999, il_1000000, il_1103515245, ll_0, ll_1, ll_2, ll_3, ll_4, ll_5, ll_6, ll_7, ll_8, ll_9, ll_30, ll_48, ll_50, ll_57, ll_99, ll_100, ll_255, ll_399, ll_999, ll_99999, nq_bs, nq_ltS, nq_b2S, b2_id, bi_id, iI_add, iI_sub, iI_mul, iI_neg, lI_neg, iI_64, iI_lt, iI_le, iI_eq, iI_ag, iI_as, iI_ar, iI_dv, iI_rem, isOut8, in9, bo_nz, bo_t, bo_f, wr_s, wr_n, wr_k, if_pos, if_neg, ↓reduceIte, Nat.reduceAdd, Nat.reduceMul, Nat.reduceSub, Nat.reduceEqDiff, Int.reduceToNat, Int.toNat_natCast, Int.reduceNeg, Int.reduceAdd, Int.reduceSub, Int.reduceMul, h0])
      (List.range (D 2).toNat).length nq_fuel 0 a (by omega) (by rw [List.length_range]; unfold nq_fuel; omega) ha
    rw [List.drop_zero, takeWhile_true] at e
    have e2 : ∀ (l : List Nat) (a : Nat), runL (fun a w => if (decide (D (615 + 8 * w) = (yr : Int))) = true then (match ckG D x y n a w with | .inl b => (.inl b : Nat ⊕ (Int32 × Mem)) | .inr r => .inr (r, M)) else .inl a) l a = match runL (fun a w => if (decide (D (615 + 8 * w) = (yr : Int))) = true then ckG D x y n a w else .inl a) l a with | .inl b => .inl b | .inr r => .inr (r, M) := by
      intro l
      induction l with
      | nil => intro a; rfl
      | cons w l ih =>
        intro a
        simp only [runL]
        by_cases c : decide (D (615 + 8 * w) = (yr : Int)) = true
        · rw [if_pos c, if_pos c]
          cases ckG D x y n a w with
          | inl b => exact ih b
          | inr r => rfl
        · rw [if_neg c, if_neg c]; exact ih a
    rw [e2, ← runL_filter] at e
    have eb : List.filter (fun w => decide (D (615 + 8 * w) = (yr : Int))) (List.range (D 2).toNat) = bkt D yr := rfl
    rw [eb] at e
    rw [show iI 0 = iI ((0 : Nat) : Int) from rfl, e]
    cases runL (ckG D x y n) (bkt D yr) a with
    | inl b => rfl
    | inr r => rfl
  have bnd : ∀ (l : List Nat) (a b : Nat), (a : Int) ≤ n → runL (ckG D x y n) l a = .inl b → (b : Int) ≤ n := by
    intro l
    induction l with
    | nil => intro a b ha h; cases h; exact ha
    | cons w l ih =>
      intro a b ha h
      simp only [runL] at h
      cases hg : ckG D x y n a w with
      | inl a' => rw [hg] at h; exact ih a' b (ckG_le hg ha).1 h
      | inr r => rw [hg] at h; cases h
  have key := nq_for0 (body := fun s : Int32 × Int32 => fX9_check_B43 (iI x) (iI y) (iI n) s.1 s.2 M) (D 0 + 1).toNat (fun k s => ∃ a : Nat, s = (iI a, iI k) ∧ (a : Int) ≤ n ∧ runL (ckG D x y n) (arrU D k) 0 = .inl a) (fun r => r = match runL (ckG D x y n) (arrU D (D 0 + 1).toNat) 0 with | .inl a => .inl (iI a) | .inr r => .inr (r, M)) (s := (iI 0, iI 0)) (by omega) ⟨0, rfl, by omega, rfl⟩
    (by
      rintro k s hkk ⟨a, rfl, ha, hr⟩
      have hi := inner k a (by omega) ha
      have eb : fX9_check_B43 (iI x) (iI y) (iI n) (iI a) (iI k) M = (some (match runL (ckG D x y n) (bkt D k) a with | .inl b => (.inl (iI b) : Int32 ⊕ (Int32 × Mem)) | .inr r => .inr (r, M))).bind (Sum.elim (fun e => fX9_check_L129_43 (iI x) (iI y) (iI n) e (iI k) M) (fun r1 => some (.inr (.inr r1)))) := by
        unfold fX9_check_B43 fX9_check_L57_43
        simp (disch := omega) only [il_0, il_1, il_2, il_3, il_4, il_5, il_6, il_7, il_8, il_9, il_10, il_11, il_12, il_13, il_16, il_20, il_30, il_31, il_32, il_33, il_36, il_37, il_38, il_40, il_41, il_42, il_43, il_45, il_47, il_48, il_50, il_57, il_60, il_61, il_62, il_70, il_71, il_79, il_80, il_97, il_98, il_99, il_100, il_107, il_110, il_111, il_114, il_115, il_116, il_121, il_124, il_128, il_130, il_140, il_160, il_255, il_399, il_540, il_590, il_610, il_999, il_1000, il_1250, il_10000, il_12345, il_99999, il_1000000, il_1103515245, ll_0, ll_1, ll_2, ll_3, ll_4, ll_5, ll_6, ll_7, ll_8, ll_9, ll_30, ll_48, ll_50, ll_57, ll_99, ll_100, ll_255, ll_399, ll_999, ll_99999, iI_ag, nq_bs, h0, iI_lt, Int.reduceToNat]
        rw [if_neg (by omega), hi]
        rfl
      cases hb : runL (ckG D x y n) (bkt D k) a with
      | inl b =>
        left
        rw [hb] at eb
        refine ⟨(iI b, iI ((k + 1 : Nat) : Int)), ?_, b, rfl, bnd _ _ _ ha hb, ?_⟩
        · show fX9_check_B43 (iI x) (iI y) (iI n) (iI a) (iI k) M = _
          rw [eb]
          show fX9_check_L129_43 (iI x) (iI y) (iI n) (iI b) (iI k) M = _
          unfold fX9_check_L129_43
          simp only [nq_ltS, il_1, iI_add]; rfl
        · rw [arrU_succ, runL_append, hr]; exact hb
      | inr r =>
        right
        rw [hb] at eb
        refine ⟨.inr (r, M), ?_, ?_⟩
        · show fX9_check_B43 (iI x) (iI y) (iI n) (iI a) (iI k) M = _
          rw [eb]; rfl
        · obtain ⟨R, e1, _⟩ := arrU_split (D := D) (show k + 1 ≤ (D 0 + 1).toNat by omega)
          have : runL (ckG D x y n) (arrU D (D 0 + 1).toNat) 0 = .inr r := by
            rw [e1, runL_append, arrU_succ, runL_append, hr]
            dsimp only
            rw [hb]
          rw [this])
    (by
      rintro s ⟨a, rfl, ha, hr⟩
      refine ⟨.inl (iI a), ?_, by rw [hr]⟩
      show fX9_check_B43 (iI x) (iI y) (iI n) (iI a) (iI ((D 0 + 1).toNat : Nat)) M = _
      unfold fX9_check_B43
      simp (disch := omega) only [il_0, il_1, il_2, il_3, il_4, il_5, il_6, il_7, il_8, il_9, il_10, il_11, il_12, il_13, il_16, il_20, il_30, il_31, il_32, il_33, il_36, il_37, il_38, il_40, il_41, il_42, il_43, il_45, il_47, il_48, il_50, il_57, il_60, il_61, il_62, il_70, il_71, il_79, il_80, il_97, il_98, il_99, il_100, il_107, il_110, il_111, il_114, il_115, il_116, il_121, il_124, il_128, il_130, il_140, il_160, il_255, il_399, il_540, il_590, il_610, il_999, il_1000, il_1250, il_10000, il_12345, il_99999, il_1000000, il_1103515245, ll_0, ll_1, ll_2, ll_3, ll_4, ll_5, ll_6, ll_7, ll_8, ll_9, ll_30, ll_48, ll_50, ll_57, ll_99, ll_100, ll_255, ll_399, ll_999, ll_99999, iI_ag, nq_bs, h0, iI_lt, Int.reduceToNat]
      rw [if_pos (by omega)])
  obtain ⟨r, e1, e2⟩ := key
  unfold fX9_check_L43
  rw [e1, nq_bs, e2]
  unfold ckV
  cases hr : runL (ckG D x y n) (arrU D (D 0 + 1).toNat) 0 with
  | inl b =>
    have := bnd _ _ _ (by omega) hr
    show fX9_check_L135 (iI n) (iI b) M = some (if n ≤ (b : Int) then iI 0 else iI (1 + (b : Int)), M)
    unfold fX9_check_L135
    simp (disch := omega) only [il_0, il_1, il_2, il_3, il_4, il_5, il_6, il_7, il_8, il_9, il_10, il_11, il_12, il_13, il_16, il_20, il_30, il_31, il_32, il_33, il_36, il_37, il_38, il_40, il_41, il_42, il_43, il_45, il_47, il_48, il_50, il_57, il_60, il_61, il_62, il_70, il_71, il_79, il_80, il_97, il_98, il_99, il_100, il_107, il_110, il_111, il_114, il_115, il_116, il_121, il_124, il_128, il_130, il_140, il_160, il_255, il_399, il_540, il_590, il_610, il_999, il_1000, il_1250, il_10000, il_12345, il_99999, il_1000000, il_1103515245, ll_0, ll_1, ll_2, ll_3, ll_4, ll_5, ll_6, ll_7, ll_8, ll_9, ll_30, ll_48, ll_50, ll_57, ll_99, ll_100, ll_255, ll_399, ll_999, ll_99999, iI_add, iI_le]
    split <;> rfl
  | inr r => rfl
theorem hop_check (a0 a1 : Int32) (Mx Mm : Mem) (h : RR Mx Mm) : ∃ (r : Int32) (Mx1 Mm1 : Mem), fX8_check a0 a1 Mx = some (r, Mx1) ∧ fX9_check a0 a1 Mm = some (r, Mm1) ∧ RR Mx1 Mm1 := by
  obtain ⟨D, hc⟩ := h.1
  have hc' := hc
  obtain ⟨h0, hS, hR, hL, hA, hT⟩ := hc'
  have p0 : Mx 3 0 = iI (D 1) := hR.1
  have p1 := hR.2.1
  have p0m : Mm 1 1 = iI (D 1) := h0 1 (by omega)
  have w0m : Mm 1 2 = iI (D 2) := h0 2 (by omega)
  have w0 : Mx 6 0 = iI (D 2) := hL.1
  have w1 := hL.2.1
  obtain ⟨⟨s0, s5, s6, s7, s4, s9, s3, s10⟩, s0', s4', s5', s6', s7', s8', s9', s3', s10'⟩ := hS
  have hS := hc.2.1
  obtain ⟨x, hx, rfl⟩ := iI_of a0
  obtain ⟨y, hy, rfl⟩ := iI_of a1
  have h2 : RR (nq_wr Mx 2 16 (iI 0)) (nq_wr Mm 1 10 (iI 0)) := by
    refine h.upd (D := upI D 10 0) (fun k hk => by simp (disch := omega) only [wr_k]) ⟨fun k hk => by simp (disch := omega) only [wr_k], by simp (disch := omega) only [wr_k, wr_n], by simp (disch := omega) only [wr_k, wr_n]⟩ ⟨row_wr h0, ?_, (hR.frame (fun k hk1 hk2 => by simp (disch := omega) only [wr_k]) (fun j hj => by simp (disch := omega) only [upI_n])), (hL.frame (fun k hk1 hk2 => by simp (disch := omega) only [wr_k]) (fun j hj => by simp (disch := omega) only [upI_n])), (hA.frame (fun k hk1 hk2 => by simp (disch := omega) only [wr_k]) (fun j hj => by simp (disch := omega) only [upI_n])), (hT.frame (fun k hk1 hk2 => by simp (disch := omega) only [wr_k]) (fun j hj => by simp (disch := omega) only [upI_n]))⟩
    unfold GS
    simp (disch := omega) only [wr_s, wr_n, upI_s, upI_n]
    exact ⟨⟨s0, s5, s6, s7, s4, s9, s3, trivial⟩, s0', s4', s5', s6', s7', s8', s9', s3', by omega⟩
  have p0' : nq_wr Mx 2 16 (iI 0) 3 0 = iI (D 1) := by rw [wr_k (by omega)]; exact p0
  have p0m' : nq_wr Mm 1 10 (iI 0) 1 1 = iI (D 1) := by rw [wr_n (by omega)]; exact p0m
  by_cases gx : 0 ≤ x ∧ x < D 1
  · by_cases gy : 0 ≤ y ∧ y < 4
    · have hL' : GL (nq_wr Mx 2 16 (iI 0)) 6 D := hL.frame (fun k a c => wr_k (by omega)) (fun _ _ => rfl)
      have e8 := first8 (M := nq_wr Mx 2 16 (iI 0)) (x := x) (y := y) (n := D 10) hL' (by rw [wr_n (by omega)]; exact s0) s0' (fun j hj => by rw [wr_k (by omega)]; exact hA.2.2.2.2 j hj) hx hy s10'
      have hU : (upI D 10 0) 0 = D 0 := upI_n (by omega)
      have e9 := check9 (M := nq_wr Mm 1 10 (iI 0)) (D := upI D 10 0) (x := x) (y := y) (n := D 10) (row_wr h0) (by rw [upI_n (by omega)]; exact w1) (fun w hw => ((hL.frame (fun k hk1 hk2 => by simp (disch := omega) only [wr_k]) (fun j hj => by simp (disch := omega) only [upI_n])) : GL (nq_wr Mx 2 16 (iI 0)) 6 (upI D 10 0)).2.2.2.2.2 w hw) (by rw [hU]; exact s0') (fun j hj => by rw [upI_n (by omega)]; exact (hA.2.2.2.2 j hj).2) hx hy s10'
      have eg : ckG (upI D 10 0) x y (D 10) = ckG D x y (D 10) := by
        funext a w
        unfold ckG
        rw [upI_n (by omega), upI_n (by omega), upI_n (by omega)]
      have eb : bkt (upI D 10 0) = bkt D := by
        funext yr
        unfold bkt
        rw [upI_n (by omega)]
        apply List.filter_congr
        intro w _
        rw [upI_n (by omega)]
      have eu : arrU (upI D 10 0) = arrU D := by
        funext Y; unfold arrU; rw [eb]
      have ev : ckV (upI D 10 0) x y (D 10) = ckV D x y (D 10) := by unfold ckV; rw [eg, eu, hU]
      rw [ev] at e9
      refine ⟨ckV D x y (D 10), nq_wr Mx 2 16 (iI 0), nq_wr Mm 1 10 (iI 0), ?_, ?_, h2⟩
      · unfold fX8_check
        simp (disch := omega) only [il_0, il_1, il_2, il_3, il_4, il_5, il_6, il_7, il_8, il_9, il_10, il_11, il_12, il_13, il_16, il_20, il_30, il_31, il_32, il_33, il_36, il_37, il_38, il_40, il_41, il_42, il_43, il_45, il_47, il_48, il_50, il_57, il_60, il_61, il_62, il_70, il_71, il_79, il_80, il_97, il_98, il_99, il_100, il_107, il_110, il_111, il_114, il_115, il_116, il_121, il_124, il_128, il_130, il_140, il_160, il_255, il_399, il_540, il_590, il_610, il_999, il_1000, il_1250, il_10000, il_12345, il_99999, il_1000000, il_1103515245, ll_0, ll_1, ll_2, ll_3, ll_4, ll_5, ll_6, ll_7, ll_8, ll_9, ll_30, ll_48, ll_50, ll_57, ll_99, ll_100, ll_255, ll_399, ll_999, ll_99999, nq_bs, nq_ltS, nq_b2S, b2_id, bi_id, iI_add, iI_sub, iI_mul, iI_neg, lI_neg, iI_64, iI_lt, iI_le, iI_eq, iI_ag, iI_as, iI_ar, iI_dv, iI_rem, isOut8, in9, bo_nz, bo_t, bo_f, wr_s, wr_n, wr_k, if_pos, if_neg, ↓reduceIte, Nat.reduceAdd, Nat.reduceMul, Nat.reduceSub, Nat.reduceEqDiff, Int.reduceToNat, Int.toNat_natCast, Int.reduceNeg, Int.reduceAdd, Int.reduceSub, Int.reduceMul, s10, isPlace8 p0' p1, isPact8, e8]
      · unfold fX9_check
        simp (disch := omega) only [il_0, il_1, il_2, il_3, il_4, il_5, il_6, il_7, il_8, il_9, il_10, il_11, il_12, il_13, il_16, il_20, il_30, il_31, il_32, il_33, il_36, il_37, il_38, il_40, il_41, il_42, il_43, il_45, il_47, il_48, il_50, il_57, il_60, il_61, il_62, il_70, il_71, il_79, il_80, il_97, il_98, il_99, il_100, il_107, il_110, il_111, il_114, il_115, il_116, il_121, il_124, il_128, il_130, il_140, il_160, il_255, il_399, il_540, il_590, il_610, il_999, il_1000, il_1250, il_10000, il_12345, il_99999, il_1000000, il_1103515245, ll_0, ll_1, ll_2, ll_3, ll_4, ll_5, ll_6, ll_7, ll_8, ll_9, ll_30, ll_48, ll_50, ll_57, ll_99, ll_100, ll_255, ll_399, ll_999, ll_99999, nq_bs, nq_ltS, nq_b2S, b2_id, bi_id, iI_add, iI_sub, iI_mul, iI_neg, lI_neg, iI_64, iI_lt, iI_le, iI_eq, iI_ag, iI_as, iI_ar, iI_dv, iI_rem, isOut8, in9, bo_nz, bo_t, bo_f, wr_s, wr_n, wr_k, if_pos, if_neg, ↓reduceIte, Nat.reduceAdd, Nat.reduceMul, Nat.reduceSub, Nat.reduceEqDiff, Int.reduceToNat, Int.toNat_natCast, Int.reduceNeg, Int.reduceAdd, Int.reduceSub, Int.reduceMul, h0, isPlace9 p0m' p1, isPact9, e9]
    · refine h2.ref 1 (by omega) (by omega) ?_ ?_
      · unfold fX8_check
        simp (disch := omega) only [il_0, il_1, il_2, il_3, il_4, il_5, il_6, il_7, il_8, il_9, il_10, il_11, il_12, il_13, il_16, il_20, il_30, il_31, il_32, il_33, il_36, il_37, il_38, il_40, il_41, il_42, il_43, il_45, il_47, il_48, il_50, il_57, il_60, il_61, il_62, il_70, il_71, il_79, il_80, il_97, il_98, il_99, il_100, il_107, il_110, il_111, il_114, il_115, il_116, il_121, il_124, il_128, il_130, il_140, il_160, il_255, il_399, il_540, il_590, il_610, il_999, il_1000, il_1250, il_10000, il_12345, il_99999, il_1000000, il_1103515245, ll_0, ll_1, ll_2, ll_3, ll_4, ll_5, ll_6, ll_7, ll_8, ll_9, ll_30, ll_48, ll_50, ll_57, ll_99, ll_100, ll_255, ll_399, ll_999, ll_99999, nq_bs, nq_ltS, nq_b2S, b2_id, bi_id, iI_add, iI_sub, iI_mul, iI_neg, lI_neg, iI_64, iI_lt, iI_le, iI_eq, iI_ag, iI_as, iI_ar, iI_dv, iI_rem, isOut8, in9, bo_nz, bo_t, bo_f, wr_s, wr_n, wr_k, if_pos, if_neg, ↓reduceIte, Nat.reduceAdd, Nat.reduceMul, Nat.reduceSub, Nat.reduceEqDiff, Int.reduceToNat, Int.toNat_natCast, Int.reduceNeg, Int.reduceAdd, Int.reduceSub, Int.reduceMul, s10, isPlace8 p0' p1, isPact8]
      · unfold fX9_check
        simp (disch := omega) only [il_0, il_1, il_2, il_3, il_4, il_5, il_6, il_7, il_8, il_9, il_10, il_11, il_12, il_13, il_16, il_20, il_30, il_31, il_32, il_33, il_36, il_37, il_38, il_40, il_41, il_42, il_43, il_45, il_47, il_48, il_50, il_57, il_60, il_61, il_62, il_70, il_71, il_79, il_80, il_97, il_98, il_99, il_100, il_107, il_110, il_111, il_114, il_115, il_116, il_121, il_124, il_128, il_130, il_140, il_160, il_255, il_399, il_540, il_590, il_610, il_999, il_1000, il_1250, il_10000, il_12345, il_99999, il_1000000, il_1103515245, ll_0, ll_1, ll_2, ll_3, ll_4, ll_5, ll_6, ll_7, ll_8, ll_9, ll_30, ll_48, ll_50, ll_57, ll_99, ll_100, ll_255, ll_399, ll_999, ll_99999, nq_bs, nq_ltS, nq_b2S, b2_id, bi_id, iI_add, iI_sub, iI_mul, iI_neg, lI_neg, iI_64, iI_lt, iI_le, iI_eq, iI_ag, iI_as, iI_ar, iI_dv, iI_rem, isOut8, in9, bo_nz, bo_t, bo_f, wr_s, wr_n, wr_k, if_pos, if_neg, ↓reduceIte, Nat.reduceAdd, Nat.reduceMul, Nat.reduceSub, Nat.reduceEqDiff, Int.reduceToNat, Int.toNat_natCast, Int.reduceNeg, Int.reduceAdd, Int.reduceSub, Int.reduceMul, h0, isPlace9 p0m' p1, isPact9]
  · refine h2.ref 1 (by omega) (by omega) ?_ ?_
    · unfold fX8_check
      simp (disch := omega) only [il_0, il_1, il_2, il_3, il_4, il_5, il_6, il_7, il_8, il_9, il_10, il_11, il_12, il_13, il_16, il_20, il_30, il_31, il_32, il_33, il_36, il_37, il_38, il_40, il_41, il_42, il_43, il_45, il_47, il_48, il_50, il_57, il_60, il_61, il_62, il_70, il_71, il_79, il_80, il_97, il_98, il_99, il_100, il_107, il_110, il_111, il_114, il_115, il_116, il_121, il_124, il_128, il_130, il_140, il_160, il_255, il_399, il_540, il_590, il_610, il_999, il_1000, il_1250, il_10000, il_12345, il_99999, il_1000000, il_1103515245, ll_0, ll_1, ll_2, ll_3, ll_4, ll_5, ll_6, ll_7, ll_8, ll_9, ll_30, ll_48, ll_50, ll_57, ll_99, ll_100, ll_255, ll_399, ll_999, ll_99999, nq_bs, nq_ltS, nq_b2S, b2_id, bi_id, iI_add, iI_sub, iI_mul, iI_neg, lI_neg, iI_64, iI_lt, iI_le, iI_eq, iI_ag, iI_as, iI_ar, iI_dv, iI_rem, isOut8, in9, bo_nz, bo_t, bo_f, wr_s, wr_n, wr_k, if_pos, if_neg, ↓reduceIte, Nat.reduceAdd, Nat.reduceMul, Nat.reduceSub, Nat.reduceEqDiff, Int.reduceToNat, Int.toNat_natCast, Int.reduceNeg, Int.reduceAdd, Int.reduceSub, Int.reduceMul, s10, isPlace8 p0' p1, isPact8]
    · unfold fX9_check
      simp (disch := omega) only [il_0, il_1, il_2, il_3, il_4, il_5, il_6, il_7, il_8, il_9, il_10, il_11, il_12, il_13, il_16, il_20, il_30, il_31, il_32, il_33, il_36, il_37, il_38, il_40, il_41, il_42, il_43, il_45, il_47, il_48, il_50, il_57, il_60, il_61, il_62, il_70, il_71, il_79, il_80, il_97, il_98, il_99, il_100, il_107, il_110, il_111, il_114, il_115, il_116, il_121, il_124, il_128, il_130, il_140, il_160, il_255, il_399, il_540, il_590, il_610, il_999, il_1000, il_1250, il_10000, il_12345, il_99999, il_1000000, il_1103515245, ll_0, ll_1, ll_2, ll_3, ll_4, ll_5, ll_6, ll_7, ll_8, ll_9, ll_30, ll_48, ll_50, ll_57, ll_99, ll_100, ll_255, ll_399, ll_999, ll_99999, nq_bs, nq_ltS, nq_b2S, b2_id, bi_id, iI_add, iI_sub, iI_mul, iI_neg, lI_neg, iI_64, iI_lt, iI_le, iI_eq, iI_ag, iI_as, iI_ar, iI_dv, iI_rem, isOut8, in9, bo_nz, bo_t, bo_f, wr_s, wr_n, wr_k, if_pos, if_neg, ↓reduceIte, Nat.reduceAdd, Nat.reduceMul, Nat.reduceSub, Nat.reduceEqDiff, Int.reduceToNat, Int.toNat_natCast, Int.reduceNeg, Int.reduceAdd, Int.reduceSub, Int.reduceMul, h0, isPlace9 p0m' p1, isPact9]
