/-! 17.a: a stance: the class's way of going through years -/
def CS (M : Mem) (p : Nat) (x pc s u : Int) (off : Nat → Int) (i j : Nat) : Prop := M p 2 = iI x ∧ M p 3 = iI pc ∧ M p 4 = iI s ∧ M p 5 = iI u ∧ M p 6 = iI i ∧ M p 7 = iI j ∧ ∀ k, k < 6 → M (p + 1) k = iI (off k)
def FX (p : Nat) (M M' : Mem) : Prop := ∀ k, k ≠ p → k ≠ p + 1 → M' k = M k
theorem FX.refl (p : Nat) (M : Mem) : FX p M M := fun _ _ _ => rfl
theorem FX.trans {p : Nat} {M M' M'' : Mem} (h : FX p M M') (h' : FX p M' M'') : FX p M M'' := fun k h1 h2 => (h' k h1 h2).trans (h k h1 h2)
theorem FX.GL {p : Nat} {M M' : Mem} {D : Nat → Int} (h : FX p M M') (hp : 16 ≤ p) (hL : GL M 6 D) : GL M' 6 D := hL.frame (fun k h1 h2 => h k (by omega) (by omega)) (fun _ _ => rfl)
def qF (D : Nat → Int) (x pc : Int) (w : Nat) : Bool := decide (D (612 + 8 * w) = x ∧ D (613 + 8 * w) = pc)
def qB (D : Nat → Int) (x pc : Int) (w : Nat) : Bool := decide (D (611 + 8 * w) = x ∧ D (613 + 8 * w) = pc)
/-- on to the next that is so -/
def sk (q : Nat → Bool) (A : List Nat) (i : Nat) : Nat := i + ((A.drop i).takeWhile (fun w => !q w)).length
theorem sk_le {q : Nat → Bool} {A : List Nat} {i : Nat} (h : i ≤ A.length) : sk q A i ≤ A.length ∧ i ≤ sk q A i := by
  have := (List.takeWhile_prefix (fun w => !q w) (l := A.drop i)).length_le
  rw [List.length_drop] at this
  unfold sk; omega
theorem mem_tw {p : Nat → Bool} {w : Nat} : ∀ {l : List Nat}, w ∈ l.takeWhile p → p w = true := by
  intro l
  induction l with
  | nil => intro h; cases h
  | cons a l ih =>
    intro h
    rw [List.takeWhile_cons] at h
    cases ha : p a with
    | true =>
      rw [ha, if_pos rfl] at h
      rcases List.mem_cons.mp h with e | h
      · rw [e]; exact ha
      · exact ih h
    | false => rw [ha] at h; cases h
theorem sk_before {q : Nat → Bool} : ∀ (A : List Nat) (i k : Nat), i ≤ k → k < sk q A i → k < A.length ∧ q (A.getD k 0) = false := by
  intro A i k h1 h2
  unfold sk at h2
  have hl : k - i < ((A.drop i).takeWhile (fun w => !q w)).length := by omega
  have hl2 := (List.takeWhile_prefix (fun w => !q w) (l := A.drop i)).length_le
  rw [List.length_drop] at hl2
  have hk : k < A.length := by omega
  refine ⟨hk, ?_⟩
  have hm : ((A.drop i).takeWhile (fun w => !q w))[k - i] ∈ (A.drop i).takeWhile (fun w => !q w) := List.getElem_mem hl
  have hp : (fun w => !q w) ((A.drop i).takeWhile (fun w => !q w))[k - i] = true := mem_tw hm
  have he : ((A.drop i).takeWhile (fun w => !q w))[k - i] = A.getD k 0 := by
    have hpre := List.takeWhile_prefix (fun w => !q w) (l := A.drop i)
    rw [List.IsPrefix.getElem hpre hl, List.getElem_drop, gd_e hk]
    congr 1; omega
  rw [he] at hp
  simpa using hp
theorem sk_spec {q : Nat → Bool} : ∀ (m : Nat) (A : List Nat) (i : Nat), i + m = A.length → ((A.drop i).filter q = [] ∧ sk q A i = A.length) ∨ ∃ w R, (A.drop i).filter q = w :: R ∧ sk q A i < A.length ∧ A.getD (sk q A i) 0 = w ∧ (A.drop (sk q A i + 1)).filter q = R := by
  intro m
  induction m with
  | zero =>
    intro A i h
    left
    have e : A.drop i = [] := List.drop_eq_nil_of_le (by omega)
    unfold sk
    rw [e]
    refine ⟨rfl, ?_⟩
    show i + 0 = A.length
    omega
  | succ m ih =>
    intro A i h
    have hi : i < A.length := by omega
    have ed := List.drop_eq_getElem_cons hi
    cases hq : q A[i] with
    | true =>
      right
      have es : sk q A i = i := by
        unfold sk
        rw [ed, List.takeWhile_cons]
        simp [hq]
      refine ⟨A[i], (A.drop (i + 1)).filter q, ?_, ?_, ?_, ?_⟩
      · rw [ed, List.filter_cons]; simp [hq]
      · rw [es]; exact hi
      · rw [es, gd_e hi]
      · rw [es]
    | false =>
      have es : sk q A i = sk q A (i + 1) := by
        unfold sk
        rw [ed, List.takeWhile_cons]
        simp [hq]
        omega
      have ef : (A.drop i).filter q = (A.drop (i + 1)).filter q := by
        rw [ed, List.filter_cons]; simp [hq]
      rw [es, ef]
      exact ih A (i + 1) (by omega)
theorem seekA {M : Mem} {p i j : Nat} {D : Nat → Int} {x pc s u : Int} {off : Nat → Int} (hp : 16 ≤ p) (hL : GL M 6 D) (hx : inR x) (hy : inR pc) (hc : CS M p x pc s u off i j) (hi : i ≤ (arrL D).length) : ∃ M', nq_lp (fun s : Mem => fX4_seek_B0 p 6 s) nq_fuel M = some M' ∧ FX p M M' ∧ CS M' p x pc s u off (sk (qF D x pc) (arrL D) i) j := by
  have w1 := hL.2.1
  have len := arrL_len w1
  have skl := sk_le (q := qF D x pc) hi
  have key := nq_for0 (body := fun s : Mem => fX4_seek_B0 p 6 s) (sk (qF D x pc) (arrL D) i - i) (fun k t => FX p M t ∧ CS t p x pc s u off (i + k) j) (fun t => FX p M t ∧ CS t p x pc s u off (sk (qF D x pc) (arrL D) i) j) (s := M) (by omega) ⟨FX.refl p M, hc⟩
    (by
      rintro k M' hk ⟨hF, c2, c3, c4, c5, c6, c7, c8⟩
      left
      obtain ⟨b1, b2⟩ := sk_before (q := qF D x pc) (arrL D) i (i + k) (by omega) (by omega)
      have hL' := hF.GL hp hL
      have nL : M' 6 9 = iI (arrL D).length := by rw [← iI_nat]; exact hL'.2.2.2.1
      have gk : M' 15 (i + k) = iI ((arrL D).getD (i + k) 0 : Nat) := by rw [← iI_nat]; exact hL'.2.2.2.2.1 _ b1
      have mm := arrL_getD b1
      generalize (arrL D).getD (i + k) 0 = w at *
      unfold qF at b2
      rw [decide_eq_false_iff_not] at b2
      have isf := isFor8 hL' (w := w) (x := x) (y := pc) (by omega) hx hy
      refine ⟨nq_wr M' p 6 (iI ((i + (k + 1) : Nat) : Int)), ?_, ?_, ?_⟩
      · show fX4_seek_B0 p 6 M' = _
        unfold fX4_seek_B0
        simp (disch := omega) only [il_0, il_1, il_2, il_3, il_4, il_5, il_6, il_7, il_8, il_9, il_10, il_11, il_12, il_13, il_16, il_20, il_30, il_31, il_32, il_33, il_36, il_37, il_38, il_40, il_41, il_42, il_43, il_45, il_47, il_48, il_50, il_57, il_60, il_61, il_62, il_70, il_71, il_79, il_80, il_97, il_98, il_99, il_100, il_107, il_110, il_111, il_114, il_115, il_116, il_121, il_124, il_128, il_130, il_140, il_160, il_255, il_399, il_540, il_590, il_610, il_999, il_1000, il_1250, il_10000, il_12345, il_99999, il_1000000, il_1103515245, ll_0, ll_1, ll_2, ll_3, ll_4, ll_5, ll_6, ll_7, ll_8, ll_9, ll_30, ll_48, ll_50, ll_57, ll_99, ll_100, ll_255, ll_399, ll_999, ll_99999, nq_bs, nq_ltS, nq_b2S, b2_id, bi_id, iI_add, iI_sub, iI_mul, iI_neg, lI_neg, iI_64, iI_lt, iI_le, iI_eq, iI_ag, iI_as, iI_ar, iI_dv, iI_rem, isOut8, in9, bo_nz, bo_t, bo_f, wr_s, wr_n, wr_k, if_pos, if_neg, ↓reduceIte, Nat.reduceAdd, Nat.reduceMul, Nat.reduceSub, Nat.reduceEqDiff, Int.reduceToNat, Int.toNat_natCast, Int.reduceNeg, Int.reduceAdd, Int.reduceSub, Int.reduceMul, c2, c3, c6, nL, gk, isf]
        rfl
      · intro q h1 h2; rw [wr_k h1]; exact hF q h1 h2
      · refine ⟨?_, ?_, ?_, ?_, ?_, ?_, ?_⟩
        · rw [wr_n (by omega)]; exact c2
        · rw [wr_n (by omega)]; exact c3
        · rw [wr_n (by omega)]; exact c4
        · rw [wr_n (by omega)]; exact c5
        · rw [wr_s ⟨rfl, rfl⟩]
        · rw [wr_n (by omega)]; exact c7
        · intro q hq; rw [wr_k (by omega)]; exact c8 q hq)
    (by
      rintro M' ⟨hF, hC⟩
      have es : i + (sk (qF D x pc) (arrL D) i - i) = sk (qF D x pc) (arrL D) i := by omega
      rw [es] at hC
      refine ⟨M', ?_, hF, hC⟩
      obtain ⟨c2, c3, c4, c5, c6, c7, c8⟩ := hC
      have hL' := hF.GL hp hL
      have nL : M' 6 9 = iI (arrL D).length := by rw [← iI_nat]; exact hL'.2.2.2.1
      show fX4_seek_B0 p 6 M' = _
      unfold fX4_seek_B0
      rcases sk_spec ((arrL D).length - i) (arrL D) i (by omega) (q := qF D x pc) with ⟨_, e⟩ | ⟨w, R, e1, e2, e3, e4⟩
      · rw [e] at c6
        simp (disch := omega) only [il_0, il_1, il_2, il_3, il_4, il_5, il_6, il_7, il_8, il_9, il_10, il_11, il_12, il_13, il_16, il_20, il_30, il_31, il_32, il_33, il_36, il_37, il_38, il_40, il_41, il_42, il_43, il_45, il_47, il_48, il_50, il_57, il_60, il_61, il_62, il_70, il_71, il_79, il_80, il_97, il_98, il_99, il_100, il_107, il_110, il_111, il_114, il_115, il_116, il_121, il_124, il_128, il_130, il_140, il_160, il_255, il_399, il_540, il_590, il_610, il_999, il_1000, il_1250, il_10000, il_12345, il_99999, il_1000000, il_1103515245, ll_0, ll_1, ll_2, ll_3, ll_4, ll_5, ll_6, ll_7, ll_8, ll_9, ll_30, ll_48, ll_50, ll_57, ll_99, ll_100, ll_255, ll_399, ll_999, ll_99999, nq_bs, nq_ltS, nq_b2S, b2_id, bi_id, iI_add, iI_sub, iI_mul, iI_neg, lI_neg, iI_64, iI_lt, iI_le, iI_eq, iI_ag, iI_as, iI_ar, iI_dv, iI_rem, isOut8, in9, bo_nz, bo_t, bo_f, wr_s, wr_n, wr_k, if_pos, if_neg, ↓reduceIte, Nat.reduceAdd, Nat.reduceMul, Nat.reduceSub, Nat.reduceEqDiff, Int.reduceToNat, Int.toNat_natCast, Int.reduceNeg, Int.reduceAdd, Int.reduceSub, Int.reduceMul, c6, nL]
      · have gk : M' 15 (sk (qF D x pc) (arrL D) i) = iI (w : Nat) := by rw [← e3, ← iI_nat]; exact hL'.2.2.2.2.1 _ e2
        have mm := arrL_getD e2
        rw [e3] at mm
        have hq : qF D x pc w = true := by
          have : w ∈ ((arrL D).drop i).filter (qF D x pc) := by rw [e1]; simp
          exact (List.mem_filter.mp this).2
        unfold qF at hq
        rw [decide_eq_true_eq] at hq
        have isf := isFor8 hL' (w := w) (x := x) (y := pc) (by omega) hx hy
        simp (disch := omega) only [il_0, il_1, il_2, il_3, il_4, il_5, il_6, il_7, il_8, il_9, il_10, il_11, il_12, il_13, il_16, il_20, il_30, il_31, il_32, il_33, il_36, il_37, il_38, il_40, il_41, il_42, il_43, il_45, il_47, il_48, il_50, il_57, il_60, il_61, il_62, il_70, il_71, il_79, il_80, il_97, il_98, il_99, il_100, il_107, il_110, il_111, il_114, il_115, il_116, il_121, il_124, il_128, il_130, il_140, il_160, il_255, il_399, il_540, il_590, il_610, il_999, il_1000, il_1250, il_10000, il_12345, il_99999, il_1000000, il_1103515245, ll_0, ll_1, ll_2, ll_3, ll_4, ll_5, ll_6, ll_7, ll_8, ll_9, ll_30, ll_48, ll_50, ll_57, ll_99, ll_100, ll_255, ll_399, ll_999, ll_99999, nq_bs, nq_ltS, nq_b2S, b2_id, bi_id, iI_add, iI_sub, iI_mul, iI_neg, lI_neg, iI_64, iI_lt, iI_le, iI_eq, iI_ag, iI_as, iI_ar, iI_dv, iI_rem, isOut8, in9, bo_nz, bo_t, bo_f, wr_s, wr_n, wr_k, if_pos, if_neg, ↓reduceIte, Nat.reduceAdd, Nat.reduceMul, Nat.reduceSub, Nat.reduceEqDiff, Int.reduceToNat, Int.toNat_natCast, Int.reduceNeg, Int.reduceAdd, Int.reduceSub, Int.reduceMul, c2, c3, c6, nL, gk, isf])
  exact key
theorem seekB {M : Mem} {p i j : Nat} {D : Nat → Int} {x pc s u : Int} {off : Nat → Int} (hp : 16 ≤ p) (hL : GL M 6 D) (hx : inR x) (hy : inR pc) (hc : CS M p x pc s u off i j) (hj : j ≤ (D 2).toNat) : ∃ M', nq_lp (fun s : Mem => fX4_seek_B57 p 6 s) nq_fuel M = some M' ∧ FX p M M' ∧ CS M' p x pc s u off i (sk (qB D x pc) (List.range (D 2).toNat) j) := by
  have w1 := hL.2.1
  have lr : (List.range (D 2).toNat).length = (D 2).toNat := List.length_range
  have skl := sk_le (q := qB D x pc) (A := List.range (D 2).toNat) (i := j) (by omega)
  have key := nq_for0 (body := fun s : Mem => fX4_seek_B57 p 6 s) (sk (qB D x pc) (List.range (D 2).toNat) j - j) (fun k t => FX p M t ∧ CS t p x pc s u off i (j + k)) (fun t => FX p M t ∧ CS t p x pc s u off i (sk (qB D x pc) (List.range (D 2).toNat) j)) (s := M) (by omega) ⟨FX.refl p M, hc⟩
    (by
      rintro k M' hk ⟨hF, c2, c3, c4, c5, c6, c7, c8⟩
      left
      obtain ⟨b1, b2⟩ := sk_before (q := qB D x pc) (List.range (D 2).toNat) j (j + k) (by omega) (by omega)
      rw [range_getD (by omega)] at b2
      have hL' := hF.GL hp hL
      have nL : M' 6 0 = iI (D 2) := hL'.1
      unfold qB at b2
      rw [decide_eq_false_iff_not] at b2
      have isf := isBy8 hL' (w := j + k) (x := x) (y := pc) (by omega) hx hy
      refine ⟨nq_wr M' p 7 (iI ((j + (k + 1) : Nat) : Int)), ?_, ?_, ?_⟩
      · show fX4_seek_B57 p 6 M' = _
        unfold fX4_seek_B57
        simp (disch := omega) only [il_0, il_1, il_2, il_3, il_4, il_5, il_6, il_7, il_8, il_9, il_10, il_11, il_12, il_13, il_16, il_20, il_30, il_31, il_32, il_33, il_36, il_37, il_38, il_40, il_41, il_42, il_43, il_45, il_47, il_48, il_50, il_57, il_60, il_61, il_62, il_70, il_71, il_79, il_80, il_97, il_98, il_99, il_100, il_107, il_110, il_111, il_114, il_115, il_116, il_121, il_124, il_128, il_130, il_140, il_160, il_255, il_399, il_540, il_590, il_610, il_999, il_1000, il_1250, il_10000, il_12345, il_99999, il_1000000, il_1103515245, ll_0, ll_1, ll_2, ll_3, ll_4, ll_5, ll_6, ll_7, ll_8, ll_9, ll_30, ll_48, ll_50, ll_57, ll_99, ll_100, ll_255, ll_399, ll_999, ll_99999, nq_bs, nq_ltS, nq_b2S, b2_id, bi_id, iI_add, iI_sub, iI_mul, iI_neg, lI_neg, iI_64, iI_lt, iI_le, iI_eq, iI_ag, iI_as, iI_ar, iI_dv, iI_rem, isOut8, in9, bo_nz, bo_t, bo_f, wr_s, wr_n, wr_k, if_pos, if_neg, ↓reduceIte, Nat.reduceAdd, Nat.reduceMul, Nat.reduceSub, Nat.reduceEqDiff, Int.reduceToNat, Int.toNat_natCast, Int.reduceNeg, Int.reduceAdd, Int.reduceSub, Int.reduceMul, c2, c3, c7, nL, isf]
        rfl
      · intro q h1 h2; rw [wr_k h1]; exact hF q h1 h2
      · refine ⟨?_, ?_, ?_, ?_, ?_, ?_, ?_⟩
        · rw [wr_n (by omega)]; exact c2
        · rw [wr_n (by omega)]; exact c3
        · rw [wr_n (by omega)]; exact c4
        · rw [wr_n (by omega)]; exact c5
        · rw [wr_n (by omega)]; exact c6
        · rw [wr_s ⟨rfl, rfl⟩]
        · intro q hq; rw [wr_k (by omega)]; exact c8 q hq)
    (by
      rintro M' ⟨hF, hC⟩
      have es : j + (sk (qB D x pc) (List.range (D 2).toNat) j - j) = sk (qB D x pc) (List.range (D 2).toNat) j := by omega
      rw [es] at hC
      refine ⟨M', ?_, hF, hC⟩
      obtain ⟨c2, c3, c4, c5, c6, c7, c8⟩ := hC
      have hL' := hF.GL hp hL
      have nL : M' 6 0 = iI (D 2) := hL'.1
      show fX4_seek_B57 p 6 M' = _
      unfold fX4_seek_B57
      rcases sk_spec ((List.range (D 2).toNat).length - j) (List.range (D 2).toNat) j (by omega) (q := qB D x pc) with ⟨_, e⟩ | ⟨w, R, e1, e2, e3, e4⟩
      · rw [e, lr] at c7
        simp (disch := omega) only [il_0, il_1, il_2, il_3, il_4, il_5, il_6, il_7, il_8, il_9, il_10, il_11, il_12, il_13, il_16, il_20, il_30, il_31, il_32, il_33, il_36, il_37, il_38, il_40, il_41, il_42, il_43, il_45, il_47, il_48, il_50, il_57, il_60, il_61, il_62, il_70, il_71, il_79, il_80, il_97, il_98, il_99, il_100, il_107, il_110, il_111, il_114, il_115, il_116, il_121, il_124, il_128, il_130, il_140, il_160, il_255, il_399, il_540, il_590, il_610, il_999, il_1000, il_1250, il_10000, il_12345, il_99999, il_1000000, il_1103515245, ll_0, ll_1, ll_2, ll_3, ll_4, ll_5, ll_6, ll_7, ll_8, ll_9, ll_30, ll_48, ll_50, ll_57, ll_99, ll_100, ll_255, ll_399, ll_999, ll_99999, nq_bs, nq_ltS, nq_b2S, b2_id, bi_id, iI_add, iI_sub, iI_mul, iI_neg, lI_neg, iI_64, iI_lt, iI_le, iI_eq, iI_ag, iI_as, iI_ar, iI_dv, iI_rem, isOut8, in9, bo_nz, bo_t, bo_f, wr_s, wr_n, wr_k, if_pos, if_neg, ↓reduceIte, Nat.reduceAdd, Nat.reduceMul, Nat.reduceSub, Nat.reduceEqDiff, Int.reduceToNat, Int.toNat_natCast, Int.reduceNeg, Int.reduceAdd, Int.reduceSub, Int.reduceMul, c7, nL]
      · rw [range_getD (by omega)] at e3
        have hq : qB D x pc w = true := by
          have : w ∈ ((List.range (D 2).toNat).drop j).filter (qB D x pc) := by rw [e1]; simp
          exact (List.mem_filter.mp this).2
        unfold qB at hq
        rw [decide_eq_true_eq] at hq
        rw [e3] at c7 e2
        have isf := isBy8 hL' (w := w) (x := x) (y := pc) (by omega) hx hy
        simp (disch := omega) only [il_0, il_1, il_2, il_3, il_4, il_5, il_6, il_7, il_8, il_9, il_10, il_11, il_12, il_13, il_16, il_20, il_30, il_31, il_32, il_33, il_36, il_37, il_38, il_40, il_41, il_42, il_43, il_45, il_47, il_48, il_50, il_57, il_60, il_61, il_62, il_70, il_71, il_79, il_80, il_97, il_98, il_99, il_100, il_107, il_110, il_111, il_114, il_115, il_116, il_121, il_124, il_128, il_130, il_140, il_160, il_255, il_399, il_540, il_590, il_610, il_999, il_1000, il_1250, il_10000, il_12345, il_99999, il_1000000, il_1103515245, ll_0, ll_1, ll_2, ll_3, ll_4, ll_5, ll_6, ll_7, ll_8, ll_9, ll_30, ll_48, ll_50, ll_57, ll_99, ll_100, ll_255, ll_399, ll_999, ll_99999, nq_bs, nq_ltS, nq_b2S, b2_id, bi_id, iI_add, iI_sub, iI_mul, iI_neg, lI_neg, iI_64, iI_lt, iI_le, iI_eq, iI_ag, iI_as, iI_ar, iI_dv, iI_rem, isOut8, in9, bo_nz, bo_t, bo_f, wr_s, wr_n, wr_k, if_pos, if_neg, ↓reduceIte, Nat.reduceAdd, Nat.reduceMul, Nat.reduceSub, Nat.reduceEqDiff, Int.reduceToNat, Int.toNat_natCast, Int.reduceNeg, Int.reduceAdd, Int.reduceSub, Int.reduceMul, c2, c3, c7, nL, isf])
  exact key
/-- a place of the row from which so many are left, the first of them next -/
def At (q : Nat → Bool) (A : List Nat) (i : Nat) (R : List Nat) : Prop := i ≤ A.length ∧ (A.drop i).filter q = R ∧ ((R = [] ∧ i = A.length) ∨ ∃ w R', R = w :: R' ∧ i < A.length ∧ A.getD i 0 = w ∧ (A.drop (i + 1)).filter q = R')
theorem At_sk {q : Nat → Bool} {A : List Nat} {i : Nat} (h : i ≤ A.length) : At q A (sk q A i) ((A.drop i).filter q) := by
  have hl := sk_le (q := q) h
  rcases sk_spec (A.length - i) A i (by omega) (q := q) with ⟨h1, h2⟩ | ⟨w, R, h1, h2, h3, h4⟩
  · refine ⟨hl.1, ?_, Or.inl ⟨h1, h2⟩⟩
    rw [h1, h2, List.drop_length]; rfl
  · refine ⟨hl.1, ?_, Or.inr ⟨w, R, h1, h2, h3, h4⟩⟩
    have hq : q w = true := by
      have : w ∈ (A.drop i).filter q := by rw [h1]; simp
      exact (List.mem_filter.mp this).2
    rw [h1, List.drop_eq_getElem_cons h2, ← gd_e h2, h3, List.filter_cons, hq, if_pos rfl, h4]
/-- the class's state: what is left to come and what is left that was sent -/
def CL (M : Mem) (p : Nat) (D : Nat → Int) (x pc s u : Int) (off : Nat → Int) (RA RB : List Nat) : Prop := ∃ i j, CS M p x pc s u off i j ∧ At (qF D x pc) (arrL D) i RA ∧ At (qB D x pc) (List.range (D 2).toNat) j RB
theorem seek8 {M : Mem} {p i j : Nat} {D : Nat → Int} {x pc s u : Int} {off : Nat → Int} (hp : 16 ≤ p) (hL : GL M 6 D) (hx : inR x) (hy : inR pc) (hc : CS M p x pc s u off i j) (hi : i ≤ (arrL D).length) (hj : j ≤ (D 2).toNat) : ∃ M', fX4_seek p 6 M = some M' ∧ FX p M M' ∧ CL M' p D x pc s u off (((arrL D).drop i).filter (qF D x pc)) (((List.range (D 2).toNat).drop j).filter (qB D x pc)) := by
  obtain ⟨M1, e1, f1, c1⟩ := seekA hp hL hx hy hc hi
  obtain ⟨M2, e2, f2, c2⟩ := seekB hp (f1.GL hp hL) hx hy c1 hj
  refine ⟨M2, ?_, f1.trans f2, _, _, c2, At_sk hi, At_sk (by rw [List.length_range]; exact hj)⟩
  unfold fX4_seek fX4_seek_L57 fX4_seek_L106
  rw [e1, nq_bs, e2]
  rfl
