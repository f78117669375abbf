/-! 20.a: the kind of the latest word -/
abbrev mtB (D : Nat → Int) (x y : Int) (w : Nat) : Prop := D (612 + 8 * w) = x ∧ D (613 + 8 * w) = y
def bS (D : Nat → Int) (x y Y : Int) (b : Int) (w : Nat) : Int := if mtB D x y w ∧ 0 ≤ D (615 + 8 * w) ∧ D (615 + 8 * w) ≤ Y then (if b < 0 then (w : Int) else if D (615 + 8 * w) < D (615 + 8 * b.toNat) then b else (w : Int)) else b
def kbS (D : Nat → Int) (x y : Int) (b : Int) (w : Nat) : Int := if mtB D x y w then (w : Int) else b
def kOf (D : Nat → Int) (b : Int) : Int := if b < 0 then 9 else D (610 + 8 * b.toNat)
def Best (D : Nat → Int) (S : Nat → Prop) (b : Int) : Prop := (b = -1 ∧ ∀ w, S w → False) ∨ ∃ v : Nat, b = v ∧ S v ∧ ∀ w, S w → D (615 + 8 * w) < D (615 + 8 * v) ∨ (D (615 + 8 * w) = D (615 + 8 * v) ∧ w ≤ v)
theorem Best.uni {D : Nat → Int} {S : Nat → Prop} {b b' : Int} (h : Best D S b) (h' : Best D S b') : b = b' := by
  rcases h with ⟨e, h⟩ | ⟨v, e, h1, h2⟩
  · rcases h' with ⟨e', _⟩ | ⟨v', _, h1', _⟩
    · rw [e, e']
    · exact absurd h1' (h v')
  · rcases h' with ⟨_, h'⟩ | ⟨v', e', h1', h2'⟩
    · exact absurd h1 (h' v)
    · have := h2 v' h1'
      have := h2' v h1
      have : v = v' := by omega
      rw [e, e', this]
theorem Best.cong {D : Nat → Int} {S S' : Nat → Prop} {b : Int} (h : Best D S b) (hs : ∀ w, S w ↔ S' w) : Best D S' b := by
  rcases h with ⟨e, h⟩ | ⟨v, e, h1, h2⟩
  · exact Or.inl ⟨e, fun w hw => h w ((hs w).mpr hw)⟩
  · exact Or.inr ⟨v, e, (hs v).mp h1, fun w hw => h2 w ((hs w).mpr hw)⟩
theorem kG_run {D : Nat → Int} {x y : Int} : ∀ (l : List Nat) (b : Int), l.foldl (kG D x y) (kOf D b) = kOf D (l.foldl (kbS D x y) b) := by
  intro l
  induction l with
  | nil => intro b; rfl
  | cons w l ih =>
    intro b
    simp only [List.foldl_cons]
    rw [← ih]
    congr 1
    unfold kG kbS mtB
    by_cases c : D (612 + 8 * w) = x ∧ D (613 + 8 * w) = y
    · rw [if_pos c, if_pos c]
      unfold kOf
      rw [if_neg (by omega), Int.toNat_natCast]
    · rw [if_neg c, if_neg c]
theorem best_ref {D : Nat → Int} {x y Y : Int} : ∀ k : Nat, Best D (fun w => w < k ∧ mtB D x y w ∧ 0 ≤ D (615 + 8 * w) ∧ D (615 + 8 * w) ≤ Y) ((List.range k).foldl (bS D x y Y) (-1)) := by
  intro k
  induction k with
  | zero => exact Or.inl ⟨rfl, fun w hw => absurd hw.1 (by omega)⟩
  | succ k ih =>
    rw [List.range_succ, List.foldl_append]
    simp only [List.foldl_cons, List.foldl_nil]
    generalize (List.range k).foldl (bS D x y Y) (-1) = b at *
    unfold bS
    by_cases c : mtB D x y k ∧ 0 ≤ D (615 + 8 * k) ∧ D (615 + 8 * k) ≤ Y
    · rw [if_pos c]
      rcases ih with ⟨e, h⟩ | ⟨v, e, h1, h2⟩
      · rw [if_pos (by omega)]
        refine Or.inr ⟨k, rfl, ⟨by omega, c⟩, ?_⟩
        intro w hw
        by_cases ew : w = k
        · subst ew; exact Or.inr ⟨rfl, Nat.le_refl _⟩
        · exact absurd ⟨show w < k by omega, hw.2⟩ (h w)
      · rw [if_neg (by omega), e, Int.toNat_natCast]
        by_cases c2 : D (615 + 8 * k) < D (615 + 8 * v)
        · rw [if_pos c2]
          refine Or.inr ⟨v, rfl, ⟨by omega, h1.2⟩, ?_⟩
          intro w hw
          by_cases ew : w = k
          · subst ew; exact Or.inl c2
          · exact h2 w ⟨by omega, hw.2⟩
        · rw [if_neg c2]
          refine Or.inr ⟨k, rfl, ⟨by omega, c⟩, ?_⟩
          intro w hw
          by_cases ew : w = k
          · subst ew; exact Or.inr ⟨rfl, Nat.le_refl _⟩
          · have := h2 w ⟨by omega, hw.2⟩
            omega
    · rw [if_neg c]
      refine ih.cong ?_
      intro w
      constructor
      · intro hw; exact ⟨by omega, hw.2⟩
      · intro hw
        refine ⟨?_, hw.2⟩
        by_cases ew : w = k
        · subst ew; exact absurd hw.2 c
        · omega
theorem best_bkt {D : Nat → Int} {x y : Int} {n T : Nat} {b : Int} (h : Best D (fun w => w < n ∧ mtB D x y w ∧ 0 ≤ D (615 + 8 * w) ∧ D (615 + 8 * w) < (T : Int)) b) : ∀ j : Nat, j ≤ n → Best D (fun w => w < n ∧ mtB D x y w ∧ 0 ≤ D (615 + 8 * w) ∧ (D (615 + 8 * w) < (T : Int) ∨ (D (615 + 8 * w) = (T : Int) ∧ w < j))) (((List.range j).filter fun w => decide (D (615 + 8 * w) = (T : Int))).foldl (kbS D x y) b) := by
  intro j
  induction j with
  | zero =>
    intro _
    refine h.cong ?_
    intro w
    constructor
    · intro hw; exact ⟨hw.1, hw.2.1, hw.2.2.1, Or.inl hw.2.2.2⟩
    · intro hw; exact ⟨hw.1, hw.2.1, hw.2.2.1, by omega⟩
  | succ j ih =>
    intro hj
    have ih := ih (by omega)
    rw [List.range_succ, List.filter_append, List.foldl_append]
    generalize ((List.range j).filter fun w => decide (D (615 + 8 * w) = (T : Int))).foldl (kbS D x y) b = b' at *
    by_cases c : D (615 + 8 * j) = (T : Int)
    · rw [List.filter_cons_of_pos (by rw [decide_eq_true_eq]; exact c)]
      simp only [List.filter_nil, List.foldl_cons, List.foldl_nil]
      unfold kbS
      by_cases c2 : mtB D x y j
      · rw [if_pos c2]
        refine Or.inr ⟨j, rfl, ⟨by omega, c2, by omega, Or.inr ⟨c, by omega⟩⟩, ?_⟩
        intro w hw
        have := hw.2.2.2
        omega
      · rw [if_neg c2]
        refine ih.cong ?_
        intro w
        constructor
        · intro hw; exact ⟨hw.1, hw.2.1, hw.2.2.1, by have := hw.2.2.2; omega⟩
        · intro hw
          refine ⟨hw.1, hw.2.1, hw.2.2.1, ?_⟩
          by_cases ew : w = j
          · subst ew; exact absurd hw.2.1 c2
          · have := hw.2.2.2; omega
    · rw [List.filter_cons_of_neg (by rw [decide_eq_true_eq]; exact c)]
      simp only [List.filter_nil, List.foldl_nil]
      refine ih.cong ?_
      intro w
      constructor
      · intro hw; exact ⟨hw.1, hw.2.1, hw.2.2.1, by have := hw.2.2.2; omega⟩
      · intro hw
        refine ⟨hw.1, hw.2.1, hw.2.2.1, ?_⟩
        by_cases ew : w = j
        · subst ew
          have := hw.2.2.2; omega
        · have := hw.2.2.2; omega
theorem best_arr {D : Nat → Int} {x y : Int} : ∀ T : Nat, Best D (fun w => w < (D 2).toNat ∧ mtB D x y w ∧ 0 ≤ D (615 + 8 * w) ∧ D (615 + 8 * w) < (T : Int)) ((arrU D T).foldl (kbS D x y) (-1)) := by
  intro T
  induction T with
  | zero => exact Or.inl ⟨rfl, fun w hw => by have := hw.2.2; omega⟩
  | succ T ih =>
    rw [arrU_succ, List.foldl_append]
    refine (best_bkt ih (D 2).toNat (Nat.le_refl _)).cong ?_
    intro w
    constructor
    · intro hw; exact ⟨hw.1, hw.2.1, hw.2.2.1, by have := hw.2.2.2; omega⟩
    · intro hw; exact ⟨hw.1, hw.2.1, hw.2.2.1, by have := hw.2.2.2; omega⟩
theorem latest_eq {D : Nat → Int} {x y Y : Int} (hY : 0 ≤ Y) : (arrU D (Y + 1).toNat).foldl (kG D x y) 9 = kOf D ((List.range (D 2).toNat).foldl (bS D x y Y) (-1)) := by
  have e : (9 : Int) = kOf D (-1) := rfl
  rw [e, kG_run]
  congr 1
  refine (best_arr (Y + 1).toNat).uni ((best_ref (D 2).toNat).cong ?_)
  intro w
  constructor
  · intro hw; exact ⟨hw.1, hw.2.1, hw.2.2.1, by have := hw.2.2.2; omega⟩
  · intro hw; exact ⟨hw.1, hw.2.1, hw.2.2.1, by have := hw.2.2.2; omega⟩
theorem latest9 {M : Mem} {D : Nat → Int} {x y : Int} (h0 : ∀ j, j < 1250 → M 1 j = iI (D j)) (s0 : 0 ≤ D 0 ∧ D 0 ≤ 399) (w1 : 0 ≤ D 2 ∧ D 2 ≤ 80) (hk : ∀ w : Nat, (w : Int) < D 2 → wordOK D w) (hx : inR x) (hy : inR y) : fX9_latestKind (iI x) (iI y) M = some (iI (kOf D ((List.range (D 2).toNat).foldl (bS D x y (D 0)) (-1)))) := by
  have e := lp_fold (body := fun s : Int32 × Int32 => fX9_latestKind_B5 (iI x) (iI y) s.1 s.2 M) (fun k (a : Int) => (iI a, iI k)) (fun a => iI a) (bS D x y (D 0)) (D 2).toNat (fun k a => -1 ≤ a ∧ a < (k : Int)) (by omega)
    (by
      intro k a hkn ha
      have ok := hk k (by omega)
      have hc9 := hasCome9 (M := M) (x := x) (y := y) (Y := D 0) h0 (show k < 80 by omega) ok hx hy (by omega)
      have k6 := ok.2.2.2.2.2.1
      have wo5 : ∀ v : Nat, v < 80 → fX9_wo (iI v) (iI 5) M = some (iI (D (615 + 8 * v))) := fun v hv => wo9n h0 hv (by omega)
      show fX9_latestKind_B5 (iI x) (iI y) (iI a) (iI k) M = _ ∧ _
      by_cases c : D (612 + 8 * k) = x ∧ D (613 + 8 * k) = y ∧ 0 ≤ D (615 + 8 * k) ∧ D (615 + 8 * k) ≤ D 0
      · have c' : mtB D x y k ∧ 0 ≤ D (615 + 8 * k) ∧ D (615 + 8 * k) ≤ D 0 := ⟨⟨c.1, c.2.1⟩, c.2.2⟩
        rw [bo_t c] at hc9
        by_cases c1 : a < 0
        · have hb : bS D x y (D 0) a k = (k : Int) := by unfold bS; rw [if_pos c', if_pos c1]
          rw [hb]
          refine ⟨?_, by omega⟩
          unfold fX9_latestKind_B5
          simp (disch := omega) only [il_0, il_1, il_2, il_3, il_4, il_5, il_6, il_7, il_8, il_9, il_10, il_11, il_12, il_13, il_16, il_20, il_30, il_31, il_32, il_33, il_36, il_37, il_38, il_40, il_41, il_42, il_43, il_45, il_47, il_48, il_50, il_57, il_60, il_61, il_62, il_70, il_71, il_79, il_80, il_97, il_98, il_99, il_100, il_107, il_110, il_111, il_114, il_115, il_116, il_121, il_124, il_128, il_130, il_140, il_160, il_255, il_399, il_540, il_590, il_610, il_999, il_1000, il_1250, il_10000, il_12345, il_99999, il_1000000, il_1103515245, ll_0, ll_1, ll_2, ll_3, ll_4, ll_5, ll_6, ll_7, ll_8, ll_9, ll_30, ll_48, ll_50, ll_57, ll_99, ll_100, ll_255, ll_399, ll_999, ll_99999, nq_bs, nq_ltS, nq_b2S, b2_id, bi_id, iI_add, iI_sub, iI_mul, iI_neg, lI_neg, iI_64, iI_lt, iI_le, iI_eq, iI_ag, iI_as, iI_ar, iI_dv, iI_rem, isOut8, in9, bo_nz, bo_t, bo_f, wr_s, wr_n, wr_k, if_pos, if_neg, ↓reduceIte, Nat.reduceAdd, Nat.reduceMul, Nat.reduceSub, Nat.reduceEqDiff, Int.reduceToNat, Int.toNat_natCast, Int.reduceNeg, Int.reduceAdd, Int.reduceSub, Int.reduceMul, h0, hc9]
          rfl
        · obtain ⟨v, rfl⟩ := Int.eq_ofNat_of_zero_le (show 0 ≤ a by omega)
          have okv := (hk v (by omega)).2.2.2.2.2.1
          have w5k := wo5 k (by omega)
          have w5v := wo5 v (by omega)
          by_cases c2 : D (615 + 8 * k) < D (615 + 8 * v)
          · have hb : bS D x y (D 0) v k = (v : Int) := by unfold bS; rw [if_pos c', if_neg c1, Int.toNat_natCast, if_pos c2]
            rw [hb]
            refine ⟨?_, by omega⟩
            unfold fX9_latestKind_B5
            simp (disch := omega) only [il_0, il_1, il_2, il_3, il_4, il_5, il_6, il_7, il_8, il_9, il_10, il_11, il_12, il_13, il_16, il_20, il_30, il_31, il_32, il_33, il_36, il_37, il_38, il_40, il_41, il_42, il_43, il_45, il_47, il_48, il_50, il_57, il_60, il_61, il_62, il_70, il_71, il_79, il_80, il_97, il_98, il_99, il_100, il_107, il_110, il_111, il_114, il_115, il_116, il_121, il_124, il_128, il_130, il_140, il_160, il_255, il_399, il_540, il_590, il_610, il_999, il_1000, il_1250, il_10000, il_12345, il_99999, il_1000000, il_1103515245, ll_0, ll_1, ll_2, ll_3, ll_4, ll_5, ll_6, ll_7, ll_8, ll_9, ll_30, ll_48, ll_50, ll_57, ll_99, ll_100, ll_255, ll_399, ll_999, ll_99999, nq_bs, nq_ltS, nq_b2S, b2_id, bi_id, iI_add, iI_sub, iI_mul, iI_neg, lI_neg, iI_64, iI_lt, iI_le, iI_eq, iI_ag, iI_as, iI_ar, iI_dv, iI_rem, isOut8, in9, bo_nz, bo_t, bo_f, wr_s, wr_n, wr_k, if_pos, if_neg, ↓reduceIte, Nat.reduceAdd, Nat.reduceMul, Nat.reduceSub, Nat.reduceEqDiff, Int.reduceToNat, Int.toNat_natCast, Int.reduceNeg, Int.reduceAdd, Int.reduceSub, Int.reduceMul, h0, hc9, w5k, w5v]
            rfl
          · have hb : bS D x y (D 0) v k = (k : Int) := by unfold bS; rw [if_pos c', if_neg c1, Int.toNat_natCast, if_neg c2]
            rw [hb]
            refine ⟨?_, by omega⟩
            unfold fX9_latestKind_B5
            simp (disch := omega) only [il_0, il_1, il_2, il_3, il_4, il_5, il_6, il_7, il_8, il_9, il_10, il_11, il_12, il_13, il_16, il_20, il_30, il_31, il_32, il_33, il_36, il_37, il_38, il_40, il_41, il_42, il_43, il_45, il_47, il_48, il_50, il_57, il_60, il_61, il_62, il_70, il_71, il_79, il_80, il_97, il_98, il_99, il_100, il_107, il_110, il_111, il_114, il_115, il_116, il_121, il_124, il_128, il_130, il_140, il_160, il_255, il_399, il_540, il_590, il_610, il_999, il_1000, il_1250, il_10000, il_12345, il_99999, il_1000000, il_1103515245, ll_0, ll_1, ll_2, ll_3, ll_4, ll_5, ll_6, ll_7, ll_8, ll_9, ll_30, ll_48, ll_50, ll_57, ll_99, ll_100, ll_255, ll_399, ll_999, ll_99999, nq_bs, nq_ltS, nq_b2S, b2_id, bi_id, iI_add, iI_sub, iI_mul, iI_neg, lI_neg, iI_64, iI_lt, iI_le, iI_eq, iI_ag, iI_as, iI_ar, iI_dv, iI_rem, isOut8, in9, bo_nz, bo_t, bo_f, wr_s, wr_n, wr_k, if_pos, if_neg, ↓reduceIte, Nat.reduceAdd, Nat.reduceMul, Nat.reduceSub, Nat.reduceEqDiff, Int.reduceToNat, Int.toNat_natCast, Int.reduceNeg, Int.reduceAdd, Int.reduceSub, Int.reduceMul, h0, hc9, w5k, w5v]
            rfl
      · have c' : ¬ (mtB D x y k ∧ 0 ≤ D (615 + 8 * k) ∧ D (615 + 8 * k) ≤ D 0) := fun q => c ⟨q.1.1, q.1.2, q.2⟩
        have hb : bS D x y (D 0) a k = a := by unfold bS; rw [if_neg c']
        rw [hb]
        rw [bo_f c] at hc9
        refine ⟨?_, by omega⟩
        unfold fX9_latestKind_B5
        simp (disch := omega) only [il_0, il_1, il_2, il_3, il_4, il_5, il_6, il_7, il_8, il_9, il_10, il_11, il_12, il_13, il_16, il_20, il_30, il_31, il_32, il_33, il_36, il_37, il_38, il_40, il_41, il_42, il_43, il_45, il_47, il_48, il_50, il_57, il_60, il_61, il_62, il_70, il_71, il_79, il_80, il_97, il_98, il_99, il_100, il_107, il_110, il_111, il_114, il_115, il_116, il_121, il_124, il_128, il_130, il_140, il_160, il_255, il_399, il_540, il_590, il_610, il_999, il_1000, il_1250, il_10000, il_12345, il_99999, il_1000000, il_1103515245, ll_0, ll_1, ll_2, ll_3, ll_4, ll_5, ll_6, ll_7, ll_8, ll_9, ll_30, ll_48, ll_50, ll_57, ll_99, ll_100, ll_255, ll_399, ll_999, ll_99999, nq_bs, nq_ltS, nq_b2S, b2_id, bi_id, iI_add, iI_sub, iI_mul, iI_neg, lI_neg, iI_64, iI_lt, iI_le, iI_eq, iI_ag, iI_as, iI_ar, iI_dv, iI_rem, isOut8, in9, bo_nz, bo_t, bo_f, wr_s, wr_n, wr_k, if_pos, if_neg, ↓reduceIte, Nat.reduceAdd, Nat.reduceMul, Nat.reduceSub, Nat.reduceEqDiff, Int.reduceToNat, Int.toNat_natCast, Int.reduceNeg, Int.reduceAdd, Int.reduceSub, Int.reduceMul, h0, hc9]
        rfl)
    (by
      intro a ha
      show fX9_latestKind_B5 (iI x) (iI y) (iI a) (iI (((D 2).toNat : Nat) : Int)) M = _
      unfold fX9_latestKind_B5
      simp (disch := omega) only [il_0, il_1, il_2, il_3, il_4, il_5, il_6, il_7, il_8, il_9, il_10, il_11, il_12, il_13, il_16, il_20, il_30, il_31, il_32, il_33, il_36, il_37, il_38, il_40, il_41, il_42, il_43, il_45, il_47, il_48, il_50, il_57, il_60, il_61, il_62, il_70, il_71, il_79, il_80, il_97, il_98, il_99, il_100, il_107, il_110, il_111, il_114, il_115, il_116, il_121, il_124, il_128, il_130, il_140, il_160, il_255, il_399, il_540, il_590, il_610, il_999, il_1000, il_1250, il_10000, il_12345, il_99999, il_1000000, il_1103515245, ll_0, ll_1, ll_2, ll_3, ll_4, ll_5, ll_6, ll_7, ll_8, ll_9, ll_30, ll_48, ll_50, ll_57, ll_99, ll_100, ll_255, ll_399, ll_999, ll_99999, nq_bs, nq_ltS, nq_b2S, b2_id, bi_id, iI_add, iI_sub, iI_mul, iI_neg, lI_neg, iI_64, iI_lt, iI_le, iI_eq, iI_ag, iI_as, iI_ar, iI_dv, iI_rem, isOut8, in9, bo_nz, bo_t, bo_f, wr_s, wr_n, wr_k, if_pos, if_neg, ↓reduceIte, Nat.reduceAdd, Nat.reduceMul, Nat.reduceSub, Nat.reduceEqDiff, Int.reduceToNat, Int.toNat_natCast, Int.reduceNeg, Int.reduceAdd, Int.reduceSub, Int.reduceMul, h0]) (-1) ⟨by omega, by omega⟩
  obtain ⟨e1, e2⟩ := e
  unfold fX9_latestKind fX9_latestKind_L5 fX9_latestKind_L66
  rw [show ((-1 : Int32), (0 : Int32)) = (iI (-1), iI ((0 : Nat) : Int)) from rfl, e1, nq_bs]
  generalize (List.range (D 2).toNat).foldl (bS D x y (D 0)) (-1) = b at *
  unfold kOf
  by_cases c : b < 0
  · rw [if_pos c, if_neg (by rw [il_0, iI_le (by omega) (by omega)]; omega)]
    rfl
  · obtain ⟨v, rfl⟩ := Int.eq_ofNat_of_zero_le (show 0 ≤ b by omega)
    rw [if_neg c, if_pos (by rw [il_0, iI_le (by omega) (by omega)]; omega), il_0, wo9n h0 (by omega) (by omega), nq_bs]
    rfl
theorem pr_nm4 {h : Nat → Int} {nm nm' : Nat → Int32} (e : ∀ i, i < 4 → nm i = nm' i) : ∀ f lv op a, (pr h true f lv op a).2.2.2 nm = (pr h true f lv op a).2.2.2 nm' := by
  intro f
  induction f with
  | zero => intro lv op a; rfl
  | succ f ih =>
    intro lv op a
    simp only [pr]
    split
    · split
      · exact pLoop_nm (fun a => ih (lv + 1) op a) _ _ _ _ (ih (lv + 1) op a)
      · rfl
    · split
      · rfl
      · split
        · rename_i c
          have : nmI true (h a) < 4 := by
            unfold nmI
            rw [if_pos rfl]
            repeat' split
            all_goals omega
          exact e _ (by omega)
        · split
          · split
            · dsimp only; rw [ih]
            · rfl
          · split
            · split
              · split
                · exact ih 0 (op + 1) (a + 1)
                · rfl
              · rfl
            · rfl
theorem tV_nm4 {D : Nat → Int} {u : Nat} {nm nm' : Nat → Int32} (hu : u < 6) (e : ∀ i, i < 4 → nm i = nm' i) : tV D u nm = tV D u nm' := by
  unfold tV
  rw [decide_eq_true hu]
  split
  · rfl
  · exact pr_nm4 e _ _ _ _
