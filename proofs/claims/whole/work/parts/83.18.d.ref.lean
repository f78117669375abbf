/-! 18.d: the reference's evaluator against pr -/
/-- the reference reads at a place: base, at, size, fault, opened, isOrder; its bytes -/
def ES (B : Nat → Int) (n : Nat) (o : Bool) (base : Nat) (M : Mem) (a op : Nat) : Prop := M 0 9 = iI base ∧ M 0 10 = iI a ∧ M 0 11 = iI n ∧ M 0 12 = iI (-1) ∧ M 0 13 = iI op ∧ M 0 14 = iI (if o = true then 1 else 0) ∧ (∀ i, i < n → M 1 (base + i) = iI (B i) ∧ 0 ≤ B i ∧ B i ≤ 255) ∧ n ≤ 50 ∧ base ≤ 1000
/-- only the fields at, fault, opened of the object change -/
def FE (M M' : Mem) : Prop := (∀ k, k ≠ 0 → M' k = M k) ∧ ∀ j, j ≠ 10 → j ≠ 12 → j ≠ 13 → M' 0 j = M 0 j
theorem FE.refl (M : Mem) : FE M M := ⟨fun _ _ => rfl, fun _ _ _ _ => rfl⟩
theorem FE.trans {M M' M'' : Mem} (h : FE M M') (h' : FE M' M'') : FE M M'' := ⟨fun k hk => (h'.1 k hk).trans (h.1 k hk), fun j h1 h2 h3 => (h'.2 j h1 h2 h3).trans (h.2 j h1 h2 h3)⟩
theorem FE.wr {M M' : Mem} {i : Nat} {v : Int32} (h : FE M M') (hi : i = 10 ∨ i = 12 ∨ i = 13) : FE M (nq_wr M' 0 i v) := ⟨fun k hk => by rw [wr_k hk]; exact h.1 k hk, fun j h1 h2 h3 => by rw [wr_n (by omega)]; exact h.2 j h1 h2 h3⟩
theorem ES.to {B : Nat → Int} {n : Nat} {o : Bool} {base : Nat} {M M' : Mem} {a op b op' : Nat} (h : ES B n o base M a op) (hF : FE M M') (h1 : M' 0 10 = iI b) (h2 : M' 0 12 = iI (-1)) (h3 : M' 0 13 = iI op') : ES B n o base M' b op' := by
  obtain ⟨e9, e10, e11, e12, e13, e14, eb, hn, hb⟩ := h
  refine ⟨by rw [hF.2 9 (by omega) (by omega) (by omega)]; exact e9, h1, by rw [hF.2 11 (by omega) (by omega) (by omega)]; exact e11, h2, h3, by rw [hF.2 14 (by omega) (by omega) (by omega)]; exact e14, ?_, hn, hb⟩
  intro i hi
  rw [hF.1 1 (by omega)]
  exact eb i hi
theorem ES.at {B : Nat → Int} {n : Nat} {o : Bool} {base : Nat} {M : Mem} {a op b : Nat} (h : ES B n o base M a op) : ES B n o base (nq_wr M 0 10 (iI b)) b op := by
  refine h.to ((FE.refl M).wr (Or.inl rfl)) (wr_s ⟨rfl, rfl⟩) ?_ ?_
  · rw [wr_n (by omega)]; exact h.2.2.2.1
  · rw [wr_n (by omega)]; exact h.2.2.2.2.1
theorem here9 {B : Nat → Int} {n : Nat} {o : Bool} {base : Nat} {M : Mem} {a op : Nat} (h : ES B n o base M a op) (ha : a ≤ n) : fX9_here M = some (iI (hB B n a)) ∧ (hB B n a = -1 ∨ (0 ≤ hB B n a ∧ hB B n a ≤ 255)) := by
  obtain ⟨e9, e10, e11, e12, e13, e14, eb, hn, hb⟩ := h
  unfold fX9_here hB
  by_cases c : a < n
  · have q := eb a c
    have t : ((base : Int) + a).toNat = base + a := by omega
    rw [if_pos c]
    refine ⟨?_, Or.inr q.2⟩
    simp (disch := omega) only [il_0, il_1, il_2, il_3, il_4, il_5, il_6, il_7, il_8, il_9, il_10, il_11, il_12, il_13, il_16, il_20, il_30, il_31, il_32, il_33, il_36, il_37, il_38, il_40, il_41, il_42, il_43, il_45, il_47, il_48, il_50, il_57, il_60, il_61, il_62, il_70, il_71, il_79, il_80, il_97, il_98, il_99, il_100, il_107, il_110, il_111, il_114, il_115, il_116, il_121, il_124, il_128, il_130, il_140, il_160, il_255, il_399, il_540, il_590, il_610, il_999, il_1000, il_1250, il_10000, il_12345, il_99999, il_1000000, il_1103515245, ll_0, ll_1, ll_2, ll_3, ll_4, ll_5, ll_6, ll_7, ll_8, ll_9, ll_30, ll_48, ll_50, ll_57, ll_99, ll_100, ll_255, ll_399, ll_999, ll_99999, nq_bs, nq_ltS, nq_b2S, b2_id, bi_id, iI_add, iI_sub, iI_mul, iI_neg, lI_neg, iI_64, iI_lt, iI_le, iI_eq, iI_ag, iI_as, iI_ar, iI_dv, iI_rem, isOut8, in9, bo_nz, bo_t, bo_f, wr_s, wr_n, wr_k, if_pos, if_neg, ↓reduceIte, Nat.reduceAdd, Nat.reduceMul, Nat.reduceSub, Nat.reduceEqDiff, Int.reduceToNat, Int.toNat_natCast, Int.reduceNeg, Int.reduceAdd, Int.reduceSub, Int.reduceMul, e9, e10, e11, e12, t, q.1]
  · rw [if_neg c]
    refine ⟨?_, Or.inl rfl⟩
    simp (disch := omega) only [il_0, il_1, il_2, il_3, il_4, il_5, il_6, il_7, il_8, il_9, il_10, il_11, il_12, il_13, il_16, il_20, il_30, il_31, il_32, il_33, il_36, il_37, il_38, il_40, il_41, il_42, il_43, il_45, il_47, il_48, il_50, il_57, il_60, il_61, il_62, il_70, il_71, il_79, il_80, il_97, il_98, il_99, il_100, il_107, il_110, il_111, il_114, il_115, il_116, il_121, il_124, il_128, il_130, il_140, il_160, il_255, il_399, il_540, il_590, il_610, il_999, il_1000, il_1250, il_10000, il_12345, il_99999, il_1000000, il_1103515245, ll_0, ll_1, ll_2, ll_3, ll_4, ll_5, ll_6, ll_7, ll_8, ll_9, ll_30, ll_48, ll_50, ll_57, ll_99, ll_100, ll_255, ll_399, ll_999, ll_99999, nq_bs, nq_ltS, nq_b2S, b2_id, bi_id, iI_add, iI_sub, iI_mul, iI_neg, lI_neg, iI_64, iI_lt, iI_le, iI_eq, iI_ag, iI_as, iI_ar, iI_dv, iI_rem, isOut8, in9, bo_nz, bo_t, bo_f, wr_s, wr_n, wr_k, if_pos, if_neg, ↓reduceIte, Nat.reduceAdd, Nat.reduceMul, Nat.reduceSub, Nat.reduceEqDiff, Int.reduceToNat, Int.toNat_natCast, Int.reduceNeg, Int.reduceAdd, Int.reduceSub, Int.reduceMul, e10, e11]
theorem hereF {M : Mem} {z : Int} (h : M 0 12 = iI z) (hz : 0 ≤ z ∧ z ≤ 100) : fX9_here M = some (iI (-1)) := by
  unfold fX9_here
  simp (disch := omega) only [nq_ltS, h, il_0, iI_le]
  rw [if_pos (show (0 : Int) ≤ z by omega)]
  split <;> rfl
theorem wrong9 {B : Nat → Int} {n : Nat} {o : Bool} {base : Nat} {M : Mem} {a op : Nat} (h : ES B n o base M a op) : fX9_wrong M = some (iI 0, nq_wr M 0 12 (iI a)) := by
  obtain ⟨e9, e10, e11, e12, e13, e14, eb, hn, hb⟩ := h
  unfold fX9_wrong
  simp (disch := omega) only [il_0, il_1, il_2, il_3, il_4, il_5, il_6, il_7, il_8, il_9, il_10, il_11, il_12, il_13, il_16, il_20, il_30, il_31, il_32, il_33, il_36, il_37, il_38, il_40, il_41, il_42, il_43, il_45, il_47, il_48, il_50, il_57, il_60, il_61, il_62, il_70, il_71, il_79, il_80, il_97, il_98, il_99, il_100, il_107, il_110, il_111, il_114, il_115, il_116, il_121, il_124, il_128, il_130, il_140, il_160, il_255, il_399, il_540, il_590, il_610, il_999, il_1000, il_1250, il_10000, il_12345, il_99999, il_1000000, il_1103515245, ll_0, ll_1, ll_2, ll_3, ll_4, ll_5, ll_6, ll_7, ll_8, ll_9, ll_30, ll_48, ll_50, ll_57, ll_99, ll_100, ll_255, ll_399, ll_999, ll_99999, nq_bs, nq_ltS, nq_b2S, b2_id, bi_id, iI_add, iI_sub, iI_mul, iI_neg, lI_neg, iI_64, iI_lt, iI_le, iI_eq, iI_ag, iI_as, iI_ar, iI_dv, iI_rem, isOut8, in9, bo_nz, bo_t, bo_f, wr_s, wr_n, wr_k, if_pos, if_neg, ↓reduceIte, Nat.reduceAdd, Nat.reduceMul, Nat.reduceSub, Nat.reduceEqDiff, Int.reduceToNat, Int.toNat_natCast, Int.reduceNeg, Int.reduceAdd, Int.reduceSub, Int.reduceMul, e10, e12]
theorem wrongF {M : Mem} {z : Int} (h : M 0 12 = iI z) (hz : 0 ≤ z ∧ z ≤ 100) : fX9_wrong M = some (iI 0, nq_wr M 0 12 (iI z)) := by
  unfold fX9_wrong
  simp (disch := omega) only [il_0, il_1, il_2, il_3, il_4, il_5, il_6, il_7, il_8, il_9, il_10, il_11, il_12, il_13, il_16, il_20, il_30, il_31, il_32, il_33, il_36, il_37, il_38, il_40, il_41, il_42, il_43, il_45, il_47, il_48, il_50, il_57, il_60, il_61, il_62, il_70, il_71, il_79, il_80, il_97, il_98, il_99, il_100, il_107, il_110, il_111, il_114, il_115, il_116, il_121, il_124, il_128, il_130, il_140, il_160, il_255, il_399, il_540, il_590, il_610, il_999, il_1000, il_1250, il_10000, il_12345, il_99999, il_1000000, il_1103515245, ll_0, ll_1, ll_2, ll_3, ll_4, ll_5, ll_6, ll_7, ll_8, ll_9, ll_30, ll_48, ll_50, ll_57, ll_99, ll_100, ll_255, ll_399, ll_999, ll_99999, nq_bs, nq_ltS, nq_b2S, b2_id, bi_id, iI_add, iI_sub, iI_mul, iI_neg, lI_neg, iI_64, iI_lt, iI_le, iI_eq, iI_ag, iI_as, iI_ar, iI_dv, iI_rem, isOut8, in9, bo_nz, bo_t, bo_f, wr_s, wr_n, wr_k, if_pos, if_neg, ↓reduceIte, Nat.reduceAdd, Nat.reduceMul, Nat.reduceSub, Nat.reduceEqDiff, Int.reduceToNat, Int.toNat_natCast, Int.reduceNeg, Int.reduceAdd, Int.reduceSub, Int.reduceMul, h]
theorem takes9 {M : Mem} {c x : Int} {a : Nat} (h : fX9_here M = some (iI c)) (h10 : M 0 10 = iI a) (hc : inR c) (hx : inR x) (e : c = x) : fX9_takes (iI x) M = some (iI 1, nq_wr M 0 10 (iI ((a + 1 : Nat) : Int))) := by
  unfold fX9_takes
  simp (disch := omega) only [il_0, il_1, il_2, il_3, il_4, il_5, il_6, il_7, il_8, il_9, il_10, il_11, il_12, il_13, il_16, il_20, il_30, il_31, il_32, il_33, il_36, il_37, il_38, il_40, il_41, il_42, il_43, il_45, il_47, il_48, il_50, il_57, il_60, il_61, il_62, il_70, il_71, il_79, il_80, il_97, il_98, il_99, il_100, il_107, il_110, il_111, il_114, il_115, il_116, il_121, il_124, il_128, il_130, il_140, il_160, il_255, il_399, il_540, il_590, il_610, il_999, il_1000, il_1250, il_10000, il_12345, il_99999, il_1000000, il_1103515245, ll_0, ll_1, ll_2, ll_3, ll_4, ll_5, ll_6, ll_7, ll_8, ll_9, ll_30, ll_48, ll_50, ll_57, ll_99, ll_100, ll_255, ll_399, ll_999, ll_99999, nq_bs, nq_ltS, nq_b2S, b2_id, bi_id, iI_add, iI_sub, iI_mul, iI_neg, lI_neg, iI_64, iI_lt, iI_le, iI_eq, iI_ag, iI_as, iI_ar, iI_dv, iI_rem, isOut8, in9, bo_nz, bo_t, bo_f, wr_s, wr_n, wr_k, if_pos, if_neg, ↓reduceIte, Nat.reduceAdd, Nat.reduceMul, Nat.reduceSub, Nat.reduceEqDiff, Int.reduceToNat, Int.toNat_natCast, Int.reduceNeg, Int.reduceAdd, Int.reduceSub, Int.reduceMul, h, h10]
  rfl
theorem takes9n {M : Mem} {c x : Int} (h : fX9_here M = some (iI c)) (hc : inR c) (hx : inR x) (e : c ≠ x) : fX9_takes (iI x) M = some (iI 0, M) := by
  unfold fX9_takes
  simp (disch := omega) only [il_0, il_1, il_2, il_3, il_4, il_5, il_6, il_7, il_8, il_9, il_10, il_11, il_12, il_13, il_16, il_20, il_30, il_31, il_32, il_33, il_36, il_37, il_38, il_40, il_41, il_42, il_43, il_45, il_47, il_48, il_50, il_57, il_60, il_61, il_62, il_70, il_71, il_79, il_80, il_97, il_98, il_99, il_100, il_107, il_110, il_111, il_114, il_115, il_116, il_121, il_124, il_128, il_130, il_140, il_160, il_255, il_399, il_540, il_590, il_610, il_999, il_1000, il_1250, il_10000, il_12345, il_99999, il_1000000, il_1103515245, ll_0, ll_1, ll_2, ll_3, ll_4, ll_5, ll_6, ll_7, ll_8, ll_9, ll_30, ll_48, ll_50, ll_57, ll_99, ll_100, ll_255, ll_399, ll_999, ll_99999, nq_bs, nq_ltS, nq_b2S, b2_id, bi_id, iI_add, iI_sub, iI_mul, iI_neg, lI_neg, iI_64, iI_lt, iI_le, iI_eq, iI_ag, iI_as, iI_ar, iI_dv, iI_rem, isOut8, in9, bo_nz, bo_t, bo_f, wr_s, wr_n, wr_k, if_pos, if_neg, ↓reduceIte, Nat.reduceAdd, Nat.reduceMul, Nat.reduceSub, Nat.reduceEqDiff, Int.reduceToNat, Int.toNat_natCast, Int.reduceNeg, Int.reduceAdd, Int.reduceSub, Int.reduceMul, h]
def SimE (B : Nat → Int) (n : Nat) (o : Bool) (base op : Nat) (M : Mem) (r : PR) (q : Option (Int32 × Mem)) : Prop := ∃ v M', q = some (v, M') ∧ FE M M' ∧ (r.1 = true → v = r.2.2.2 (M 9) ∧ ES B n o base M' r.2.1 op) ∧ (r.1 = false → M' 0 12 = iI r.2.1)
theorem eloop {B : Nat → Int} {n : Nat} {o : Bool} {base op lv : Nat} {M0 : Mem} {g : Nat → PR} {b : Int32 → Mem → Option ((Int32 × Mem) ⊕ (Int32 × Mem))} {gE : Mem → Option (Int32 × Mem)}
    (hend : ∀ x M c, fX9_here M = some (iI c) → (c = -1 ∨ (0 ≤ c ∧ c ≤ 255)) → sgn lv c = false → b x M = some (.inr (x, M)))
    (hgo : ∀ x M a v M', ES B n o base M a op → a < n → sgn lv (hB B n a) = true → gE (nq_wr M 0 10 (iI ((a + 1 : Nat) : Int))) = some (v, M') → b x M = some (.inl (jn (hB B n a) x v, M')))
    (hok : ∀ a, a ≤ n → pOK n a (g a)) (hg : ∀ M a, ES B n o base M a op → a ≤ n → SimE B n o base op M (g a) (gE M)) :
    ∀ k a cs v x M fuel, ES B n o base M a op → FE M0 M → a ≤ n → 50 ≤ a + k → k + 1 < fuel → x = v (M0 9) → SimE B n o base op M0 (pLoop (hB B n) lv g k a cs v) (nq_lp (fun s : Int32 × Mem => b s.1 s.2) fuel (x, M)) := by
  intro k
  induction k with
  | zero =>
    intro a cs v x M fuel hS hF ha h5 hf hx
    obtain ⟨f, rfl⟩ : ∃ f, fuel = f + 1 := ⟨fuel - 1, by omega⟩
    have hn := hS.2.2.2.2.2.2.2.1
    have hh := here9 hS ha
    have e : hB B n a = -1 := hB_z a (by omega)
    rw [e] at hh
    refine ⟨x, M, lp_r (hend x M (-1) hh.1 (Or.inl rfl) ?_), hF, fun _ => ⟨hx, hS⟩, fun c => (by cases c)⟩
    unfold sgn; split <;> rfl
  | succ k ih =>
    intro a cs v x M fuel hS hF ha h5 hf hx
    obtain ⟨f, rfl⟩ : ∃ f, fuel = f + 1 := ⟨fuel - 1, by omega⟩
    have hn := hS.2.2.2.2.2.2.2.1
    have hh := here9 hS ha
    cases cs1 : sgn lv (hB B n a) with
    | false =>
      have ep : pLoop (hB B n) lv g (k + 1) a cs v = (true, a, cs, v) := by
        show (if sgn lv (hB B n a) = true then (if (g (a + 1)).1 = true then _ else _) else _) = _
        rw [cs1, if_neg (by decide)]
      rw [ep]
      exact ⟨x, M, lp_r (hend x M _ hh.1 hh.2 cs1), hF, fun _ => ⟨hx, hS⟩, fun c => (by cases c)⟩
    | true =>
      have hne : hB B n a ≠ -1 := by
        intro q
        rw [q] at cs1
        unfold sgn at cs1
        split at cs1 <;> simp at cs1
      have hlt : a < n := Nat.lt_of_not_le (fun q => hne (hB_z a q))
      have Fw : FE M0 (nq_wr M 0 10 (iI ((a + 1 : Nat) : Int))) := hF.wr (Or.inl rfl)
      obtain ⟨v1, M1, e1, F1, o1, o2⟩ := hg (nq_wr M 0 10 (iI ((a + 1 : Nat) : Int))) (a + 1) hS.at (by omega)
      have eb := hgo x M a v1 M1 hS hlt cs1 e1
      have hk := hok (a + 1) (by omega)
      cases hr : (g (a + 1)).1 with
      | true =>
        have ep : pLoop (hB B n) lv g (k + 1) a cs v = pLoop (hB B n) lv g k (g (a + 1)).2.1 (cs ++ (g (a + 1)).2.2.1 ++ [iI (-(hB B n a))]) (fun nm => jn (hB B n a) (v nm) ((g (a + 1)).2.2.2 nm)) := by
          show (if sgn lv (hB B n a) = true then (if (g (a + 1)).1 = true then _ else _) else _) = _
          rw [if_pos cs1, if_pos hr]
        rw [ep]
        obtain ⟨b1, b2, b3⟩ := hk.1 hr
        obtain ⟨y1, y2⟩ := o1 hr
        obtain ⟨x', M', z1, z2⟩ := ih (g (a + 1)).2.1 (cs ++ (g (a + 1)).2.2.1 ++ [iI (-(hB B n a))]) (fun nm => jn (hB B n a) (v nm) ((g (a + 1)).2.2.2 nm)) (jn (hB B n a) x v1) M1 f y2 (Fw.trans F1) b2 (by omega) (by omega) (by rw [y1, hx, Fw.1 9 (by omega)])
        exact ⟨x', M', (lp_i eb).trans z1, z2⟩
      | false =>
        have ep : pLoop (hB B n) lv g (k + 1) a cs v = pF (g (a + 1)).2.1 := by
          show (if sgn lv (hB B n a) = true then (if (g (a + 1)).1 = true then _ else _) else _) = _
          rw [if_pos cs1, hr, if_neg (by decide)]
        rw [ep]
        have b1 := hk.2 hr
        have q12 := o2 hr
        obtain ⟨f', rfl⟩ : ∃ f', f = f' + 1 := ⟨f - 1, by omega⟩
        have he := hend (jn (hB B n a) x v1) M1 (-1) (hereF q12 (by omega)) (Or.inl rfl) (by unfold sgn; split <;> rfl)
        refine ⟨jn (hB B n a) x v1, M1, (lp_i eb).trans (lp_r he), Fw.trans F1, fun c => (by cases c), fun _ => q12⟩
theorem sgn_f0 {c : Int} (h : sgn 0 c = false) : c ≠ 124 := by simpa [sgn] using h
theorem sgn_f1 {c : Int} (h : sgn 1 c = false) : c ≠ 38 := by simpa [sgn] using h
theorem sgn_f2 {c : Int} (h : sgn 2 c = false) : c ≠ 60 ∧ c ≠ 61 ∧ c ≠ 62 := by simpa [sgn, not_or] using h
theorem sgn_f3 {c : Int} (h : sgn 3 c = false) : c ≠ 43 ∧ c ≠ 45 := by simpa [sgn, not_or] using h
theorem sgn_f4 {c : Int} (h : sgn 4 c = false) : c ≠ 42 ∧ c ≠ 47 ∧ c ≠ 37 := by simpa [sgn, not_or] using h
theorem sgn_t0 {c : Int} (h : sgn 0 c = true) : c = 124 := by simpa [sgn] using h
theorem sgn_t1 {c : Int} (h : sgn 1 c = true) : c = 38 := by simpa [sgn] using h
theorem sgn_t2 {c : Int} (h : sgn 2 c = true) : c = 60 ∨ c = 61 ∨ c = 62 := by simpa [sgn] using h
theorem sgn_t3 {c : Int} (h : sgn 3 c = true) : c = 43 ∨ c = 45 := by simpa [sgn] using h
theorem sgn_t4 {c : Int} (h : sgn 4 c = true) : c = 42 ∨ c = 47 ∨ c = 37 := by simpa [sgn] using h
theorem endE0 {gE : Mem → Option (Int32 × Mem)} (x : Int32) (M : Mem) (c : Int) (h : fX9_here M = some (iI c)) (hc : c = -1 ∨ (0 ≤ c ∧ c ≤ 255)) (hs : sgn 0 c = false) : fX9_either_B5 gE x M = some (.inr (x, M)) := by
  unfold fX9_either_B5
  rw [il_124, takes9n h (by omega) (by omega) (sgn_f0 hs), nq_b2S, if_pos (by decide)]
theorem endE1 {gE : Mem → Option (Int32 × Mem)} (x : Int32) (M : Mem) (c : Int) (h : fX9_here M = some (iI c)) (hc : c = -1 ∨ (0 ≤ c ∧ c ≤ 255)) (hs : sgn 1 c = false) : fX9_both_B5 gE x M = some (.inr (x, M)) := by
  unfold fX9_both_B5
  rw [il_38, takes9n h (by omega) (by omega) (sgn_f1 hs), nq_b2S, if_pos (by decide)]
theorem endE3 {gE : Mem → Option (Int32 × Mem)} (x : Int32) (M : Mem) (c : Int) (h : fX9_here M = some (iI c)) (hc : c = -1 ∨ (0 ≤ c ∧ c ≤ 255)) (hs : sgn 3 c = false) : fX9_sum_B5 gE x M = some (.inr (x, M)) := by
  obtain ⟨s1', s2'⟩ := sgn_f3 hs
  unfold fX9_sum_B5
  simp (disch := omega) only [il_0, il_1, il_2, il_3, il_4, il_5, il_6, il_7, il_8, il_9, il_10, il_11, il_12, il_13, il_16, il_20, il_30, il_31, il_32, il_33, il_36, il_37, il_38, il_40, il_41, il_42, il_43, il_45, il_47, il_48, il_50, il_57, il_60, il_61, il_62, il_70, il_71, il_79, il_80, il_97, il_98, il_99, il_100, il_107, il_110, il_111, il_114, il_115, il_116, il_121, il_124, il_128, il_130, il_140, il_160, il_255, il_399, il_540, il_590, il_610, il_999, il_1000, il_1250, il_10000, il_12345, il_99999, il_1000000, il_1103515245, ll_0, ll_1, ll_2, ll_3, ll_4, ll_5, ll_6, ll_7, ll_8, ll_9, ll_30, ll_48, ll_50, ll_57, ll_99, ll_100, ll_255, ll_399, ll_999, ll_99999, nq_bs, nq_ltS, nq_b2S, b2_id, bi_id, iI_add, iI_sub, iI_mul, iI_neg, lI_neg, iI_64, iI_lt, iI_le, iI_eq, iI_ag, iI_as, iI_ar, iI_dv, iI_rem, isOut8, in9, bo_nz, bo_t, bo_f, wr_s, wr_n, wr_k, if_pos, if_neg, ↓reduceIte, Nat.reduceAdd, Nat.reduceMul, Nat.reduceSub, Nat.reduceEqDiff, Int.reduceToNat, Int.toNat_natCast, Int.reduceNeg, Int.reduceAdd, Int.reduceSub, Int.reduceMul, h]
theorem endE4 {gE : Mem → Option (Int32 × Mem)} (x : Int32) (M : Mem) (c : Int) (h : fX9_here M = some (iI c)) (hc : c = -1 ∨ (0 ≤ c ∧ c ≤ 255)) (hs : sgn 4 c = false) : fX9_product_B5 gE x M = some (.inr (x, M)) := by
  obtain ⟨s1', s2', s3'⟩ := sgn_f4 hs
  unfold fX9_product_B5
  simp (disch := omega) only [il_0, il_1, il_2, il_3, il_4, il_5, il_6, il_7, il_8, il_9, il_10, il_11, il_12, il_13, il_16, il_20, il_30, il_31, il_32, il_33, il_36, il_37, il_38, il_40, il_41, il_42, il_43, il_45, il_47, il_48, il_50, il_57, il_60, il_61, il_62, il_70, il_71, il_79, il_80, il_97, il_98, il_99, il_100, il_107, il_110, il_111, il_114, il_115, il_116, il_121, il_124, il_128, il_130, il_140, il_160, il_255, il_399, il_540, il_590, il_610, il_999, il_1000, il_1250, il_10000, il_12345, il_99999, il_1000000, il_1103515245, ll_0, ll_1, ll_2, ll_3, ll_4, ll_5, ll_6, ll_7, ll_8, ll_9, ll_30, ll_48, ll_50, ll_57, ll_99, ll_100, ll_255, ll_399, ll_999, ll_99999, nq_bs, nq_ltS, nq_b2S, b2_id, bi_id, iI_add, iI_sub, iI_mul, iI_neg, lI_neg, iI_64, iI_lt, iI_le, iI_eq, iI_ag, iI_as, iI_ar, iI_dv, iI_rem, isOut8, in9, bo_nz, bo_t, bo_f, wr_s, wr_n, wr_k, if_pos, if_neg, ↓reduceIte, Nat.reduceAdd, Nat.reduceMul, Nat.reduceSub, Nat.reduceEqDiff, Int.reduceToNat, Int.toNat_natCast, Int.reduceNeg, Int.reduceAdd, Int.reduceSub, Int.reduceMul, h]
theorem goE0 {B : Nat → Int} {n : Nat} {o : Bool} {base op : Nat} {gE : Mem → Option (Int32 × Mem)} (x : Int32) (M : Mem) (a : Nat) (v : Int32) (M' : Mem) (hS : ES B n o base M a op) (ha : a < n) (hs : sgn 0 (hB B n a) = true) (hg : gE (nq_wr M 0 10 (iI ((a + 1 : Nat) : Int))) = some (v, M')) : fX9_either_B5 gE x M = some (.inl (jn (hB B n a) x v, M')) := by
  have hh := here9 hS (by omega)
  rw [sgn_t0 hs] at hh ⊢
  unfold fX9_either_B5
  rw [il_124, takes9 hh.1 hS.2.1 (by omega) (by omega) rfl, nq_b2S, if_neg (by decide), hg, nq_b2S]
  show _ = some (Sum.inl ((if x = 0 then (if v = 0 then 0 else 1) else 1), M'))
  split
  · split <;> rfl
  · rfl
theorem goE1 {B : Nat → Int} {n : Nat} {o : Bool} {base op : Nat} {gE : Mem → Option (Int32 × Mem)} (x : Int32) (M : Mem) (a : Nat) (v : Int32) (M' : Mem) (hS : ES B n o base M a op) (ha : a < n) (hs : sgn 1 (hB B n a) = true) (hg : gE (nq_wr M 0 10 (iI ((a + 1 : Nat) : Int))) = some (v, M')) : fX9_both_B5 gE x M = some (.inl (jn (hB B n a) x v, M')) := by
  have hh := here9 hS (by omega)
  rw [sgn_t1 hs] at hh ⊢
  unfold fX9_both_B5
  rw [il_38, takes9 hh.1 hS.2.1 (by omega) (by omega) rfl, nq_b2S, if_neg (by decide), hg, nq_b2S]
  show _ = some (Sum.inl ((if x = 0 then 0 else if v = 0 then 0 else 1), M'))
  split
  · rfl
  · split <;> rfl
theorem goE3 {B : Nat → Int} {n : Nat} {o : Bool} {base op : Nat} {gE : Mem → Option (Int32 × Mem)} (x : Int32) (M : Mem) (a : Nat) (v : Int32) (M' : Mem) (hS : ES B n o base M a op) (ha : a < n) (hs : sgn 3 (hB B n a) = true) (hg : gE (nq_wr M 0 10 (iI ((a + 1 : Nat) : Int))) = some (v, M')) : fX9_sum_B5 gE x M = some (.inl (jn (hB B n a) x v, M')) := by
  have hh := here9 hS (by omega)
  have e10 := hS.2.1
  have q1 : ((a : Int) + 1) = ((a + 1 : Nat) : Int) := by omega
  rcases sgn_t3 hs with e | e
  · rw [e] at hh ⊢
    unfold fX9_sum_B5 fX9_sum_L23_5
    simp (disch := omega) only [il_0, il_1, il_2, il_3, il_4, il_5, il_6, il_7, il_8, il_9, il_10, il_11, il_12, il_13, il_16, il_20, il_30, il_31, il_32, il_33, il_36, il_37, il_38, il_40, il_41, il_42, il_43, il_45, il_47, il_48, il_50, il_57, il_60, il_61, il_62, il_70, il_71, il_79, il_80, il_97, il_98, il_99, il_100, il_107, il_110, il_111, il_114, il_115, il_116, il_121, il_124, il_128, il_130, il_140, il_160, il_255, il_399, il_540, il_590, il_610, il_999, il_1000, il_1250, il_10000, il_12345, il_99999, il_1000000, il_1103515245, ll_0, ll_1, ll_2, ll_3, ll_4, ll_5, ll_6, ll_7, ll_8, ll_9, ll_30, ll_48, ll_50, ll_57, ll_99, ll_100, ll_255, ll_399, ll_999, ll_99999, nq_bs, nq_ltS, nq_b2S, b2_id, bi_id, iI_add, iI_sub, iI_mul, iI_neg, lI_neg, iI_64, iI_lt, iI_le, iI_eq, iI_ag, iI_as, iI_ar, iI_dv, iI_rem, isOut8, in9, bo_nz, bo_t, bo_f, wr_s, wr_n, wr_k, if_pos, if_neg, ↓reduceIte, Nat.reduceAdd, Nat.reduceMul, Nat.reduceSub, Nat.reduceEqDiff, Int.reduceToNat, Int.toNat_natCast, Int.reduceNeg, Int.reduceAdd, Int.reduceSub, Int.reduceMul, hh.1, e10, q1, hg]
    rfl
  · rw [e] at hh ⊢
    unfold fX9_sum_B5 fX9_sum_L23_5
    simp (disch := omega) only [il_0, il_1, il_2, il_3, il_4, il_5, il_6, il_7, il_8, il_9, il_10, il_11, il_12, il_13, il_16, il_20, il_30, il_31, il_32, il_33, il_36, il_37, il_38, il_40, il_41, il_42, il_43, il_45, il_47, il_48, il_50, il_57, il_60, il_61, il_62, il_70, il_71, il_79, il_80, il_97, il_98, il_99, il_100, il_107, il_110, il_111, il_114, il_115, il_116, il_121, il_124, il_128, il_130, il_140, il_160, il_255, il_399, il_540, il_590, il_610, il_999, il_1000, il_1250, il_10000, il_12345, il_99999, il_1000000, il_1103515245, ll_0, ll_1, ll_2, ll_3, ll_4, ll_5, ll_6, ll_7, ll_8, ll_9, ll_30, ll_48, ll_50, ll_57, ll_99, ll_100, ll_255, ll_399, ll_999, ll_99999, nq_bs, nq_ltS, nq_b2S, b2_id, bi_id, iI_add, iI_sub, iI_mul, iI_neg, lI_neg, iI_64, iI_lt, iI_le, iI_eq, iI_ag, iI_as, iI_ar, iI_dv, iI_rem, isOut8, in9, bo_nz, bo_t, bo_f, wr_s, wr_n, wr_k, if_pos, if_neg, ↓reduceIte, Nat.reduceAdd, Nat.reduceMul, Nat.reduceSub, Nat.reduceEqDiff, Int.reduceToNat, Int.toNat_natCast, Int.reduceNeg, Int.reduceAdd, Int.reduceSub, Int.reduceMul, hh.1, e10, q1, hg]
    rfl
theorem goE4 {B : Nat → Int} {n : Nat} {o : Bool} {base op : Nat} {gE : Mem → Option (Int32 × Mem)} (x : Int32) (M : Mem) (a : Nat) (v : Int32) (M' : Mem) (hS : ES B n o base M a op) (ha : a < n) (hs : sgn 4 (hB B n a) = true) (hg : gE (nq_wr M 0 10 (iI ((a + 1 : Nat) : Int))) = some (v, M')) : fX9_product_B5 gE x M = some (.inl (jn (hB B n a) x v, M')) := by
  have hh := here9 hS (by omega)
  have e10 := hS.2.1
  have q1 : ((a : Int) + 1) = ((a + 1 : Nat) : Int) := by omega
  have dv : ∀ x y : Int32, ¬ y = iI 0 → nq_dv x y = some (x / y) := fun x y hy => by unfold nq_dv; rw [if_neg (show ¬ y = 0 from hy)]
  have rm : ∀ x y : Int32, ¬ y = iI 0 → nq_rem x y = some (x - x / y * y) := fun x y hy => by unfold nq_rem; rw [if_neg (show ¬ y = 0 from hy)]
  rcases sgn_t4 hs with e | e | e
  · rw [e] at hh ⊢
    unfold fX9_product_B5 fX9_product_L32_5
    simp (disch := omega) only [il_0, il_1, il_2, il_3, il_4, il_5, il_6, il_7, il_8, il_9, il_10, il_11, il_12, il_13, il_16, il_20, il_30, il_31, il_32, il_33, il_36, il_37, il_38, il_40, il_41, il_42, il_43, il_45, il_47, il_48, il_50, il_57, il_60, il_61, il_62, il_70, il_71, il_79, il_80, il_97, il_98, il_99, il_100, il_107, il_110, il_111, il_114, il_115, il_116, il_121, il_124, il_128, il_130, il_140, il_160, il_255, il_399, il_540, il_590, il_610, il_999, il_1000, il_1250, il_10000, il_12345, il_99999, il_1000000, il_1103515245, ll_0, ll_1, ll_2, ll_3, ll_4, ll_5, ll_6, ll_7, ll_8, ll_9, ll_30, ll_48, ll_50, ll_57, ll_99, ll_100, ll_255, ll_399, ll_999, ll_99999, nq_bs, nq_ltS, nq_b2S, b2_id, bi_id, iI_add, iI_sub, iI_mul, iI_neg, lI_neg, iI_64, iI_lt, iI_le, iI_eq, iI_ag, iI_as, iI_ar, iI_dv, iI_rem, isOut8, in9, bo_nz, bo_t, bo_f, wr_s, wr_n, wr_k, if_pos, if_neg, ↓reduceIte, Nat.reduceAdd, Nat.reduceMul, Nat.reduceSub, Nat.reduceEqDiff, Int.reduceToNat, Int.toNat_natCast, Int.reduceNeg, Int.reduceAdd, Int.reduceSub, Int.reduceMul, hh.1, e10, q1, hg]
    rfl
  · rw [e] at hh ⊢
    unfold fX9_product_B5 fX9_product_L32_5
    by_cases hy : v = iI 0
    · simp (disch := omega) only [il_0, il_1, il_2, il_3, il_4, il_5, il_6, il_7, il_8, il_9, il_10, il_11, il_12, il_13, il_16, il_20, il_30, il_31, il_32, il_33, il_36, il_37, il_38, il_40, il_41, il_42, il_43, il_45, il_47, il_48, il_50, il_57, il_60, il_61, il_62, il_70, il_71, il_79, il_80, il_97, il_98, il_99, il_100, il_107, il_110, il_111, il_114, il_115, il_116, il_121, il_124, il_128, il_130, il_140, il_160, il_255, il_399, il_540, il_590, il_610, il_999, il_1000, il_1250, il_10000, il_12345, il_99999, il_1000000, il_1103515245, ll_0, ll_1, ll_2, ll_3, ll_4, ll_5, ll_6, ll_7, ll_8, ll_9, ll_30, ll_48, ll_50, ll_57, ll_99, ll_100, ll_255, ll_399, ll_999, ll_99999, nq_bs, nq_ltS, nq_b2S, b2_id, bi_id, iI_add, iI_sub, iI_mul, iI_neg, lI_neg, iI_64, iI_lt, iI_le, iI_eq, iI_ag, iI_as, iI_ar, iI_dv, iI_rem, isOut8, in9, bo_nz, bo_t, bo_f, wr_s, wr_n, wr_k, if_pos, if_neg, ↓reduceIte, Nat.reduceAdd, Nat.reduceMul, Nat.reduceSub, Nat.reduceEqDiff, Int.reduceToNat, Int.toNat_natCast, Int.reduceNeg, Int.reduceAdd, Int.reduceSub, Int.reduceMul, hh.1, e10, q1, hg, hy]
      rfl
    · simp (disch := omega) only [il_0, il_1, il_2, il_3, il_4, il_5, il_6, il_7, il_8, il_9, il_10, il_11, il_12, il_13, il_16, il_20, il_30, il_31, il_32, il_33, il_36, il_37, il_38, il_40, il_41, il_42, il_43, il_45, il_47, il_48, il_50, il_57, il_60, il_61, il_62, il_70, il_71, il_79, il_80, il_97, il_98, il_99, il_100, il_107, il_110, il_111, il_114, il_115, il_116, il_121, il_124, il_128, il_130, il_140, il_160, il_255, il_399, il_540, il_590, il_610, il_999, il_1000, il_1250, il_10000, il_12345, il_99999, il_1000000, il_1103515245, ll_0, ll_1, ll_2, ll_3, ll_4, ll_5, ll_6, ll_7, ll_8, ll_9, ll_30, ll_48, ll_50, ll_57, ll_99, ll_100, ll_255, ll_399, ll_999, ll_99999, nq_bs, nq_ltS, nq_b2S, b2_id, bi_id, iI_add, iI_sub, iI_mul, iI_neg, lI_neg, iI_64, iI_lt, iI_le, iI_eq, iI_ag, iI_as, iI_ar, iI_dv, iI_rem, isOut8, in9, bo_nz, bo_t, bo_f, wr_s, wr_n, wr_k, if_pos, if_neg, ↓reduceIte, Nat.reduceAdd, Nat.reduceMul, Nat.reduceSub, Nat.reduceEqDiff, Int.reduceToNat, Int.toNat_natCast, Int.reduceNeg, Int.reduceAdd, Int.reduceSub, Int.reduceMul, hh.1, e10, q1, hg, hy, dv x v hy]
      show _ = some (Sum.inl ((if v = iI 0 then 0 else x / v), M'))
      rw [if_neg hy]
  · rw [e] at hh ⊢
    unfold fX9_product_B5 fX9_product_L32_5
    by_cases hy : v = iI 0
    · simp (disch := omega) only [il_0, il_1, il_2, il_3, il_4, il_5, il_6, il_7, il_8, il_9, il_10, il_11, il_12, il_13, il_16, il_20, il_30, il_31, il_32, il_33, il_36, il_37, il_38, il_40, il_41, il_42, il_43, il_45, il_47, il_48, il_50, il_57, il_60, il_61, il_62, il_70, il_71, il_79, il_80, il_97, il_98, il_99, il_100, il_107, il_110, il_111, il_114, il_115, il_116, il_121, il_124, il_128, il_130, il_140, il_160, il_255, il_399, il_540, il_590, il_610, il_999, il_1000, il_1250, il_10000, il_12345, il_99999, il_1000000, il_1103515245, ll_0, ll_1, ll_2, ll_3, ll_4, ll_5, ll_6, ll_7, ll_8, ll_9, ll_30, ll_48, ll_50, ll_57, ll_99, ll_100, ll_255, ll_399, ll_999, ll_99999, nq_bs, nq_ltS, nq_b2S, b2_id, bi_id, iI_add, iI_sub, iI_mul, iI_neg, lI_neg, iI_64, iI_lt, iI_le, iI_eq, iI_ag, iI_as, iI_ar, iI_dv, iI_rem, isOut8, in9, bo_nz, bo_t, bo_f, wr_s, wr_n, wr_k, if_pos, if_neg, ↓reduceIte, Nat.reduceAdd, Nat.reduceMul, Nat.reduceSub, Nat.reduceEqDiff, Int.reduceToNat, Int.toNat_natCast, Int.reduceNeg, Int.reduceAdd, Int.reduceSub, Int.reduceMul, hh.1, e10, q1, hg, hy]
      rfl
    · simp (disch := omega) only [il_0, il_1, il_2, il_3, il_4, il_5, il_6, il_7, il_8, il_9, il_10, il_11, il_12, il_13, il_16, il_20, il_30, il_31, il_32, il_33, il_36, il_37, il_38, il_40, il_41, il_42, il_43, il_45, il_47, il_48, il_50, il_57, il_60, il_61, il_62, il_70, il_71, il_79, il_80, il_97, il_98, il_99, il_100, il_107, il_110, il_111, il_114, il_115, il_116, il_121, il_124, il_128, il_130, il_140, il_160, il_255, il_399, il_540, il_590, il_610, il_999, il_1000, il_1250, il_10000, il_12345, il_99999, il_1000000, il_1103515245, ll_0, ll_1, ll_2, ll_3, ll_4, ll_5, ll_6, ll_7, ll_8, ll_9, ll_30, ll_48, ll_50, ll_57, ll_99, ll_100, ll_255, ll_399, ll_999, ll_99999, nq_bs, nq_ltS, nq_b2S, b2_id, bi_id, iI_add, iI_sub, iI_mul, iI_neg, lI_neg, iI_64, iI_lt, iI_le, iI_eq, iI_ag, iI_as, iI_ar, iI_dv, iI_rem, isOut8, in9, bo_nz, bo_t, bo_f, wr_s, wr_n, wr_k, if_pos, if_neg, ↓reduceIte, Nat.reduceAdd, Nat.reduceMul, Nat.reduceSub, Nat.reduceEqDiff, Int.reduceToNat, Int.toNat_natCast, Int.reduceNeg, Int.reduceAdd, Int.reduceSub, Int.reduceMul, hh.1, e10, q1, hg, hy, rm x v hy]
      show _ = some (Sum.inl ((if v = iI 0 then 0 else x - x / v * v), M'))
      rw [if_neg hy]
def gE (lv d : Nat) : Mem → Option (Int32 × Mem) := match lv with
  | 0 => (gEi_all d).1
  | 1 => (gEi_all d).2.1
  | 2 => (gEi_all d).2.2.1
  | 3 => (gEi_all d).2.2.2.1
  | 4 => (gEi_all d).2.2.2.2.1
  | _ => (gEi_all d).2.2.2.2.2
def SimEL (B : Nat → Int) (n : Nat) (o : Bool) (base f : Nat) : Prop := ∀ lv op d, lv ≤ 5 → op ≤ 5 → 7 * (5 - op) + (6 - lv) ≤ f → 6 * (5 - op) + (6 - lv) ≤ d → ∀ M a, ES B n o base M a op → a ≤ n → SimE B n o base op M (pr (hB B n) o f lv op a) (gE lv d M)
/-- a level with a loop -/
theorem simE_lv {B : Nat → Int} {n : Nat} {o : Bool} {base f lv op d : Nat} {b : Int32 → Mem → Option ((Int32 × Mem) ⊕ (Int32 × Mem))} {M : Mem} {a : Nat} {q : Option (Int32 × Mem)} (hlv : lv < 5) (h2 : lv ≠ 2)
    (hend : ∀ x M c, fX9_here M = some (iI c) → (c = -1 ∨ (0 ≤ c ∧ c ≤ 255)) → sgn lv c = false → b x M = some (.inr (x, M)))
    (hgo : ∀ x M a v M', ES B n o base M a op → a < n → sgn lv (hB B n a) = true → gE (lv + 1) d (nq_wr M 0 10 (iI ((a + 1 : Nat) : Int))) = some (v, M') → b x M = some (.inl (jn (hB B n a) x v, M')))
    (hg : ∀ M a, ES B n o base M a op → a ≤ n → SimE B n o base op M (pr (hB B n) o f (lv + 1) op a) (gE (lv + 1) d M))
    (hq : q = nq_b2 (gE (lv + 1) d M) fun v M => (nq_lp (fun s : Int32 × Mem => b s.1 s.2) nq_fuel (v, M)).bind fun e => some (e.1, e.2))
    (hS : ES B n o base M a op) (ha : a ≤ n) : SimE B n o base op M (pr (hB B n) o (f + 1) lv op a) q := by
  subst hq
  obtain ⟨v1, M1, e1, F1, o1, o2⟩ := hg M a hS ha
  have hok := fun a ha => pr_ok (h := hB B n) (o := o) hB_z f (lv + 1) op a ha
  have hn := hS.2.2.2.2.2.2.2.1
  rw [e1, nq_b2S]
  cases hr : (pr (hB B n) o f (lv + 1) op a).1 with
  | true =>
    have ep : pr (hB B n) o (f + 1) lv op a = pLoop (hB B n) lv (pr (hB B n) o f (lv + 1) op) 50 (pr (hB B n) o f (lv + 1) op a).2.1 (pr (hB B n) o f (lv + 1) op a).2.2.1 (pr (hB B n) o f (lv + 1) op a).2.2.2 := by
      conv => lhs; unfold pr
      rw [if_pos hlv, if_pos hr, if_neg h2]
    rw [ep]
    obtain ⟨y1, y2⟩ := o1 hr
    obtain ⟨b1, b2, b3⟩ := (hok a ha).1 hr
    obtain ⟨x', M', z1, z2⟩ := eloop (M0 := M) hend hgo hok hg 50 (pr (hB B n) o f (lv + 1) op a).2.1 (pr (hB B n) o f (lv + 1) op a).2.2.1 (pr (hB B n) o f (lv + 1) op a).2.2.2 v1 M1 nq_fuel y2 F1 b2 (by omega) (by unfold nq_fuel; omega) y1
    rw [z1]
    exact ⟨x', M', rfl, z2⟩
  | false =>
    have ep : pr (hB B n) o (f + 1) lv op a = pF (pr (hB B n) o f (lv + 1) op a).2.1 := by
      conv => lhs; unfold pr
      rw [if_pos hlv, hr, if_neg (by decide)]
    rw [ep]
    have b1 := (hok a ha).2 hr
    have q12 := o2 hr
    have he := hend v1 M1 (-1) (hereF q12 (by omega)) (Or.inl rfl) (by unfold sgn; split <;> rfl)
    have hl : nq_lp (fun s : Int32 × Mem => b s.1 s.2) nq_fuel (v1, M1) = some (v1, M1) := by
      show nq_lp (fun s : Int32 × Mem => b s.1 s.2) (999999 + 1) (v1, M1) = some (v1, M1)
      exact lp_r he
    rw [hl]
    exact ⟨v1, M1, rfl, F1, fun c => (by cases c), fun _ => q12⟩
