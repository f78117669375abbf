/-! 18.e: the reference's evaluator: compared, unit, all levels -/
theorem simE_2 {B : Nat → Int} {n : Nat} {o : Bool} {base f op d : Nat} {M : Mem} {a : Nat}
    (hg : ∀ M a, ES B n o base M a op → a ≤ n → SimE B n o base op M (pr (hB B n) o f 3 op a) (gE 3 d M))
    (hS : ES B n o base M a op) (ha : a ≤ n) : SimE B n o base op M (pr (hB B n) o (f + 1) 2 op a) (fX9_compared (gE 3 d) M) := by
  obtain ⟨v1, M1, e1, F1, o1, o2⟩ := hg M a hS ha
  have hok := fun a ha => pr_ok (h := hB B n) (o := o) hB_z f 3 op a ha
  have hn := hS.2.2.2.2.2.2.2.1
  unfold fX9_compared
  rw [e1, nq_b2S]
  cases hr : (pr (hB B n) o f 3 op a).1 with
  | true =>
    have ep : pr (hB B n) o (f + 1) 2 op a = pLoop (hB B n) 2 (pr (hB B n) o f 3 op) 1 (pr (hB B n) o f 3 op a).2.1 (pr (hB B n) o f 3 op a).2.2.1 (pr (hB B n) o f 3 op a).2.2.2 := by
      conv => lhs; unfold pr
      rw [if_pos (by omega), if_pos hr, if_pos rfl]
    rw [ep]
    obtain ⟨y1, y2⟩ := o1 hr
    obtain ⟨b1, b2, b3⟩ := (hok a ha).1 hr
    generalize hr' : pr (hB B n) o f 3 op a = r at *
    have hh := here9 y2 b2
    rw [hh.1, nq_bs]
    have h10 := y2.2.1
    cases cs1 : sgn 2 (hB B n r.2.1) with
    | false =>
      have ep2 : pLoop (hB B n) 2 (pr (hB B n) o f 3 op) 1 r.2.1 r.2.2.1 r.2.2.2 = (true, r.2.1, r.2.2.1, r.2.2.2) := by
        show (if sgn 2 (hB B n r.2.1) = true then _ else _) = _
        rw [cs1, if_neg (by decide)]
      rw [ep2]
      obtain ⟨t1, t2, t3⟩ := sgn_f2 cs1
      refine ⟨v1, M1, ?_, F1, fun _ => ⟨y1, y2⟩, fun c => (by cases c)⟩
      simp (disch := omega) only [il_0, il_1, il_2, il_3, il_4, il_5, il_6, il_7, il_8, il_9, il_10, il_11, il_12, il_13, il_16, il_20, il_30, il_31, il_32, il_33, il_36, il_37, il_38, il_40, il_41, il_42, il_43, il_45, il_47, il_48, il_50, il_57, il_60, il_61, il_62, il_70, il_71, il_79, il_80, il_97, il_98, il_99, il_100, il_107, il_110, il_111, il_114, il_115, il_116, il_121, il_124, il_128, il_130, il_140, il_160, il_255, il_399, il_540, il_590, il_610, il_999, il_1000, il_1250, il_10000, il_12345, il_99999, il_1000000, il_1103515245, ll_0, ll_1, ll_2, ll_3, ll_4, ll_5, ll_6, ll_7, ll_8, ll_9, ll_30, ll_48, ll_50, ll_57, ll_99, ll_100, ll_255, ll_399, ll_999, ll_99999, nq_bs, nq_ltS, nq_b2S, b2_id, bi_id, iI_add, iI_sub, iI_mul, iI_neg, lI_neg, iI_64, iI_lt, iI_le, iI_eq, iI_ag, iI_as, iI_ar, iI_dv, iI_rem, isOut8, in9, bo_nz, bo_t, bo_f, wr_s, wr_n, wr_k, if_pos, if_neg, ↓reduceIte, Nat.reduceAdd, Nat.reduceMul, Nat.reduceSub, Nat.reduceEqDiff, Int.reduceToNat, Int.toNat_natCast, Int.reduceNeg, Int.reduceAdd, Int.reduceSub, Int.reduceMul]
    | true =>
      have hlt : r.2.1 < n := Nat.lt_of_not_le (fun q => by have := hB_z (B := B) _ q; rcases sgn_t2 cs1 with e | e | e <;> omega)
      obtain ⟨v2, M2, e2, F2, p1, p2⟩ := hg (nq_wr M1 0 10 (iI ((r.2.1 + 1 : Nat) : Int))) (r.2.1 + 1) y2.at (by omega)
      have Fw : FE M (nq_wr M1 0 10 (iI ((r.2.1 + 1 : Nat) : Int))) := F1.wr (Or.inl rfl)
      have q1 : ((r.2.1 : Int) + 1) = ((r.2.1 + 1 : Nat) : Int) := by omega
      have hL : fX9_compared_L30 (gE 3 d) v1 (iI (hB B n r.2.1)) M1 = some (jn (hB B n r.2.1) v1 v2, M2) := by
        unfold fX9_compared_L30
        rcases sgn_t2 cs1 with e | e | e
        · rw [e]
          simp (disch := omega) only [il_0, il_1, il_2, il_3, il_4, il_5, il_6, il_7, il_8, il_9, il_10, il_11, il_12, il_13, il_16, il_20, il_30, il_31, il_32, il_33, il_36, il_37, il_38, il_40, il_41, il_42, il_43, il_45, il_47, il_48, il_50, il_57, il_60, il_61, il_62, il_70, il_71, il_79, il_80, il_97, il_98, il_99, il_100, il_107, il_110, il_111, il_114, il_115, il_116, il_121, il_124, il_128, il_130, il_140, il_160, il_255, il_399, il_540, il_590, il_610, il_999, il_1000, il_1250, il_10000, il_12345, il_99999, il_1000000, il_1103515245, ll_0, ll_1, ll_2, ll_3, ll_4, ll_5, ll_6, ll_7, ll_8, ll_9, ll_30, ll_48, ll_50, ll_57, ll_99, ll_100, ll_255, ll_399, ll_999, ll_99999, nq_bs, nq_ltS, nq_b2S, b2_id, bi_id, iI_add, iI_sub, iI_mul, iI_neg, lI_neg, iI_64, iI_lt, iI_le, iI_eq, iI_ag, iI_as, iI_ar, iI_dv, iI_rem, isOut8, in9, bo_nz, bo_t, bo_f, wr_s, wr_n, wr_k, if_pos, if_neg, ↓reduceIte, Nat.reduceAdd, Nat.reduceMul, Nat.reduceSub, Nat.reduceEqDiff, Int.reduceToNat, Int.toNat_natCast, Int.reduceNeg, Int.reduceAdd, Int.reduceSub, Int.reduceMul, h10, q1, e2]
          show _ = some ((if v2 ≤ v1 then (0 : Int32) else 1), M2)
          split <;> rfl
        · rw [e]
          simp (disch := omega) only [il_0, il_1, il_2, il_3, il_4, il_5, il_6, il_7, il_8, il_9, il_10, il_11, il_12, il_13, il_16, il_20, il_30, il_31, il_32, il_33, il_36, il_37, il_38, il_40, il_41, il_42, il_43, il_45, il_47, il_48, il_50, il_57, il_60, il_61, il_62, il_70, il_71, il_79, il_80, il_97, il_98, il_99, il_100, il_107, il_110, il_111, il_114, il_115, il_116, il_121, il_124, il_128, il_130, il_140, il_160, il_255, il_399, il_540, il_590, il_610, il_999, il_1000, il_1250, il_10000, il_12345, il_99999, il_1000000, il_1103515245, ll_0, ll_1, ll_2, ll_3, ll_4, ll_5, ll_6, ll_7, ll_8, ll_9, ll_30, ll_48, ll_50, ll_57, ll_99, ll_100, ll_255, ll_399, ll_999, ll_99999, nq_bs, nq_ltS, nq_b2S, b2_id, bi_id, iI_add, iI_sub, iI_mul, iI_neg, lI_neg, iI_64, iI_lt, iI_le, iI_eq, iI_ag, iI_as, iI_ar, iI_dv, iI_rem, isOut8, in9, bo_nz, bo_t, bo_f, wr_s, wr_n, wr_k, if_pos, if_neg, ↓reduceIte, Nat.reduceAdd, Nat.reduceMul, Nat.reduceSub, Nat.reduceEqDiff, Int.reduceToNat, Int.toNat_natCast, Int.reduceNeg, Int.reduceAdd, Int.reduceSub, Int.reduceMul, h10, q1, e2]
          show _ = some ((if v1 = v2 then (1 : Int32) else 0), M2)
          split <;> rfl
        · rw [e]
          simp (disch := omega) only [il_0, il_1, il_2, il_3, il_4, il_5, il_6, il_7, il_8, il_9, il_10, il_11, il_12, il_13, il_16, il_20, il_30, il_31, il_32, il_33, il_36, il_37, il_38, il_40, il_41, il_42, il_43, il_45, il_47, il_48, il_50, il_57, il_60, il_61, il_62, il_70, il_71, il_79, il_80, il_97, il_98, il_99, il_100, il_107, il_110, il_111, il_114, il_115, il_116, il_121, il_124, il_128, il_130, il_140, il_160, il_255, il_399, il_540, il_590, il_610, il_999, il_1000, il_1250, il_10000, il_12345, il_99999, il_1000000, il_1103515245, ll_0, ll_1, ll_2, ll_3, ll_4, ll_5, ll_6, ll_7, ll_8, ll_9, ll_30, ll_48, ll_50, ll_57, ll_99, ll_100, ll_255, ll_399, ll_999, ll_99999, nq_bs, nq_ltS, nq_b2S, b2_id, bi_id, iI_add, iI_sub, iI_mul, iI_neg, lI_neg, iI_64, iI_lt, iI_le, iI_eq, iI_ag, iI_as, iI_ar, iI_dv, iI_rem, isOut8, in9, bo_nz, bo_t, bo_f, wr_s, wr_n, wr_k, if_pos, if_neg, ↓reduceIte, Nat.reduceAdd, Nat.reduceMul, Nat.reduceSub, Nat.reduceEqDiff, Int.reduceToNat, Int.toNat_natCast, Int.reduceNeg, Int.reduceAdd, Int.reduceSub, Int.reduceMul, h10, q1, e2]
          show _ = some ((if v1 ≤ v2 then (0 : Int32) else 1), M2)
          split <;> rfl
      have hC : (if iI (hB B n r.2.1) = (60 : Int32) then fX9_compared_L30 (gE 3 d) v1 (iI (hB B n r.2.1)) M1 else if iI (hB B n r.2.1) = (61 : Int32) then fX9_compared_L30 (gE 3 d) v1 (iI (hB B n r.2.1)) M1 else if iI (hB B n r.2.1) = (62 : Int32) then fX9_compared_L30 (gE 3 d) v1 (iI (hB B n r.2.1)) M1 else some (v1, M1)) = some (jn (hB B n r.2.1) v1 v2, M2) := by
        rw [hL]
        rcases sgn_t2 cs1 with e | e | e <;> rw [e] <;> rfl
      rw [hC]
      have hk := hok (r.2.1 + 1) (by omega)
      cases hr2 : (pr (hB B n) o f 3 op (r.2.1 + 1)).1 with
      | true =>
        have ep2 : pLoop (hB B n) 2 (pr (hB B n) o f 3 op) 1 r.2.1 r.2.2.1 r.2.2.2 = (true, (pr (hB B n) o f 3 op (r.2.1 + 1)).2.1, r.2.2.1 ++ (pr (hB B n) o f 3 op (r.2.1 + 1)).2.2.1 ++ [iI (-(hB B n r.2.1))], fun nm => jn (hB B n r.2.1) (r.2.2.2 nm) ((pr (hB B n) o f 3 op (r.2.1 + 1)).2.2.2 nm)) := by
          show (if sgn 2 (hB B n r.2.1) = true then (if (pr (hB B n) o f 3 op (r.2.1 + 1)).1 = true then _ else _) else _) = _
          rw [if_pos cs1, if_pos hr2]
          rfl
        rw [ep2]
        obtain ⟨z1, z2⟩ := p1 hr2
        refine ⟨_, M2, rfl, Fw.trans F2, fun _ => ⟨?_, z2⟩, fun c => (by cases c)⟩
        rw [z1, y1, Fw.1 9 (by omega)]
      | false =>
        have ep2 : pLoop (hB B n) 2 (pr (hB B n) o f 3 op) 1 r.2.1 r.2.2.1 r.2.2.2 = pF (pr (hB B n) o f 3 op (r.2.1 + 1)).2.1 := by
          show (if sgn 2 (hB B n r.2.1) = true then (if (pr (hB B n) o f 3 op (r.2.1 + 1)).1 = true then _ else _) else _) = _
          rw [if_pos cs1, hr2, if_neg (by decide)]
        rw [ep2]
        exact ⟨_, M2, rfl, Fw.trans F2, fun c => (by cases c), fun _ => p2 hr2⟩
  | false =>
    have ep : pr (hB B n) o (f + 1) 2 op a = pF (pr (hB B n) o f 3 op a).2.1 := by
      conv => lhs; unfold pr
      rw [if_pos (by omega), hr, if_neg (by decide)]
    rw [ep]
    have b1 := (hok a ha).2 hr
    have q12 := o2 hr
    rw [hereF q12 (by omega), nq_bs]
    exact ⟨v1, M1, rfl, F1, fun c => (by cases c), fun _ => q12⟩
theorem enum9 {B : Nat → Int} {n : Nat} {o : Bool} {base op : Nat} {M0 : Mem} {g1 g2 : Mem → Option (Int32 × Mem)} : ∀ (k a : Nat) (v : Int) (M : Mem) (fuel : Nat), k ≤ 4 → k < fuel → FE M0 M → ES B n o base M a op → a ≤ n → ∃ (j : Nat) (M' : Mem), nq_lp (fun s : Int32 × Int32 × Mem => fX9_unit_B150 g1 g2 s.1 s.2.1 s.2.2) fuel (iI v, iI ((4 - k : Nat) : Int), M) = some (iI (pN (hB B n) k a v).2, iI j, M') ∧ FE M0 M' ∧ ES B n o base M' (pN (hB B n) k a v).1 op ∧ 4 - k ≤ j ∧ j ≤ 4 ∧ (48 ≤ hB B n a ∧ hB B n a ≤ 57 → 4 - k < j ∨ k = 0) := by
  intro k
  induction k with
  | zero =>
    intro a v M fuel hk hf hF hS ha
    obtain ⟨f, rfl⟩ : ∃ f, fuel = f + 1 := ⟨fuel - 1, by omega⟩
    refine ⟨4, M, lp_r ?_, hF, hS, by omega, by omega, fun _ => Or.inr rfl⟩
    show fX9_unit_B150 g1 g2 (iI v) (iI ((4 - 0 : Nat) : Int)) M = _
    unfold fX9_unit_B150
    rw [if_pos (by decide)]; rfl
  | succ k ih =>
    intro a v M fuel hk hf hF hS ha
    obtain ⟨f, rfl⟩ : ∃ f, fuel = f + 1 := ⟨fuel - 1, by omega⟩
    have hh := here9 hS ha
    have h10 := hS.2.1
    by_cases c : 48 ≤ hB B n a ∧ hB B n a ≤ 57
    · have hlt : a < n := Nat.lt_of_not_le (fun q => by have := hB_z (B := B) a q; omega)
      have hn := hS.2.2.2.2.2.2.2.1
      obtain ⟨j, M', x1, x2, x3, x4, x5, x6⟩ := ih (a + 1) (10 * v + hB B n a - 48) (nq_wr M 0 10 (iI ((a + 1 : Nat) : Int))) f (by omega) (by omega) (hF.wr (Or.inl rfl)) hS.at (by omega)
      have ep : pN (hB B n) (k + 1) a v = pN (hB B n) k (a + 1) (10 * v + hB B n a - 48) := by
        show (if 48 ≤ hB B n a ∧ hB B n a ≤ 57 then _ else _) = _
        rw [if_pos c]
      rw [ep]
      refine ⟨j, M', (lp_i ?_).trans x1, x2, x3, by omega, x5, fun _ => by omega⟩
      show fX9_unit_B150 g1 g2 (iI v) (iI ((4 - (k + 1) : Nat) : Int)) M = _
      unfold fX9_unit_B150
      have q1 : ((4 - (k + 1) : Nat) : Int) + 1 = ((4 - k : Nat) : Int) := by omega
      simp (disch := omega) only [il_0, il_1, il_2, il_3, il_4, il_5, il_6, il_7, il_8, il_9, il_10, il_11, il_12, il_13, il_16, il_20, il_30, il_31, il_32, il_33, il_36, il_37, il_38, il_40, il_41, il_42, il_43, il_45, il_47, il_48, il_50, il_57, il_60, il_61, il_62, il_70, il_71, il_79, il_80, il_97, il_98, il_99, il_100, il_107, il_110, il_111, il_114, il_115, il_116, il_121, il_124, il_128, il_130, il_140, il_160, il_255, il_399, il_540, il_590, il_610, il_999, il_1000, il_1250, il_10000, il_12345, il_99999, il_1000000, il_1103515245, ll_0, ll_1, ll_2, ll_3, ll_4, ll_5, ll_6, ll_7, ll_8, ll_9, ll_30, ll_48, ll_50, ll_57, ll_99, ll_100, ll_255, ll_399, ll_999, ll_99999, nq_bs, nq_ltS, nq_b2S, b2_id, bi_id, iI_add, iI_sub, iI_mul, iI_neg, lI_neg, iI_64, iI_lt, iI_le, iI_eq, iI_ag, iI_as, iI_ar, iI_dv, iI_rem, isOut8, in9, bo_nz, bo_t, bo_f, wr_s, wr_n, wr_k, if_pos, if_neg, ↓reduceIte, Nat.reduceAdd, Nat.reduceMul, Nat.reduceSub, Nat.reduceEqDiff, Int.reduceToNat, Int.toNat_natCast, Int.reduceNeg, Int.reduceAdd, Int.reduceSub, Int.reduceMul, hh.1, h10, q1]
      rfl
    · have ep : pN (hB B n) (k + 1) a v = (a, v) := by
        show (if 48 ≤ hB B n a ∧ hB B n a ≤ 57 then _ else _) = _
        rw [if_neg c]
      rw [ep]
      refine ⟨4 - (k + 1), M, lp_r ?_, hF, hS, by omega, by omega, fun c' => absurd c' c⟩
      show fX9_unit_B150 g1 g2 (iI v) (iI ((4 - (k + 1) : Nat) : Int)) M = _
      unfold fX9_unit_B150
      simp (disch := omega) only [il_0, il_1, il_2, il_3, il_4, il_5, il_6, il_7, il_8, il_9, il_10, il_11, il_12, il_13, il_16, il_20, il_30, il_31, il_32, il_33, il_36, il_37, il_38, il_40, il_41, il_42, il_43, il_45, il_47, il_48, il_50, il_57, il_60, il_61, il_62, il_70, il_71, il_79, il_80, il_97, il_98, il_99, il_100, il_107, il_110, il_111, il_114, il_115, il_116, il_121, il_124, il_128, il_130, il_140, il_160, il_255, il_399, il_540, il_590, il_610, il_999, il_1000, il_1250, il_10000, il_12345, il_99999, il_1000000, il_1103515245, ll_0, ll_1, ll_2, ll_3, ll_4, ll_5, ll_6, ll_7, ll_8, ll_9, ll_30, ll_48, ll_50, ll_57, ll_99, ll_100, ll_255, ll_399, ll_999, ll_99999, nq_bs, nq_ltS, nq_b2S, b2_id, bi_id, iI_add, iI_sub, iI_mul, iI_neg, lI_neg, iI_64, iI_lt, iI_le, iI_eq, iI_ag, iI_as, iI_ar, iI_dv, iI_rem, isOut8, in9, bo_nz, bo_t, bo_f, wr_s, wr_n, wr_k, if_pos, if_neg, ↓reduceIte, Nat.reduceAdd, Nat.reduceMul, Nat.reduceSub, Nat.reduceEqDiff, Int.reduceToNat, Int.toNat_natCast, Int.reduceNeg, Int.reduceAdd, Int.reduceSub, Int.reduceMul, hh.1]
theorem nameOf9 {o : Bool} {c : Int} {M : Mem} (h14 : M 0 14 = iI (if o = true then 1 else 0)) (hc : inR c) : fX9_nameOf (iI c) M = some (iI (nmI o c)) := by
  unfold fX9_nameOf nmI
  cases o with
  | true =>
    rw [if_pos rfl] at h14
    simp (disch := omega) only [il_0, il_1, il_2, il_3, il_4, il_5, il_6, il_7, il_8, il_9, il_10, il_11, il_12, il_13, il_16, il_20, il_30, il_31, il_32, il_33, il_36, il_37, il_38, il_40, il_41, il_42, il_43, il_45, il_47, il_48, il_50, il_57, il_60, il_61, il_62, il_70, il_71, il_79, il_80, il_97, il_98, il_99, il_100, il_107, il_110, il_111, il_114, il_115, il_116, il_121, il_124, il_128, il_130, il_140, il_160, il_255, il_399, il_540, il_590, il_610, il_999, il_1000, il_1250, il_10000, il_12345, il_99999, il_1000000, il_1103515245, ll_0, ll_1, ll_2, ll_3, ll_4, ll_5, ll_6, ll_7, ll_8, ll_9, ll_30, ll_48, ll_50, ll_57, ll_99, ll_100, ll_255, ll_399, ll_999, ll_99999, nq_bs, nq_ltS, nq_b2S, b2_id, bi_id, iI_add, iI_sub, iI_mul, iI_neg, lI_neg, iI_64, iI_lt, iI_le, iI_eq, iI_ag, iI_as, iI_ar, iI_dv, iI_rem, isOut8, in9, bo_nz, bo_t, bo_f, wr_s, wr_n, wr_k, if_pos, if_neg, ↓reduceIte, Nat.reduceAdd, Nat.reduceMul, Nat.reduceSub, Nat.reduceEqDiff, Int.reduceToNat, Int.toNat_natCast, Int.reduceNeg, Int.reduceAdd, Int.reduceSub, Int.reduceMul, h14]
    repeat' split
    all_goals first | rfl | omega
  | false =>
    rw [if_neg (by decide)] at h14
    have ft : ¬ (false = true) := by decide
    simp (disch := omega) only [il_0, il_1, il_2, il_3, il_4, il_5, il_6, il_7, il_8, il_9, il_10, il_11, il_12, il_13, il_16, il_20, il_30, il_31, il_32, il_33, il_36, il_37, il_38, il_40, il_41, il_42, il_43, il_45, il_47, il_48, il_50, il_57, il_60, il_61, il_62, il_70, il_71, il_79, il_80, il_97, il_98, il_99, il_100, il_107, il_110, il_111, il_114, il_115, il_116, il_121, il_124, il_128, il_130, il_140, il_160, il_255, il_399, il_540, il_590, il_610, il_999, il_1000, il_1250, il_10000, il_12345, il_99999, il_1000000, il_1103515245, ll_0, ll_1, ll_2, ll_3, ll_4, ll_5, ll_6, ll_7, ll_8, ll_9, ll_30, ll_48, ll_50, ll_57, ll_99, ll_100, ll_255, ll_399, ll_999, ll_99999, nq_bs, nq_ltS, nq_b2S, b2_id, bi_id, iI_add, iI_sub, iI_mul, iI_neg, lI_neg, iI_64, iI_lt, iI_le, iI_eq, iI_ag, iI_as, iI_ar, iI_dv, iI_rem, isOut8, in9, bo_nz, bo_t, bo_f, wr_s, wr_n, wr_k, if_pos, if_neg, ↓reduceIte, Nat.reduceAdd, Nat.reduceMul, Nat.reduceSub, Nat.reduceEqDiff, Int.reduceToNat, Int.toNat_natCast, Int.reduceNeg, Int.reduceAdd, Int.reduceSub, Int.reduceMul, h14, if_neg ft]
    repeat' split
    all_goals first | rfl | omega
theorem simE_5 {B : Nat → Int} {n : Nat} {o : Bool} {base f op d : Nat} {M : Mem} {a : Nat} (hf : SimEL B n o base f) (hop : op ≤ 5) (h1 : 7 * (5 - op) ≤ f) (h2 : 6 * (5 - op) ≤ d)
    (hS : ES B n o base M a op) (ha : a ≤ n) : SimE B n o base op M (pr (hB B n) o (f + 1) 5 op a) (fX9_unit (gE 0 d) (gE 5 d) M) := by
  have hn := hS.2.2.2.2.2.2.2.1
  have hh := here9 hS ha
  have h10 := hS.2.1
  have h13 := hS.2.2.2.2.1
  have h14 := hS.2.2.2.2.2.1
  have hnm := nameOf9 (c := hB B n a) h14 (by omega)
  have nmb : -1 ≤ nmI o (hB B n a) ∧ nmI o (hB B n a) < 5 := by
    unfold nmI
    split <;> (repeat' split) <;> omega
  have q1 : ((a : Int) + 1) = ((a + 1 : Nat) : Int) := by omega
  have q2 : ((op : Int) + 1) = ((op + 1 : Nat) : Int) := by omega
  have q3 : ((op + 1 : Nat) : Int) - 1 = (op : Int) := by omega
  by_cases c1 : 48 ≤ hB B n a ∧ hB B n a ≤ 57
  · have ep : pr (hB B n) o (f + 1) 5 op a = (true, (pN (hB B n) 4 a 0).1, [iI (pN (hB B n) 4 a 0).2], fun _ => iI (pN (hB B n) 4 a 0).2) := by
      simp only [pr]
      rw [if_neg (by omega), if_pos c1]
    rw [ep]
    obtain ⟨j, M', x1, x2, x3, x4, x5, x6⟩ := enum9 (g1 := gE 0 d) (g2 := gE 5 d) (M0 := M) 4 a 0 M nq_fuel (by omega) (by unfold nq_fuel; omega) (FE.refl M) hS ha
    have hj : ¬ (j : Int) = 0 := by have := x6 c1; omega
    have nm0 : nmI o (hB B n a) < 0 := by
      unfold nmI
      split <;> (repeat' split) <;> omega
    have x1' : nq_lp (fun s : Int32 × Int32 × Mem => fX9_unit_B150 (gE 0 d) (gE 5 d) s.1 s.2.1 s.2.2) nq_fuel (iI 0, iI 0, M) = some (iI (pN (hB B n) 4 a 0).2, iI j, M') := x1
    refine ⟨iI (pN (hB B n) 4 a 0).2, M', ?_, x2, fun _ => ⟨rfl, x3⟩, fun c => (by cases c)⟩
    unfold fX9_unit fX9_unit_L150 fX9_unit_L202
    simp (disch := omega) only [il_0, il_1, il_2, il_3, il_4, il_5, il_6, il_7, il_8, il_9, il_10, il_11, il_12, il_13, il_16, il_20, il_30, il_31, il_32, il_33, il_36, il_37, il_38, il_40, il_41, il_42, il_43, il_45, il_47, il_48, il_50, il_57, il_60, il_61, il_62, il_70, il_71, il_79, il_80, il_97, il_98, il_99, il_100, il_107, il_110, il_111, il_114, il_115, il_116, il_121, il_124, il_128, il_130, il_140, il_160, il_255, il_399, il_540, il_590, il_610, il_999, il_1000, il_1250, il_10000, il_12345, il_99999, il_1000000, il_1103515245, ll_0, ll_1, ll_2, ll_3, ll_4, ll_5, ll_6, ll_7, ll_8, ll_9, ll_30, ll_48, ll_50, ll_57, ll_99, ll_100, ll_255, ll_399, ll_999, ll_99999, nq_bs, nq_ltS, nq_b2S, b2_id, bi_id, iI_add, iI_sub, iI_mul, iI_neg, lI_neg, iI_64, iI_lt, iI_le, iI_eq, iI_ag, iI_as, iI_ar, iI_dv, iI_rem, isOut8, in9, bo_nz, bo_t, bo_f, wr_s, wr_n, wr_k, if_pos, if_neg, ↓reduceIte, Nat.reduceAdd, Nat.reduceMul, Nat.reduceSub, Nat.reduceEqDiff, Int.reduceToNat, Int.toNat_natCast, Int.reduceNeg, Int.reduceAdd, Int.reduceSub, Int.reduceMul, hh.1, hnm, x1']
  by_cases c2 : 0 ≤ nmI o (hB B n a)
  · have hlt : a < n := Nat.lt_of_not_le (fun q => (nm_in c2).1 (hB_z (B := B) a q))
    have ep : pr (hB B n) o (f + 1) 5 op a = (true, a + 1, [iI (10000 + nmI o (hB B n a))], fun nm => nm (nmI o (hB B n a)).toNat) := by
      simp only [pr]
      rw [if_neg (by omega), if_neg c1, if_pos c2]
    rw [ep]
    have n33 : hB B n a ≠ 33 ∧ hB B n a ≠ 40 := by
      constructor
      · intro q; rw [q] at c2; cases o <;> exact absurd c2 (by decide)
      · intro q; rw [q] at c2; cases o <;> exact absurd c2 (by decide)
    obtain ⟨n33, n40⟩ := n33
    refine ⟨M 9 (nmI o (hB B n a)).toNat, nq_wr M 0 10 (iI ((a + 1 : Nat) : Int)), ?_, (FE.refl M).wr (Or.inl rfl), fun _ => ⟨rfl, hS.at⟩, fun c => (by cases c)⟩
    unfold fX9_unit
    simp (disch := omega) only [il_0, il_1, il_2, il_3, il_4, il_5, il_6, il_7, il_8, il_9, il_10, il_11, il_12, il_13, il_16, il_20, il_30, il_31, il_32, il_33, il_36, il_37, il_38, il_40, il_41, il_42, il_43, il_45, il_47, il_48, il_50, il_57, il_60, il_61, il_62, il_70, il_71, il_79, il_80, il_97, il_98, il_99, il_100, il_107, il_110, il_111, il_114, il_115, il_116, il_121, il_124, il_128, il_130, il_140, il_160, il_255, il_399, il_540, il_590, il_610, il_999, il_1000, il_1250, il_10000, il_12345, il_99999, il_1000000, il_1103515245, ll_0, ll_1, ll_2, ll_3, ll_4, ll_5, ll_6, ll_7, ll_8, ll_9, ll_30, ll_48, ll_50, ll_57, ll_99, ll_100, ll_255, ll_399, ll_999, ll_99999, nq_bs, nq_ltS, nq_b2S, b2_id, bi_id, iI_add, iI_sub, iI_mul, iI_neg, lI_neg, iI_64, iI_lt, iI_le, iI_eq, iI_ag, iI_as, iI_ar, iI_dv, iI_rem, isOut8, in9, bo_nz, bo_t, bo_f, wr_s, wr_n, wr_k, if_pos, if_neg, ↓reduceIte, Nat.reduceAdd, Nat.reduceMul, Nat.reduceSub, Nat.reduceEqDiff, Int.reduceToNat, Int.toNat_natCast, Int.reduceNeg, Int.reduceAdd, Int.reduceSub, Int.reduceMul, hh.1, hnm, h10, q1]
  by_cases c3 : (hB B n a = 33 ∨ hB B n a = 40) ∧ op < 5
  · obtain ⟨c3, c4⟩ := c3
    have hlt : a < n := Nat.lt_of_not_le (fun q => by have := hB_z (B := B) a q; omega)
    have Fw : FE M (nq_wr (nq_wr M 0 13 (iI ((op + 1 : Nat) : Int))) 0 10 (iI ((a + 1 : Nat) : Int))) := ((FE.refl M).wr (Or.inr (Or.inr rfl))).wr (Or.inl rfl)
    have Sw : ES B n o base (nq_wr (nq_wr M 0 13 (iI ((op + 1 : Nat) : Int))) 0 10 (iI ((a + 1 : Nat) : Int))) (a + 1) (op + 1) := by
      refine hS.to Fw (wr_s ⟨rfl, rfl⟩) ?_ ?_
      · simp (disch := omega) only [wr_n]; exact hS.2.2.2.1
      · rw [wr_n (by omega), wr_s ⟨rfl, rfl⟩]
    by_cases c5 : hB B n a = 33
    · obtain ⟨v1, M1, e1, F1, o1, o2⟩ := hf 5 (op + 1) d (by omega) (by omega) (by omega) (by omega) _ (a + 1) Sw (by omega)
      have hok := pr_ok (h := hB B n) (o := o) hB_z f 5 (op + 1) (a + 1) (by omega)
      have e0 : fX9_unit (gE 0 d) (gE 5 d) M = fX9_unit_L88 (gE 0 d) (gE 5 d) (iI 33) v1 M1 := by
        rw [c5] at hh
        unfold fX9_unit fX9_unit_L17 fX9_unit_L67
        simp (disch := omega) only [il_0, il_1, il_2, il_3, il_4, il_5, il_6, il_7, il_8, il_9, il_10, il_11, il_12, il_13, il_16, il_20, il_30, il_31, il_32, il_33, il_36, il_37, il_38, il_40, il_41, il_42, il_43, il_45, il_47, il_48, il_50, il_57, il_60, il_61, il_62, il_70, il_71, il_79, il_80, il_97, il_98, il_99, il_100, il_107, il_110, il_111, il_114, il_115, il_116, il_121, il_124, il_128, il_130, il_140, il_160, il_255, il_399, il_540, il_590, il_610, il_999, il_1000, il_1250, il_10000, il_12345, il_99999, il_1000000, il_1103515245, ll_0, ll_1, ll_2, ll_3, ll_4, ll_5, ll_6, ll_7, ll_8, ll_9, ll_30, ll_48, ll_50, ll_57, ll_99, ll_100, ll_255, ll_399, ll_999, ll_99999, nq_bs, nq_ltS, nq_b2S, b2_id, bi_id, iI_add, iI_sub, iI_mul, iI_neg, lI_neg, iI_64, iI_lt, iI_le, iI_eq, iI_ag, iI_as, iI_ar, iI_dv, iI_rem, isOut8, in9, bo_nz, bo_t, bo_f, wr_s, wr_n, wr_k, if_pos, if_neg, ↓reduceIte, Nat.reduceAdd, Nat.reduceMul, Nat.reduceSub, Nat.reduceEqDiff, Int.reduceToNat, Int.toNat_natCast, Int.reduceNeg, Int.reduceAdd, Int.reduceSub, Int.reduceMul, hh.1, h10, h13, q1, q2, e1]
      rw [e0]
      cases hr : (pr (hB B n) o f 5 (op + 1) (a + 1)).1 with
      | true =>
        have ep : pr (hB B n) o (f + 1) 5 op a = (true, (pr (hB B n) o f 5 (op + 1) (a + 1)).2.1, (pr (hB B n) o f 5 (op + 1) (a + 1)).2.2.1 ++ [iI (-33)], fun nm => if (pr (hB B n) o f 5 (op + 1) (a + 1)).2.2.2 nm = 0 then 1 else 0) := by
          conv => lhs; unfold pr
          rw [if_neg (by omega), if_neg c1, if_neg c2, if_pos ⟨c5, c4⟩, if_pos hr]
        rw [ep]
        obtain ⟨y1, y2⟩ := o1 hr
        have k13 := y2.2.2.2.2.1
        refine ⟨if v1 = 0 then 1 else 0, nq_wr M1 0 13 (iI op), ?_, (Fw.trans F1).wr (Or.inr (Or.inr rfl)), fun _ => ⟨?_, ?_⟩, fun c => (by cases c)⟩
        · unfold fX9_unit_L88
          simp (disch := omega) only [nq_ltS, il_0, il_1, il_2, il_3, il_4, il_5, il_6, il_7, il_8, il_9, il_10, il_11, il_12, il_13, il_16, il_20, il_30, il_31, il_32, il_33, il_36, il_37, il_38, il_40, il_41, il_42, il_43, il_45, il_47, il_48, il_50, il_57, il_60, il_61, il_62, il_70, il_71, il_79, il_80, il_97, il_98, il_99, il_100, il_107, il_110, il_111, il_114, il_115, il_116, il_121, il_124, il_128, il_130, il_140, il_160, il_255, il_399, il_540, il_590, il_610, il_999, il_1000, il_1250, il_10000, il_12345, il_99999, il_1000000, il_1103515245, ll_0, ll_1, ll_2, ll_3, ll_4, ll_5, ll_6, ll_7, ll_8, ll_9, ll_30, ll_48, ll_50, ll_57, ll_99, ll_100, ll_255, ll_399, ll_999, ll_99999, k13, iI_sub, q3, iI_eq, if_neg]
          split <;> rfl
        · rw [y1, Fw.1 9 (by omega)]
        · refine y2.to ((FE.refl M1).wr (Or.inr (Or.inr rfl))) ?_ ?_ (wr_s ⟨rfl, rfl⟩)
          · rw [wr_n (by omega)]; exact y2.2.1
          · rw [wr_n (by omega)]; exact y2.2.2.2.1
      | false =>
        have ep : pr (hB B n) o (f + 1) 5 op a = pF (pr (hB B n) o f 5 (op + 1) (a + 1)).2.1 := by
          conv => lhs; unfold pr
          rw [if_neg (by omega), if_neg c1, if_neg c2, if_pos ⟨c5, c4⟩, hr, if_neg (by decide)]
        rw [ep]
        refine ⟨if v1 = 0 then 1 else 0, nq_wr M1 0 13 (M1 0 13 - 1), ?_, (Fw.trans F1).wr (Or.inr (Or.inr rfl)), fun c => (by cases c), fun _ => ?_⟩
        · unfold fX9_unit_L88
          rw [nq_ltS, nq_ltS, if_neg (by decide)]
          split <;> rfl
        · rw [wr_n (by omega)]; exact o2 hr
    · have c6 : hB B n a = 40 := by omega
      obtain ⟨v1, M1, e1, F1, o1, o2⟩ := hf 0 (op + 1) d (by omega) (by omega) (by omega) (by omega) _ (a + 1) Sw (by omega)
      have hok := pr_ok (h := hB B n) (o := o) hB_z f 0 (op + 1) (a + 1) (by omega)
      have e0 : fX9_unit (gE 0 d) (gE 5 d) M = fX9_unit_L67 (gE 0 d) (gE 5 d) (iI 40) v1 M1 := by
        rw [c6] at hh
        unfold fX9_unit fX9_unit_L17
        simp (disch := omega) only [il_0, il_1, il_2, il_3, il_4, il_5, il_6, il_7, il_8, il_9, il_10, il_11, il_12, il_13, il_16, il_20, il_30, il_31, il_32, il_33, il_36, il_37, il_38, il_40, il_41, il_42, il_43, il_45, il_47, il_48, il_50, il_57, il_60, il_61, il_62, il_70, il_71, il_79, il_80, il_97, il_98, il_99, il_100, il_107, il_110, il_111, il_114, il_115, il_116, il_121, il_124, il_128, il_130, il_140, il_160, il_255, il_399, il_540, il_590, il_610, il_999, il_1000, il_1250, il_10000, il_12345, il_99999, il_1000000, il_1103515245, ll_0, ll_1, ll_2, ll_3, ll_4, ll_5, ll_6, ll_7, ll_8, ll_9, ll_30, ll_48, ll_50, ll_57, ll_99, ll_100, ll_255, ll_399, ll_999, ll_99999, nq_bs, nq_ltS, nq_b2S, b2_id, bi_id, iI_add, iI_sub, iI_mul, iI_neg, lI_neg, iI_64, iI_lt, iI_le, iI_eq, iI_ag, iI_as, iI_ar, iI_dv, iI_rem, isOut8, in9, bo_nz, bo_t, bo_f, wr_s, wr_n, wr_k, if_pos, if_neg, ↓reduceIte, Nat.reduceAdd, Nat.reduceMul, Nat.reduceSub, Nat.reduceEqDiff, Int.reduceToNat, Int.toNat_natCast, Int.reduceNeg, Int.reduceAdd, Int.reduceSub, Int.reduceMul, hh.1, h10, h13, q1, q2, e1]
      rw [e0]
      unfold fX9_unit_L67
      rw [if_pos (show iI 40 = 40 from rfl), il_41]
      cases hr : (pr (hB B n) o f 0 (op + 1) (a + 1)).1 with
      | true =>
        obtain ⟨y1, y2⟩ := o1 hr
        obtain ⟨b1, b2, b3⟩ := hok.1 hr
        have hh2 := here9 y2 b2
        by_cases c7 : hB B n (pr (hB B n) o f 0 (op + 1) (a + 1)).2.1 = 41
        · have ep : pr (hB B n) o (f + 1) 5 op a = (true, (pr (hB B n) o f 0 (op + 1) (a + 1)).2.1 + 1, (pr (hB B n) o f 0 (op + 1) (a + 1)).2.2.1, (pr (hB B n) o f 0 (op + 1) (a + 1)).2.2.2) := by
            conv => lhs; unfold pr
            rw [if_neg (by omega), if_neg c1, if_neg c2, if_neg (by omega), if_pos ⟨c6, c4⟩, if_pos hr, if_pos c7]
          rw [ep, takes9 hh2.1 y2.2.1 (by omega) (by omega) c7, nq_b2S, if_neg (by decide)]
          have k13 := y2.2.2.2.2.1
          refine ⟨v1, nq_wr (nq_wr M1 0 10 (iI (((pr (hB B n) o f 0 (op + 1) (a + 1)).2.1 + 1 : Nat) : Int))) 0 13 (iI op), ?_, ((Fw.trans F1).wr (Or.inl rfl)).wr (Or.inr (Or.inr rfl)), fun _ => ⟨?_, ?_⟩, fun c => (by cases c)⟩
          · unfold fX9_unit_L88
            simp (disch := omega) only [il_0, il_1, il_2, il_3, il_4, il_5, il_6, il_7, il_8, il_9, il_10, il_11, il_12, il_13, il_16, il_20, il_30, il_31, il_32, il_33, il_36, il_37, il_38, il_40, il_41, il_42, il_43, il_45, il_47, il_48, il_50, il_57, il_60, il_61, il_62, il_70, il_71, il_79, il_80, il_97, il_98, il_99, il_100, il_107, il_110, il_111, il_114, il_115, il_116, il_121, il_124, il_128, il_130, il_140, il_160, il_255, il_399, il_540, il_590, il_610, il_999, il_1000, il_1250, il_10000, il_12345, il_99999, il_1000000, il_1103515245, ll_0, ll_1, ll_2, ll_3, ll_4, ll_5, ll_6, ll_7, ll_8, ll_9, ll_30, ll_48, ll_50, ll_57, ll_99, ll_100, ll_255, ll_399, ll_999, ll_99999, nq_bs, nq_ltS, nq_b2S, b2_id, bi_id, iI_add, iI_sub, iI_mul, iI_neg, lI_neg, iI_64, iI_lt, iI_le, iI_eq, iI_ag, iI_as, iI_ar, iI_dv, iI_rem, isOut8, in9, bo_nz, bo_t, bo_f, wr_s, wr_n, wr_k, if_pos, if_neg, ↓reduceIte, Nat.reduceAdd, Nat.reduceMul, Nat.reduceSub, Nat.reduceEqDiff, Int.reduceToNat, Int.toNat_natCast, Int.reduceNeg, Int.reduceAdd, Int.reduceSub, Int.reduceMul, k13, q3]
          · rw [y1, Fw.1 9 (by omega)]
          · refine y2.to (((FE.refl M1).wr (Or.inl rfl)).wr (Or.inr (Or.inr rfl))) ?_ ?_ (wr_s ⟨rfl, rfl⟩)
            · rw [wr_n (by omega), wr_s ⟨rfl, rfl⟩]
            · simp (disch := omega) only [wr_n]; exact y2.2.2.2.1
        · have ep : pr (hB B n) o (f + 1) 5 op a = pF (pr (hB B n) o f 0 (op + 1) (a + 1)).2.1 := by
            conv => lhs; unfold pr
            rw [if_neg (by omega), if_neg c1, if_neg c2, if_neg (by omega), if_pos ⟨c6, c4⟩, if_pos hr, if_neg c7]
          rw [ep, takes9n hh2.1 (by omega) (by omega) c7, nq_b2S, if_pos (by decide), wrong9 y2, nq_b2S]
          exact ⟨iI 0, _, rfl, (Fw.trans F1).wr (Or.inr (Or.inl rfl)), fun c => (by cases c), fun _ => wr_s ⟨rfl, rfl⟩⟩
      | false =>
        have ep : pr (hB B n) o (f + 1) 5 op a = pF (pr (hB B n) o f 0 (op + 1) (a + 1)).2.1 := by
          conv => lhs; unfold pr
          rw [if_neg (by omega), if_neg c1, if_neg c2, if_neg (by omega), if_pos ⟨c6, c4⟩, hr, if_neg (by decide)]
        have b1 := hok.2 hr
        have q12 := o2 hr
        rw [ep, takes9n (hereF q12 (by omega)) (by omega) (by omega) (by omega), nq_b2S, if_pos (by decide), wrongF q12 (by omega), nq_b2S]
        exact ⟨iI 0, _, rfl, (Fw.trans F1).wr (Or.inr (Or.inl rfl)), fun c => (by cases c), fun _ => wr_s ⟨rfl, rfl⟩⟩
  · have ep : pr (hB B n) o (f + 1) 5 op a = pF a := by
      conv => lhs; unfold pr
      rw [if_neg (by omega), if_neg c1, if_neg c2, if_neg (by omega), if_neg (by omega)]
    rw [ep]
    refine ⟨iI 0, nq_wr M 0 12 (iI a), ?_, (FE.refl M).wr (Or.inr (Or.inl rfl)), fun c => (by cases c), fun _ => wr_s ⟨rfl, rfl⟩⟩
    have hw := wrong9 hS
    by_cases c8 : hB B n a = 33 ∨ hB B n a = 40
    · have o5 : op = 5 := by omega
      rw [o5] at h13
      unfold fX9_unit fX9_unit_L17
      rcases c8 with e | e
      · rw [e] at hh
        simp (disch := omega) only [il_0, il_1, il_2, il_3, il_4, il_5, il_6, il_7, il_8, il_9, il_10, il_11, il_12, il_13, il_16, il_20, il_30, il_31, il_32, il_33, il_36, il_37, il_38, il_40, il_41, il_42, il_43, il_45, il_47, il_48, il_50, il_57, il_60, il_61, il_62, il_70, il_71, il_79, il_80, il_97, il_98, il_99, il_100, il_107, il_110, il_111, il_114, il_115, il_116, il_121, il_124, il_128, il_130, il_140, il_160, il_255, il_399, il_540, il_590, il_610, il_999, il_1000, il_1250, il_10000, il_12345, il_99999, il_1000000, il_1103515245, ll_0, ll_1, ll_2, ll_3, ll_4, ll_5, ll_6, ll_7, ll_8, ll_9, ll_30, ll_48, ll_50, ll_57, ll_99, ll_100, ll_255, ll_399, ll_999, ll_99999, nq_bs, nq_ltS, nq_b2S, b2_id, bi_id, iI_add, iI_sub, iI_mul, iI_neg, lI_neg, iI_64, iI_lt, iI_le, iI_eq, iI_ag, iI_as, iI_ar, iI_dv, iI_rem, isOut8, in9, bo_nz, bo_t, bo_f, wr_s, wr_n, wr_k, if_pos, if_neg, ↓reduceIte, Nat.reduceAdd, Nat.reduceMul, Nat.reduceSub, Nat.reduceEqDiff, Int.reduceToNat, Int.toNat_natCast, Int.reduceNeg, Int.reduceAdd, Int.reduceSub, Int.reduceMul, hh.1, h13, hw]
      · rw [e] at hh
        simp (disch := omega) only [il_0, il_1, il_2, il_3, il_4, il_5, il_6, il_7, il_8, il_9, il_10, il_11, il_12, il_13, il_16, il_20, il_30, il_31, il_32, il_33, il_36, il_37, il_38, il_40, il_41, il_42, il_43, il_45, il_47, il_48, il_50, il_57, il_60, il_61, il_62, il_70, il_71, il_79, il_80, il_97, il_98, il_99, il_100, il_107, il_110, il_111, il_114, il_115, il_116, il_121, il_124, il_128, il_130, il_140, il_160, il_255, il_399, il_540, il_590, il_610, il_999, il_1000, il_1250, il_10000, il_12345, il_99999, il_1000000, il_1103515245, ll_0, ll_1, ll_2, ll_3, ll_4, ll_5, ll_6, ll_7, ll_8, ll_9, ll_30, ll_48, ll_50, ll_57, ll_99, ll_100, ll_255, ll_399, ll_999, ll_99999, nq_bs, nq_ltS, nq_b2S, b2_id, bi_id, iI_add, iI_sub, iI_mul, iI_neg, lI_neg, iI_64, iI_lt, iI_le, iI_eq, iI_ag, iI_as, iI_ar, iI_dv, iI_rem, isOut8, in9, bo_nz, bo_t, bo_f, wr_s, wr_n, wr_k, if_pos, if_neg, ↓reduceIte, Nat.reduceAdd, Nat.reduceMul, Nat.reduceSub, Nat.reduceEqDiff, Int.reduceToNat, Int.toNat_natCast, Int.reduceNeg, Int.reduceAdd, Int.reduceSub, Int.reduceMul, hh.1, h13, hw]
    · have nm0 : nmI o (hB B n a) < 0 := by omega
      have hl : nq_lp (fun s : Int32 × Int32 × Mem => fX9_unit_B150 (gE 0 d) (gE 5 d) s.1 s.2.1 s.2.2) nq_fuel (iI 0, iI 0, M) = some (iI 0, iI 0, M) := by
        show nq_lp (fun s : Int32 × Int32 × Mem => fX9_unit_B150 (gE 0 d) (gE 5 d) s.1 s.2.1 s.2.2) (999999 + 1) (iI 0, iI 0, M) = some (iI 0, iI 0, M)
        apply lp_r
        show fX9_unit_B150 (gE 0 d) (gE 5 d) (iI 0) (iI 0) M = _
        unfold fX9_unit_B150
        simp (disch := omega) only [il_0, il_1, il_2, il_3, il_4, il_5, il_6, il_7, il_8, il_9, il_10, il_11, il_12, il_13, il_16, il_20, il_30, il_31, il_32, il_33, il_36, il_37, il_38, il_40, il_41, il_42, il_43, il_45, il_47, il_48, il_50, il_57, il_60, il_61, il_62, il_70, il_71, il_79, il_80, il_97, il_98, il_99, il_100, il_107, il_110, il_111, il_114, il_115, il_116, il_121, il_124, il_128, il_130, il_140, il_160, il_255, il_399, il_540, il_590, il_610, il_999, il_1000, il_1250, il_10000, il_12345, il_99999, il_1000000, il_1103515245, ll_0, ll_1, ll_2, ll_3, ll_4, ll_5, ll_6, ll_7, ll_8, ll_9, ll_30, ll_48, ll_50, ll_57, ll_99, ll_100, ll_255, ll_399, ll_999, ll_99999, nq_bs, nq_ltS, nq_b2S, b2_id, bi_id, iI_add, iI_sub, iI_mul, iI_neg, lI_neg, iI_64, iI_lt, iI_le, iI_eq, iI_ag, iI_as, iI_ar, iI_dv, iI_rem, isOut8, in9, bo_nz, bo_t, bo_f, wr_s, wr_n, wr_k, if_pos, if_neg, ↓reduceIte, Nat.reduceAdd, Nat.reduceMul, Nat.reduceSub, Nat.reduceEqDiff, Int.reduceToNat, Int.toNat_natCast, Int.reduceNeg, Int.reduceAdd, Int.reduceSub, Int.reduceMul, hh.1]
      unfold fX9_unit fX9_unit_L150 fX9_unit_L202
      simp (disch := omega) only [il_0, il_1, il_2, il_3, il_4, il_5, il_6, il_7, il_8, il_9, il_10, il_11, il_12, il_13, il_16, il_20, il_30, il_31, il_32, il_33, il_36, il_37, il_38, il_40, il_41, il_42, il_43, il_45, il_47, il_48, il_50, il_57, il_60, il_61, il_62, il_70, il_71, il_79, il_80, il_97, il_98, il_99, il_100, il_107, il_110, il_111, il_114, il_115, il_116, il_121, il_124, il_128, il_130, il_140, il_160, il_255, il_399, il_540, il_590, il_610, il_999, il_1000, il_1250, il_10000, il_12345, il_99999, il_1000000, il_1103515245, ll_0, ll_1, ll_2, ll_3, ll_4, ll_5, ll_6, ll_7, ll_8, ll_9, ll_30, ll_48, ll_50, ll_57, ll_99, ll_100, ll_255, ll_399, ll_999, ll_99999, nq_bs, nq_ltS, nq_b2S, b2_id, bi_id, iI_add, iI_sub, iI_mul, iI_neg, lI_neg, iI_64, iI_lt, iI_le, iI_eq, iI_ag, iI_as, iI_ar, iI_dv, iI_rem, isOut8, in9, bo_nz, bo_t, bo_f, wr_s, wr_n, wr_k, if_pos, if_neg, ↓reduceIte, Nat.reduceAdd, Nat.reduceMul, Nat.reduceSub, Nat.reduceEqDiff, Int.reduceToNat, Int.toNat_natCast, Int.reduceNeg, Int.reduceAdd, Int.reduceSub, Int.reduceMul, hh.1, hnm, hl, hw]
theorem simEAll {B : Nat → Int} {n : Nat} {o : Bool} {base : Nat} : ∀ f, SimEL B n o base f := by
  intro f
  induction f with
  | zero => intro lv op d h1 h2 h3 h4 M a hS ha; omega
  | succ f ih =>
    intro lv op d h1 h2 h3 h4 M a hS ha
    obtain ⟨d', rfl⟩ : ∃ d', d = d' + 1 := ⟨d - 1, by omega⟩
    have hc : lv = 0 ∨ lv = 1 ∨ lv = 2 ∨ lv = 3 ∨ lv = 4 ∨ lv = 5 := by omega
    rcases hc with rfl | rfl | rfl | rfl | rfl | rfl
    · exact simE_lv (d := d') (by omega) (by omega) endE0 goE0 (fun M a hS ha => ih 1 op d' (by omega) h2 (by omega) (by omega) M a hS ha) rfl hS ha
    · exact simE_lv (d := d') (by omega) (by omega) endE1 goE1 (fun M a hS ha => ih 2 op d' (by omega) h2 (by omega) (by omega) M a hS ha) rfl hS ha
    · exact simE_2 (d := d') (fun M a hS ha => ih 3 op d' (by omega) h2 (by omega) (by omega) M a hS ha) hS ha
    · exact simE_lv (d := d') (by omega) (by omega) endE3 goE3 (fun M a hS ha => ih 4 op d' (by omega) h2 (by omega) (by omega) M a hS ha) rfl hS ha
    · exact simE_lv (d := d') (by omega) (by omega) endE4 goE4 (fun M a hS ha => ih 5 op d' (by omega) h2 (by omega) (by omega) M a hS ha) rfl hS ha
    · exact simE_5 (d := d') ih h2 (by omega) (by omega) hS ha
