/-! 18.g: text -/
theorem readT {B : Nat → Int} {n u : Nat} {M : Mem} (hn : n ≤ 50) (ht : ∀ j, j < 50 → M 17 j = iI (B j) ∧ 0 ≤ B j ∧ B j ≤ 255) :
    ∃ M', fX1_read 80 17 (iI n) (iI (if decide (u < 6) = true then 1 else 2)) M = some (iI (if (pr (hB B n) (decide (u < 6)) 41 0 0 0).1 = true ∧ (pr (hB B n) (decide (u < 6)) 41 0 0 0).2.1 = n then -1 else (pr (hB B n) (decide (u < 6)) 41 0 0 0).2.1), M') ∧ FR M M' ∧
      ((pr (hB B n) (decide (u < 6)) 41 0 0 0).1 = true → M' 80 1 = iI (pr (hB B n) (decide (u < 6)) 41 0 0 0).2.2.1.length ∧ ∀ i, i < (pr (hB B n) (decide (u < 6)) 41 0 0 0).2.2.1.length → M' 81 i = (pr (hB B n) (decide (u < 6)) 41 0 0 0).2.2.1.getD i 0) := by
  have e0 : ∃ M5, fX1_read 80 17 (iI n) (iI (if decide (u < 6) = true then 1 else 2)) M = (nq_b2 (fX1_readLevelC 80 17 (iI 0) (iI 0) M5) fun v7 M8 => if v7 = 0 then (nq_lt (M8 80 4) fun v10 => some (v10, M8)) else (nq_lt (M8 80 4) fun v11 => nq_lt (M8 80 3) fun v12 => if v11 = v12 then (some ((-1 : Int32), M8)) else (nq_lt (M8 80 4) fun v14 => some (v14, M8)))) ∧ FR M M5 ∧ RdS B n (if decide (u < 6) = true then 1 else 2) M5 0 [] := by
    refine ⟨nq_wr (nq_wr (nq_wr (nq_wr (nq_wr M 80 2 1) 80 3 (iI n)) 80 5 (iI (if decide (u < 6) = true then 1 else 2))) 80 4 (iI 0)) 80 1 (iI 0), ?_, ?_, ⟨?_, ?_, ?_, ?_, ?_, ?_, ?_, hn⟩⟩
    · unfold fX1_read
      rfl
    · intro k h1 h2; simp (disch := omega) only [wr_k]
    · simp (disch := omega) only [wr_n, wr_s]; rfl
    · simp (disch := omega) only [wr_n, wr_s]; rfl
    · intro i hi; exact absurd hi (by simp)
    · simp (disch := omega) only [wr_n, wr_s]
    · simp (disch := omega) only [wr_n, wr_s]
    · simp (disch := omega) only [wr_n, wr_s]
    · intro j hj; simp (disch := omega) only [wr_k]; exact ht j hj
  obtain ⟨M5, e1, F0, hS⟩ := e0
  rw [e1]
  obtain ⟨M1, e2, F1, o1, o2⟩ := (simAll 41).2 0 0 100 (by omega) (by omega) (by omega) (by omega) M5 0 [] hS (Nat.zero_le _) (Nat.le_refl _)
  have e2' : fX1_readLevelC 80 17 (iI 0) (iI 0) M5 = some (iI (if (pr (hB B n) (decide (u < 6)) 41 0 0 0).1 = true then 1 else 0), M1) := e2
  have hok := pr_ok (h := hB B n) (o := decide (u < 6)) hB_z 41 0 0 0 (Nat.zero_le _)
  rw [e2', nq_b2S]
  generalize pr (hB B n) (decide (u < 6)) 41 0 0 0 = r at *
  refine ⟨M1, ?_, F0.trans F1, fun hr => ⟨(o1 hr).2.1, (o1 hr).2.2.1⟩⟩
  cases hr : r.1 with
  | true =>
    have S1 := o1 hr
    obtain ⟨b1, b2, b3⟩ := hok.1 hr
    have z4 := S1.1
    have z3 := S1.2.2.2.2.1
    rw [if_pos rfl, if_neg (by decide)]
    by_cases c : r.2.1 = n
    · rw [if_pos ⟨rfl, c⟩]
      simp (disch := omega) only [nq_ltS, z4, z3, iI_eq, if_pos]
      rfl
    · rw [if_neg (fun q => c q.2)]
      simp (disch := omega) only [nq_ltS, z4, z3, iI_eq, if_neg]
  | false =>
    have q4 := o2 hr
    rw [if_pos (show iI (if false = true then 1 else 0) = 0 from rfl), nq_ltS, q4, if_neg (fun q => by cases q.1)]
theorem hop_text (a0 : Int32) (Mx Mm : Mem) (h : RR Mx Mm) : ∃ (r : Int32) (Mx1 Mm1 : Mem), fX8_text a0 Mx = some (r, Mx1) ∧ fX9_text a0 Mm = some (r, Mm1) ∧ RR Mx1 Mm1 := by
  obtain ⟨D, hc⟩ := h.1
  have hc' := hc
  obtain ⟨h0, hS, hR, hL, hA, hT⟩ := hc'
  have p0 : Mx 3 0 = iI (D 1) := hR.1
  have p1 := hR.2.1
  have p0m : Mm 1 1 = iI (D 1) := h0 1 (by omega)
  have w0m : Mm 1 2 = iI (D 2) := h0 2 (by omega)
  have w0 : Mx 6 0 = iI (D 2) := hL.1
  have w1 := hL.2.1
  obtain ⟨⟨s0, s5, s6, s7, s4, s9, s3, s10⟩, s0', s4', s5', s6', s7', s8', s9', s3', s10'⟩ := hS
  have hS := hc.2.1
  obtain ⟨x, hx, rfl⟩ := iI_of a0
  by_cases g : 0 ≤ x ∧ x ≤ 7
  · obtain ⟨u, rfl⟩ := Int.eq_ofNat_of_zero_le g.1
    obtain ⟨n, hn⟩ : ∃ n : Nat, D 9 = n := ⟨(D 9).toNat, by omega⟩
    have hn50 : n ≤ 50 := by omega
    have h9 := h0 9 (by omega)
    rw [hn] at s9 h9
    obtain ⟨M8, r8, F8, c8⟩ := readT (B := fun j => D (540 + j)) (n := n) (u := u) (M := Mx) hn50 hA.1
    have q9 : ∀ k, k ≠ 1 → nq_wr Mm 1 9 (iI 0) k = Mm k := fun k hk => wr_k hk
    obtain ⟨v, M11, r9, k1, k2, w1, w2⟩ := worked9 (B := fun j => D (540 + j)) (n := n) (base := 540) (u := u) (M := nq_wr Mm 1 9 (iI 0)) (by omega) hn50 (by omega) (fun i hi => ⟨by rw [wr_n (by omega)]; exact h0 (540 + i) (by omega), (hA.1 i (by omega)).2⟩)
    have t8 : fX8_text (iI u) Mx = fX8_text_L47 (iI u) (iI (if decide (u < 6) = true then 1 else 2)) (iI n) Mx := by
      unfold fX8_text
      by_cases c : u < 6
      · rw [if_pos (decide_eq_true c)]
        simp (disch := omega) only [il_0, il_1, il_2, il_3, il_4, il_5, il_6, il_7, il_8, il_9, il_10, il_11, il_12, il_13, il_16, il_20, il_30, il_31, il_32, il_33, il_36, il_37, il_38, il_40, il_41, il_42, il_43, il_45, il_47, il_48, il_50, il_57, il_60, il_61, il_62, il_70, il_71, il_79, il_80, il_97, il_98, il_99, il_100, il_107, il_110, il_111, il_114, il_115, il_116, il_121, il_124, il_128, il_130, il_140, il_160, il_255, il_399, il_540, il_590, il_610, il_999, il_1000, il_1250, il_10000, il_12345, il_99999, il_1000000, il_1103515245, ll_0, ll_1, ll_2, ll_3, ll_4, ll_5, ll_6, ll_7, ll_8, ll_9, ll_30, ll_48, ll_50, ll_57, ll_99, ll_100, ll_255, ll_399, ll_999, ll_99999, nq_bs, nq_ltS, nq_b2S, b2_id, bi_id, iI_add, iI_sub, iI_mul, iI_neg, lI_neg, iI_64, iI_lt, iI_le, iI_eq, iI_ag, iI_as, iI_ar, iI_dv, iI_rem, isOut8, in9, bo_nz, bo_t, bo_f, wr_s, wr_n, wr_k, if_pos, if_neg, ↓reduceIte, Nat.reduceAdd, Nat.reduceMul, Nat.reduceSub, Nat.reduceEqDiff, Int.reduceToNat, Int.toNat_natCast, Int.reduceNeg, Int.reduceAdd, Int.reduceSub, Int.reduceMul, s9]
      · rw [if_neg (by rw [decide_eq_true_eq]; exact c)]
        simp (disch := omega) only [il_0, il_1, il_2, il_3, il_4, il_5, il_6, il_7, il_8, il_9, il_10, il_11, il_12, il_13, il_16, il_20, il_30, il_31, il_32, il_33, il_36, il_37, il_38, il_40, il_41, il_42, il_43, il_45, il_47, il_48, il_50, il_57, il_60, il_61, il_62, il_70, il_71, il_79, il_80, il_97, il_98, il_99, il_100, il_107, il_110, il_111, il_114, il_115, il_116, il_121, il_124, il_128, il_130, il_140, il_160, il_255, il_399, il_540, il_590, il_610, il_999, il_1000, il_1250, il_10000, il_12345, il_99999, il_1000000, il_1103515245, ll_0, ll_1, ll_2, ll_3, ll_4, ll_5, ll_6, ll_7, ll_8, ll_9, ll_30, ll_48, ll_50, ll_57, ll_99, ll_100, ll_255, ll_399, ll_999, ll_99999, nq_bs, nq_ltS, nq_b2S, b2_id, bi_id, iI_add, iI_sub, iI_mul, iI_neg, lI_neg, iI_64, iI_lt, iI_le, iI_eq, iI_ag, iI_as, iI_ar, iI_dv, iI_rem, isOut8, in9, bo_nz, bo_t, bo_f, wr_s, wr_n, wr_k, if_pos, if_neg, ↓reduceIte, Nat.reduceAdd, Nat.reduceMul, Nat.reduceSub, Nat.reduceEqDiff, Int.reduceToNat, Int.toNat_natCast, Int.reduceNeg, Int.reduceAdd, Int.reduceSub, Int.reduceMul, s9]
    have t9 : fX9_text (iI u) Mm = (if M11 0 12 < 0 then ((nq_as M11 1 1250 (iI (130 + u)) (iI n)).bind fun M14 => fX9_text_L68 (iI u) (iI n) (0 : Int32) M14) else some ((-10 : Int32) - M11 0 12, M11)) := by
      have r9' : fX9_worked (iI 540) (iI n) (iI u) (nq_wr Mm 1 9 (iI 0)) = some (v, M11) := r9
      unfold fX9_text
      simp (disch := omega) only [nq_bs, nq_ltS, nq_b2S, il_0, il_1, il_2, il_3, il_4, il_5, il_6, il_7, il_8, il_9, il_10, il_11, il_12, il_13, il_16, il_20, il_30, il_31, il_32, il_33, il_36, il_37, il_38, il_40, il_41, il_42, il_43, il_45, il_47, il_48, il_50, il_57, il_60, il_61, il_62, il_70, il_71, il_79, il_80, il_97, il_98, il_99, il_100, il_107, il_110, il_111, il_114, il_115, il_116, il_121, il_124, il_128, il_130, il_140, il_160, il_255, il_399, il_540, il_590, il_610, il_999, il_1000, il_1250, il_10000, il_12345, il_99999, il_1000000, il_1103515245, ll_0, ll_1, ll_2, ll_3, ll_4, ll_5, ll_6, ll_7, ll_8, ll_9, ll_30, ll_48, ll_50, ll_57, ll_99, ll_100, ll_255, ll_399, ll_999, ll_99999, iI_add, isUse9, bo_t, if_neg, iI_eq, iI_ag, iI_as, h9, Int.reduceToNat, r9']
    have hok := pr_ok (h := hB (fun j => D (540 + j)) n) (o := decide (u < 6)) hB_z 41 0 0 0 (Nat.zero_le _)
    rw [t8, t9]
    unfold fX8_text_L47
    rw [r8, nq_b2S, nq_ltS]
    generalize hr' : pr (hB (fun j => D (540 + j)) n) (decide (u < 6)) 41 0 0 0 = r at *
    by_cases c : r.1 = true ∧ r.2.1 = n
    · obtain ⟨b1, b2, b3⟩ := hok.1 c.1
      obtain ⟨z1, z2⟩ := w1 c
      obtain ⟨y1, y2⟩ := c8 c.1
      have l50 : r.2.2.1.length ≤ 50 := by omega
      rw [if_pos c, z2]
      have e17 : ∀ k, k ≠ 2 → nq_wr M8 2 14 (0 : Int32) k = M8 k := fun k hk => wr_k hk
      have hD : ∀ m : Mem, (∀ j, j < 1250 → m 1 j = iI (upI (upI D 9 0) (130 + u) n j)) → fX9_text_L68 (iI u) (iI n) (0 : Int32) m = some (1, rg m 1 (140 + 50 * u) n (fun j => m 1 (540 + j))) := by
        intro m hm
        unfold fX9_text_L68 fX9_text_L107
        have hl : nq_lp (fun s : Int32 × Mem => fX9_text_B68 (iI u) (iI n) s.1 s.2) nq_fuel (iI 0, m) = some (rg m 1 (140 + 50 * u) n (fun j => m 1 (540 + j))) := by
          refine lp_rg (body := fun s : Int32 × Mem => fX9_text_B68 (iI u) (iI n) s.1 s.2) (M := m) 1 (140 + 50 * u) n (fun j => m 1 (540 + j)) (by omega) ?_ ?_
          · intro k hk
            show fX9_text_B68 (iI u) (iI n) (iI k) _ = _
            unfold fX9_text_B68
            have u1 : ((540 : Int) + (k : Int)).toNat = 540 + k := by omega
            have u2 : ((140 : Int) + 50 * (u : Int) + (k : Int)).toNat = 140 + 50 * u + k := by omega
            simp (disch := omega) only [il_0, il_1, il_2, il_3, il_4, il_5, il_6, il_7, il_8, il_9, il_10, il_11, il_12, il_13, il_16, il_20, il_30, il_31, il_32, il_33, il_36, il_37, il_38, il_40, il_41, il_42, il_43, il_45, il_47, il_48, il_50, il_57, il_60, il_61, il_62, il_70, il_71, il_79, il_80, il_97, il_98, il_99, il_100, il_107, il_110, il_111, il_114, il_115, il_116, il_121, il_124, il_128, il_130, il_140, il_160, il_255, il_399, il_540, il_590, il_610, il_999, il_1000, il_1250, il_10000, il_12345, il_99999, il_1000000, il_1103515245, ll_0, ll_1, ll_2, ll_3, ll_4, ll_5, ll_6, ll_7, ll_8, ll_9, ll_30, ll_48, ll_50, ll_57, ll_99, ll_100, ll_255, ll_399, ll_999, ll_99999, nq_bs, nq_ltS, nq_b2S, b2_id, bi_id, iI_add, iI_sub, iI_mul, iI_neg, lI_neg, iI_64, iI_lt, iI_le, iI_eq, iI_ag, iI_as, iI_ar, iI_dv, iI_rem, isOut8, in9, bo_nz, bo_t, bo_f, wr_s, wr_n, wr_k, if_pos, if_neg, ↓reduceIte, Nat.reduceAdd, Nat.reduceMul, Nat.reduceSub, Nat.reduceEqDiff, Int.reduceToNat, Int.toNat_natCast, Int.reduceNeg, Int.reduceAdd, Int.reduceSub, Int.reduceMul, rg_n, u1, u2]
            rfl
          · show fX9_text_B68 (iI u) (iI n) (iI n) _ = _
            unfold fX9_text_B68
            rw [if_pos (by rw [iI_le (by omega) (by omega)]; omega)]
        rw [il_0, hl, nq_bs]
      have u3 : ((130 : Int) + (u : Int)).toNat = 130 + u := by omega
      have row1 : ∀ j, j < 1250 → nq_wr M11 1 (130 + u) (iI n) 1 j = iI (upI (upI D 9 0) (130 + u) n j) := by
        intro j hj
        by_cases e1 : j = 130 + u
        · rw [wr_s ⟨rfl, e1⟩, upI_s e1]
        · rw [wr_n (Or.inr e1), upI_n e1, k1 1 (by omega)]
          by_cases e2 : j = 9
          · rw [wr_s ⟨rfl, e2⟩, upI_s e2]
          · rw [wr_n (Or.inr e2), upI_n e2]; exact h0 j hj
      have eR := hD (nq_wr M11 1 (130 + u) (iI n)) row1
      refine ⟨1, nq_wr (rg (nq_wr M8 2 14 (iI 0)) (24 + 2 * u) 0 r.2.2.1.length (M8 81)) (23 + 2 * u) 1 (iI r.2.2.1.length), rg (nq_wr M11 1 (130 + u) (iI n)) 1 (140 + 50 * u) n (fun j => nq_wr M11 1 (130 + u) (iI n) 1 (540 + j)), ?_, ?_, ?_⟩
      · have v1 : (u : Int).toNat = u := by omega
        have v2 : 23 + 2 * u + 1 = 24 + 2 * u := by omega
        have c1 := cp_all (M := nq_wr M8 2 14 (iI 0)) (k := 81) (n := 50) (k2 := 24 + 2 * u) (n2 := 50) (c := (r.2.2.1.length : Int)) (by omega) (by omega) (by omega) (by omega)
        rw [Int.toNat_natCast, wr_k (show (81 : Nat) ≠ 2 by omega)] at c1
        unfold fX5_become
        simp (disch := omega) only [il_0, il_1, il_2, il_3, il_4, il_5, il_6, il_7, il_8, il_9, il_10, il_11, il_12, il_13, il_16, il_20, il_30, il_31, il_32, il_33, il_36, il_37, il_38, il_40, il_41, il_42, il_43, il_45, il_47, il_48, il_50, il_57, il_60, il_61, il_62, il_70, il_71, il_79, il_80, il_97, il_98, il_99, il_100, il_107, il_110, il_111, il_114, il_115, il_116, il_121, il_124, il_128, il_130, il_140, il_160, il_255, il_399, il_540, il_590, il_610, il_999, il_1000, il_1250, il_10000, il_12345, il_99999, il_1000000, il_1103515245, ll_0, ll_1, ll_2, ll_3, ll_4, ll_5, ll_6, ll_7, ll_8, ll_9, ll_30, ll_48, ll_50, ll_57, ll_99, ll_100, ll_255, ll_399, ll_999, ll_99999, nq_bs, nq_ltS, nq_b2S, b2_id, bi_id, iI_add, iI_sub, iI_mul, iI_neg, lI_neg, iI_64, iI_lt, iI_le, iI_eq, iI_ag, iI_as, iI_ar, iI_dv, iI_rem, isOut8, in9, bo_nz, bo_t, bo_f, wr_s, wr_n, wr_k, if_pos, if_neg, ↓reduceIte, Nat.reduceAdd, Nat.reduceMul, Nat.reduceSub, Nat.reduceEqDiff, Int.reduceToNat, Int.toNat_natCast, Int.reduceNeg, Int.reduceAdd, Int.reduceSub, Int.reduceMul, y1, v2, c1]
      · rw [if_pos (by decide)]
        simp (disch := omega) only [iI_as, u3, nq_bs, eR]
      · obtain ⟨DD, hDD⟩ : ∃ DD : Nat → Int, DD = fun j => if 140 + 50 * u ≤ j ∧ j < 140 + 50 * u + n then D (540 + (j - (140 + 50 * u))) else upI (upI D 9 0) (130 + u) n j := ⟨_, rfl⟩
        have dN : ∀ j, j ≠ 9 → j ≠ 130 + u → ¬ (140 + 50 * u ≤ j ∧ j < 140 + 50 * u + n) → DD j = D j := by
          intro j h1 h2 h3
          rw [hDD]; dsimp only
          rw [if_neg h3, upI_n h2, upI_n h1]
        have dT : ∀ i, i < n → DD (140 + 50 * u + i) = D (540 + i) := by
          intro i hi
          rw [hDD]; dsimp only
          rw [if_pos (by omega), show 140 + 50 * u + i - (140 + 50 * u) = i by omega]
        have d9 : DD 9 = 0 := by
          rw [hDD]; dsimp only
          rw [if_neg (by omega), upI_n (by omega), upI_s rfl]
        have dL : DD (130 + u) = n := by
          rw [hDD]; dsimp only
          rw [if_neg (by omega), upI_s rfl]
        have fx : ∀ k, k ≠ 2 → k ≠ 80 → k ≠ 81 → k ≠ 23 + 2 * u → k ≠ 24 + 2 * u → nq_wr (rg (nq_wr M8 2 14 (iI 0)) (24 + 2 * u) 0 r.2.2.1.length (M8 81)) (23 + 2 * u) 1 (iI r.2.2.1.length) k = Mx k := by
          intro k a1 a2 a3 a4 a5
          rw [wr_k a4, rg_k a5, wr_k a1, F8 k a2 a3]
        refine h.upd (D := DD) (fun k hk => fx k (by omega) (by omega) (by omega) (by omega) (by omega)) ⟨fun k hk => ?_, ?_, ?_⟩ ⟨?_, ?_, ?_, ?_, ?_, ?_⟩
        · rw [rg_k (by omega), wr_k (by omega), k1 k (by omega), wr_k (by omega)]
        · rw [rg_k (by omega), wr_k (by omega), k2 2 (by omega), wr_k (by omega)]
        · rw [rg_k (by omega), wr_k (by omega), k2 17 (by omega), wr_k (by omega)]
        · intro j hj
          by_cases e : 140 + 50 * u ≤ j ∧ j < 140 + 50 * u + n
          · rw [rg_s ⟨rfl, e⟩, row1 _ (by omega), upI_n (by omega), upI_n (by omega), hDD]; dsimp only; rw [if_pos e]
          · rw [rg_n (Or.inr e), row1 j hj, hDD]; dsimp only; rw [if_neg e]
        · have m2 : ∀ j, j ≠ 14 → nq_wr (rg (nq_wr M8 2 14 (iI 0)) (24 + 2 * u) 0 r.2.2.1.length (M8 81)) (23 + 2 * u) 1 (iI r.2.2.1.length) 2 j = Mx 2 j := by
            intro j hj
            rw [wr_k (by omega), rg_k (by omega), wr_n (Or.inr hj), F8 2 (by omega) (by omega)]
          have m14 : nq_wr (rg (nq_wr M8 2 14 (iI 0)) (24 + 2 * u) 0 r.2.2.1.length (M8 81)) (23 + 2 * u) 1 (iI r.2.2.1.length) 2 14 = iI 0 := by
            rw [wr_k (by omega), rg_k (by omega), wr_s ⟨rfl, rfl⟩]
          unfold GS
          rw [m2 9 (by omega), m2 10 (by omega), m2 11 (by omega), m2 12 (by omega), m2 13 (by omega), m14, m2 15 (by omega), m2 16 (by omega), d9, dN 0 (by omega) (by omega) (by omega), dN 3 (by omega) (by omega) (by omega), dN 4 (by omega) (by omega) (by omega), dN 5 (by omega) (by omega) (by omega), dN 6 (by omega) (by omega) (by omega), dN 7 (by omega) (by omega) (by omega), dN 8 (by omega) (by omega) (by omega), dN 10 (by omega) (by omega) (by omega)]
          exact ⟨⟨s0, s5, s6, s7, s4, rfl, s3, s10⟩, s0', s4', s5', s6', s7', s8', by omega, s3', s10'⟩
        · exact hR.frame (fun k a1 a2 => fx k (by omega) (by omega) (by omega) (by omega) (by omega)) (fun j hj => dN j (by omega) (by omega) (by omega))
        · exact hL.frame (fun k a1 a2 => fx k (by omega) (by omega) (by omega) (by omega) (by omega)) (fun j hj => dN j (by omega) (by omega) (by omega))
        · exact hA.frame (fun k a1 a2 => fx k (by omega) (by omega) (by omega) (by omega) (by omega)) (fun j hj => dN j (by omega) (by omega) (by omega))
        · intro u' hu'
          by_cases e : u' = u
          · subst e
            right
            have eB : hB (fun i => DD (140 + 50 * u' + i)) (DD (130 + u')).toNat = hB (fun j => D (540 + j)) n := by
              rw [dL, Int.toNat_natCast]
              funext i
              unfold hB
              split
              · rename_i q; exact dT i q
              · rfl
            rw [eB, hr', dL, Int.toNat_natCast]
            refine ⟨by omega, ?_, c.1, c.2, ?_, ?_⟩
            · intro i hi
              dsimp only
              rw [dT i hi]
              exact (hA.1 i (by omega)).2
            · rw [show 2 + 21 + 2 * u' = 23 + 2 * u' by omega, wr_s ⟨rfl, rfl⟩, iI_nat]
            · intro i hi
              rw [show 2 + 21 + 2 * u' + 1 = 24 + 2 * u' by omega, wr_k (by omega), rg_s ⟨rfl, by omega, by omega⟩, Nat.sub_zero]
              exact y2 i hi
          · have q := hT u' hu'
            rw [fx _ (by omega) (by omega) (by omega) (by omega) (by omega), fx _ (by omega) (by omega) (by omega) (by omega) (by omega), dN (130 + u') (by omega) (by omega) (by omega)]
            exact q.frame (fun _ _ _ i _ => rfl) (fun i hi => dN _ (by omega) (by omega) (by omega))
    · have b : 0 ≤ r.2.1 ∧ r.2.1 ≤ n := by
        refine ⟨Nat.zero_le _, ?_⟩
        cases hr : r.1 with
        | true => exact (hok.1 hr).2.1
        | false => exact (hok.2 hr).2
      have z2 := w2 c
      rw [if_neg c, z2]
      refine ⟨iI (-10) - iI r.2.1, nq_wr M8 2 14 (iI 0), M11, ?_, ?_, ?_⟩
      · rw [if_neg (by rw [il_0, iI_lt (by omega) (by omega)]; omega)]; rfl
      · rw [if_neg (by rw [il_0, iI_lt (by omega) (by omega)]; omega)]; rfl
      · have fx : ∀ k, k ≠ 2 → k ≠ 80 → k ≠ 81 → nq_wr M8 2 14 (iI 0) k = Mx k := by
          intro k a1 a2 a3
          rw [wr_k a1, F8 k a2 a3]
        refine h.upd (D := upI D 9 0) (fun k hk => fx k (by omega) (by omega) (by omega)) ⟨fun k hk => ?_, ?_, ?_⟩ ⟨?_, ?_, ?_, ?_, ?_, ?_⟩
        · rw [k1 k (by omega), wr_k (by omega)]
        · rw [k2 2 (by omega), wr_k (by omega)]
        · rw [k2 17 (by omega), wr_k (by omega)]
        · intro j hj
          rw [k1 1 (by omega)]
          exact row_wr h0 j hj
        · have m2 : ∀ j, j ≠ 14 → nq_wr M8 2 14 (iI 0) 2 j = Mx 2 j := by
            intro j hj
            rw [wr_n (Or.inr hj), F8 2 (by omega) (by omega)]
          have m14 : nq_wr M8 2 14 (iI 0) 2 14 = iI 0 := wr_s ⟨rfl, rfl⟩
          unfold GS
          rw [m2 9 (by omega), m2 10 (by omega), m2 11 (by omega), m2 12 (by omega), m2 13 (by omega), m14, m2 15 (by omega), m2 16 (by omega)]
          simp (disch := omega) only [upI_s, upI_n]
          exact ⟨⟨s0, s5, s6, s7, s4, trivial, s3, s10⟩, s0', s4', s5', s6', s7', s8', by omega, s3', s10'⟩
        · exact hR.frame (fun k a1 a2 => fx k (by omega) (by omega) (by omega)) (fun j hj => upI_n (by omega))
        · exact hL.frame (fun k a1 a2 => fx k (by omega) (by omega) (by omega)) (fun j hj => upI_n (by omega))
        · exact hA.frame (fun k a1 a2 => fx k (by omega) (by omega) (by omega)) (fun j hj => upI_n (by omega))
        · exact hT.frame (fun k a1 a2 => fx k (by omega) (by omega) (by omega)) (fun j hj => upI_n (by omega))
  · exact h.ref 1 (by omega) (by omega) (by unfold fX8_text; simp (disch := omega) only [il_0, il_1, il_2, il_3, il_4, il_5, il_6, il_7, il_8, il_9, il_10, il_11, il_12, il_13, il_16, il_20, il_30, il_31, il_32, il_33, il_36, il_37, il_38, il_40, il_41, il_42, il_43, il_45, il_47, il_48, il_50, il_57, il_60, il_61, il_62, il_70, il_71, il_79, il_80, il_97, il_98, il_99, il_100, il_107, il_110, il_111, il_114, il_115, il_116, il_121, il_124, il_128, il_130, il_140, il_160, il_255, il_399, il_540, il_590, il_610, il_999, il_1000, il_1250, il_10000, il_12345, il_99999, il_1000000, il_1103515245, ll_0, ll_1, ll_2, ll_3, ll_4, ll_5, ll_6, ll_7, ll_8, ll_9, ll_30, ll_48, ll_50, ll_57, ll_99, ll_100, ll_255, ll_399, ll_999, ll_99999, nq_bs, nq_ltS, nq_b2S, b2_id, bi_id, iI_add, iI_sub, iI_mul, iI_neg, lI_neg, iI_64, iI_lt, iI_le, iI_eq, iI_ag, iI_as, iI_ar, iI_dv, iI_rem, isOut8, in9, bo_nz, bo_t, bo_f, wr_s, wr_n, wr_k, if_pos, if_neg, ↓reduceIte, Nat.reduceAdd, Nat.reduceMul, Nat.reduceSub, Nat.reduceEqDiff, Int.reduceToNat, Int.toNat_natCast, Int.reduceNeg, Int.reduceAdd, Int.reduceSub, Int.reduceMul]) (by unfold fX9_text; simp (disch := omega) only [il_0, il_1, il_2, il_3, il_4, il_5, il_6, il_7, il_8, il_9, il_10, il_11, il_12, il_13, il_16, il_20, il_30, il_31, il_32, il_33, il_36, il_37, il_38, il_40, il_41, il_42, il_43, il_45, il_47, il_48, il_50, il_57, il_60, il_61, il_62, il_70, il_71, il_79, il_80, il_97, il_98, il_99, il_100, il_107, il_110, il_111, il_114, il_115, il_116, il_121, il_124, il_128, il_130, il_140, il_160, il_255, il_399, il_540, il_590, il_610, il_999, il_1000, il_1250, il_10000, il_12345, il_99999, il_1000000, il_1103515245, ll_0, ll_1, ll_2, ll_3, ll_4, ll_5, ll_6, ll_7, ll_8, ll_9, ll_30, ll_48, ll_50, ll_57, ll_99, ll_100, ll_255, ll_399, ll_999, ll_99999, nq_bs, nq_ltS, nq_b2S, b2_id, bi_id, iI_add, iI_sub, iI_mul, iI_neg, lI_neg, iI_64, iI_lt, iI_le, iI_eq, iI_ag, iI_as, iI_ar, iI_dv, iI_rem, isOut8, in9, bo_nz, bo_t, bo_f, wr_s, wr_n, wr_k, if_pos, if_neg, ↓reduceIte, Nat.reduceAdd, Nat.reduceMul, Nat.reduceSub, Nat.reduceEqDiff, Int.reduceToNat, Int.toNat_natCast, Int.reduceNeg, Int.reduceAdd, Int.reduceSub, Int.reduceMul, isUse9])
