/-! 19.a: odds, enough, heirs -/
theorem pw8M {x : Int64} {k : Int32} {M : Mem} : fX8_power x k M = fX8_power x k (fun _ _ => 0) := rfl
theorem pw9M {x : Int64} {k : Int32} {M : Mem} : fX9_power x k M = fX9_power x k (fun _ _ => 0) := rfl
theorem lw8M {x y : Int64} {k : Int32} {M : Mem} : fX8_lowest x y k M = fX8_lowest x y k (fun _ _ => 0) := rfl
theorem cm9M {x y : Int64} {M : Mem} : fX9_common x y M = fX9_common x y (fun _ _ => 0) := rfl
def o8 (m n a b c : Int) : Option Int64 := (fX8_power (lI n) (iI b) (fun _ _ => 0)).bind fun v4 => (fX8_power (lI m) (iI b) (fun _ _ => 0)).bind fun v8 => (fX8_lowest (v4 - v8) v4 (iI c) (fun _ _ => 0)).bind fun v11 => fX8_power v11 (iI a) (fun _ _ => 0)
def oU (m n a b : Int) : Option Int64 := (fX9_power (lI n) (iI b) (fun _ _ => 0)).bind fun v3 => (fX9_power (lI m) (iI b) (fun _ _ => 0)).bind fun v6 => fX9_power (v3 - v6) (iI a) (fun _ _ => 0)
def oL (n a b : Int) : Option Int64 := fX9_power (lI n) (iI (b * a)) (fun _ _ => 0)
def oChk (m n a b : Int) : Bool := match o8 m n a b 0, o8 m n a b 1, oU m n a b, oL n a b with
  | some A, some B, some U, some L => (match fX9_common U L (fun _ _ => 0) with | some G => decide (nq_dvL U G = some A) && decide (nq_dvL L G = some B) | none => false) && decide (A.toInt * L.toInt = U.toInt * B.toInt) && decide (0 ≤ A.toInt ∧ A.toInt ≤ 10000000000000000 ∧ 0 < B.toInt ∧ B.toInt ≤ 10000000000000000 ∧ 0 ≤ U.toInt ∧ U.toInt ≤ 10000000000000000 ∧ 0 < L.toInt ∧ L.toInt ≤ 10000000000000000)
  | _, _, _, _ => false
theorem oT : ∀ n, n < 9 → ∀ m, m < 10 → m ≤ n + 1 → ∀ a, a < 4 → ∀ b, b < 4 → oChk ((m : Nat) : Int) ((n + 1 : Nat) : Int) ((a + 1 : Nat) : Int) ((b + 1 : Nat) : Int) = true := by decide +kernel
theorem oF {m n a b : Int} (hm : 0 ≤ m ∧ m ≤ n) (hn : 1 ≤ n ∧ n ≤ 9) (ha : 1 ≤ a ∧ a ≤ 4) (hb : 1 ≤ b ∧ b ≤ 4) : ∃ A B U L G : Int64, o8 m n a b 0 = some A ∧ o8 m n a b 1 = some B ∧ oU m n a b = some U ∧ oL n a b = some L ∧ fX9_common U L (fun _ _ => 0) = some G ∧ nq_dvL U G = some A ∧ nq_dvL L G = some B ∧ A.toInt * L.toInt = U.toInt * B.toInt ∧ (0 ≤ A.toInt ∧ A.toInt ≤ 10000000000000000 ∧ 0 < B.toInt ∧ B.toInt ≤ 10000000000000000 ∧ 0 ≤ U.toInt ∧ U.toInt ≤ 10000000000000000 ∧ 0 < L.toInt ∧ L.toInt ≤ 10000000000000000) := by
  obtain ⟨m', rfl⟩ := Int.eq_ofNat_of_zero_le hm.1
  obtain ⟨n', rfl⟩ : ∃ n' : Nat, n = ((n' + 1 : Nat) : Int) := ⟨(n - 1).toNat, by omega⟩
  obtain ⟨a', rfl⟩ : ∃ n' : Nat, a = ((n' + 1 : Nat) : Int) := ⟨(a - 1).toNat, by omega⟩
  obtain ⟨b', rfl⟩ : ∃ n' : Nat, b = ((n' + 1 : Nat) : Int) := ⟨(b - 1).toNat, by omega⟩
  have t := oT n' (by omega) m' (by omega) (by omega) a' (by omega) b' (by omega)
  unfold oChk at t
  cases e1 : o8 (m' : Int) ((n' + 1 : Nat) : Int) ((a' + 1 : Nat) : Int) ((b' + 1 : Nat) : Int) 0 with
  | none => rw [e1] at t; cases t
  | some A =>
    cases e2 : o8 (m' : Int) ((n' + 1 : Nat) : Int) ((a' + 1 : Nat) : Int) ((b' + 1 : Nat) : Int) 1 with
    | none => rw [e1, e2] at t; cases t
    | some B =>
      cases e3 : oU (m' : Int) ((n' + 1 : Nat) : Int) ((a' + 1 : Nat) : Int) ((b' + 1 : Nat) : Int) with
      | none => rw [e1, e2, e3] at t; cases t
      | some U =>
        cases e4 : oL ((n' + 1 : Nat) : Int) ((a' + 1 : Nat) : Int) ((b' + 1 : Nat) : Int) with
        | none => rw [e1, e2, e3, e4] at t; cases t
        | some L =>
          rw [e1, e2, e3, e4] at t
          dsimp only at t
          cases e5 : fX9_common U L (fun _ _ => 0) with
          | none => rw [e5] at t; simp at t
          | some G =>
            rw [e5] at t
            dsimp only at t
            rw [Bool.and_eq_true, Bool.and_eq_true, Bool.and_eq_true, decide_eq_true_eq, decide_eq_true_eq, decide_eq_true_eq, decide_eq_true_eq] at t
            exact ⟨A, B, U, L, G, rfl, rfl, rfl, rfl, e5, t.1.1.1, t.1.1.2, t.1.2, t.2⟩
theorem odds8 {M : Mem} {m n a b c : Int} (h : M 2 12 = iI (10 * m + n)) (hm : 0 ≤ m ∧ m ≤ n) (hn : 1 ≤ n ∧ n ≤ 9) (ha : inR a) (hb : inR b) (hc : inR c) : fX8_oddsPart (iI a) (iI b) (iI c) M = o8 m n a b c := by
  have q1 : (10 * m + n) % 10 = n := by omega
  have q2 : (10 * m + n) / 10 = m := by omega
  unfold fX8_oddsPart o8
  simp (disch := omega) only [nq_ltS, nq_bs, h, il_10, iI_rem, iI_dv, q1, q2, iI_64, bi_id]
  rw [pw8M (M := M)]
  congr 1
theorem oddsUp9 {M : Mem} {m n a b : Int} (h7 : M 1 7 = iI m) (h8 : M 1 8 = iI n) (hm : 0 ≤ m ∧ m ≤ n) (hn : 1 ≤ n ∧ n ≤ 9) : fX9_oddsUp (iI a) (iI b) M = oU m n a b := by
  unfold fX9_oddsUp oU
  simp (disch := omega) only [nq_ltS, nq_bs, h7, h8, il_7, il_8, iI_ag, Int.reduceToNat, iI_64, bi_id]
  rw [pw9M (M := M)]
  congr 1
theorem oddsLow9 {M : Mem} {n a b : Int} (h8 : M 1 8 = iI n) (hn : 1 ≤ n ∧ n ≤ 9) : fX9_oddsLow (iI a) (iI b) M = oL n a b := by
  unfold fX9_oddsLow oL
  simp (disch := omega) only [nq_ltS, nq_bs, h8, il_8, iI_ag, Int.reduceToNat, iI_64, bi_id, iI_mul]
  rw [pw9M (M := M)]
theorem RR.refL {Mx Mm : Mem} {p8 p9 : Option (Int64 × Mem)} (h : RR Mx Mm) (k : Int) (h0 : 0 ≤ k) (h6 : k < 6) (e8 : p8 = nq_b2 (fX8_refuse (iI k) Mx) fun v M => some (v.toInt64, M)) (e9 : p9 = nq_b2 (fX9_finds (iI k) Mm) fun v M => some (v.toInt64, M)) : ∃ (r : Int64) (Mx1 Mm1 : Mem), p8 = some (r, Mx1) ∧ p9 = some (r, Mm1) ∧ RR Mx1 Mm1 := by
  obtain ⟨a, b, h8, h9, hR⟩ := h.refuse k h0 h6
  rw [h8] at e8
  rw [h9] at e9
  exact ⟨_, a, b, e8, e9, hR⟩
theorem hop_odds (a0 a1 a2 : Int32) (Mx Mm : Mem) (h : RR Mx Mm) : ∃ (r : Int64) (Mx1 Mm1 : Mem), fX8_odds a0 a1 a2 Mx = some (r, Mx1) ∧ fX9_odds a0 a1 a2 Mm = some (r, Mm1) ∧ RR Mx1 Mm1 := by
  obtain ⟨D, hc⟩ := h.1
  have hc' := hc
  obtain ⟨h0, hS, hR, hL, hA, hT⟩ := hc'
  have p0 : Mx 3 0 = iI (D 1) := hR.1
  have p1 := hR.2.1
  have p0m : Mm 1 1 = iI (D 1) := h0 1 (by omega)
  have w0m : Mm 1 2 = iI (D 2) := h0 2 (by omega)
  have w0 : Mx 6 0 = iI (D 2) := hL.1
  have w1 := hL.2.1
  obtain ⟨⟨s0, s5, s6, s7, s4, s9, s3, s10⟩, s0', s4', s5', s6', s7', s8', s9', s3', s10'⟩ := hS
  have hS := hc.2.1
  obtain ⟨x, hx, rfl⟩ := iI_of a0
  obtain ⟨y, hy, rfl⟩ := iI_of a1
  obtain ⟨z, hz, rfl⟩ := iI_of a2
  by_cases g1 : 1 ≤ x ∧ x ≤ 4
  · by_cases g2 : 1 ≤ y ∧ y ≤ 4
    · by_cases g3 : 0 ≤ z ∧ z ≤ 1
      · obtain ⟨A, B, U, L, G, f1, f2, f3, f4, f5, f6, f7, f8, f9⟩ := oF (m := D 7) (n := D 8) s7' s8' g1 g2
        have q8 : ∀ c, inR c → fX8_oddsPart (iI x) (iI y) (iI c) Mx = o8 (D 7) (D 8) x y c := fun c hc => odds8 s7 s7' s8' hx hy hc
        have qU := oddsUp9 (a := x) (b := y) (h0 7 (by omega)) (h0 8 (by omega)) s7' s8'
        have qL := oddsLow9 (a := x) (b := y) (h0 8 (by omega)) s8'
        rw [f3] at qU
        rw [f4] at qL
        have f5' : fX9_common U L Mm = some G := f5
        have hc : z = 0 ∨ z = 1 := by omega
        rcases hc with rfl | rfl
        · refine ⟨A, Mx, Mm, ?_, ?_, h⟩
          · have q := q8 0 (by omega)
            rw [f1] at q
            unfold fX8_odds
            simp (disch := omega) only [il_0, il_1, il_2, il_3, il_4, il_5, il_6, il_7, il_8, il_9, il_10, il_11, il_12, il_13, il_16, il_20, il_30, il_31, il_32, il_33, il_36, il_37, il_38, il_40, il_41, il_42, il_43, il_45, il_47, il_48, il_50, il_57, il_60, il_61, il_62, il_70, il_71, il_79, il_80, il_97, il_98, il_99, il_100, il_107, il_110, il_111, il_114, il_115, il_116, il_121, il_124, il_128, il_130, il_140, il_160, il_255, il_399, il_540, il_590, il_610, il_999, il_1000, il_1250, il_10000, il_12345, il_99999, il_1000000, il_1103515245, ll_0, ll_1, ll_2, ll_3, ll_4, ll_5, ll_6, ll_7, ll_8, ll_9, ll_30, ll_48, ll_50, ll_57, ll_99, ll_100, ll_255, ll_399, ll_999, ll_99999, nq_bs, nq_ltS, nq_b2S, b2_id, bi_id, iI_add, iI_sub, iI_mul, iI_neg, lI_neg, iI_64, iI_lt, iI_le, iI_eq, iI_ag, iI_as, iI_ar, iI_dv, iI_rem, isOut8, in9, bo_nz, bo_t, bo_f, wr_s, wr_n, wr_k, if_pos, if_neg, ↓reduceIte, Nat.reduceAdd, Nat.reduceMul, Nat.reduceSub, Nat.reduceEqDiff, Int.reduceToNat, Int.toNat_natCast, Int.reduceNeg, Int.reduceAdd, Int.reduceSub, Int.reduceMul, isPlace8 p0 p1, isPlace9 p0m p1, areTwo8 p0 p1, areTwo9 p0m p1, isPair8 p0 p1, areFt9 p0m p1, isPact8, isPact9, isWord8 w0 w1, isWord9 w0m w1, isSheet8, isSheet9, isPart8, isPart9, q]
          · unfold fX9_odds fX9_odds_L60
            simp (disch := omega) only [il_0, il_1, il_2, il_3, il_4, il_5, il_6, il_7, il_8, il_9, il_10, il_11, il_12, il_13, il_16, il_20, il_30, il_31, il_32, il_33, il_36, il_37, il_38, il_40, il_41, il_42, il_43, il_45, il_47, il_48, il_50, il_57, il_60, il_61, il_62, il_70, il_71, il_79, il_80, il_97, il_98, il_99, il_100, il_107, il_110, il_111, il_114, il_115, il_116, il_121, il_124, il_128, il_130, il_140, il_160, il_255, il_399, il_540, il_590, il_610, il_999, il_1000, il_1250, il_10000, il_12345, il_99999, il_1000000, il_1103515245, ll_0, ll_1, ll_2, ll_3, ll_4, ll_5, ll_6, ll_7, ll_8, ll_9, ll_30, ll_48, ll_50, ll_57, ll_99, ll_100, ll_255, ll_399, ll_999, ll_99999, nq_bs, nq_ltS, nq_b2S, b2_id, bi_id, iI_add, iI_sub, iI_mul, iI_neg, lI_neg, iI_64, iI_lt, iI_le, iI_eq, iI_ag, iI_as, iI_ar, iI_dv, iI_rem, isOut8, in9, bo_nz, bo_t, bo_f, wr_s, wr_n, wr_k, if_pos, if_neg, ↓reduceIte, Nat.reduceAdd, Nat.reduceMul, Nat.reduceSub, Nat.reduceEqDiff, Int.reduceToNat, Int.toNat_natCast, Int.reduceNeg, Int.reduceAdd, Int.reduceSub, Int.reduceMul, isPlace8 p0 p1, isPlace9 p0m p1, areTwo8 p0 p1, areTwo9 p0m p1, isPair8 p0 p1, areFt9 p0m p1, isPact8, isPact9, isWord8 w0 w1, isWord9 w0m w1, isSheet8, isSheet9, isPart8, isPart9, qU, qL, f5', f6]
        · refine ⟨B, Mx, Mm, ?_, ?_, h⟩
          · have q := q8 1 (by omega)
            rw [f2] at q
            unfold fX8_odds
            simp (disch := omega) only [il_0, il_1, il_2, il_3, il_4, il_5, il_6, il_7, il_8, il_9, il_10, il_11, il_12, il_13, il_16, il_20, il_30, il_31, il_32, il_33, il_36, il_37, il_38, il_40, il_41, il_42, il_43, il_45, il_47, il_48, il_50, il_57, il_60, il_61, il_62, il_70, il_71, il_79, il_80, il_97, il_98, il_99, il_100, il_107, il_110, il_111, il_114, il_115, il_116, il_121, il_124, il_128, il_130, il_140, il_160, il_255, il_399, il_540, il_590, il_610, il_999, il_1000, il_1250, il_10000, il_12345, il_99999, il_1000000, il_1103515245, ll_0, ll_1, ll_2, ll_3, ll_4, ll_5, ll_6, ll_7, ll_8, ll_9, ll_30, ll_48, ll_50, ll_57, ll_99, ll_100, ll_255, ll_399, ll_999, ll_99999, nq_bs, nq_ltS, nq_b2S, b2_id, bi_id, iI_add, iI_sub, iI_mul, iI_neg, lI_neg, iI_64, iI_lt, iI_le, iI_eq, iI_ag, iI_as, iI_ar, iI_dv, iI_rem, isOut8, in9, bo_nz, bo_t, bo_f, wr_s, wr_n, wr_k, if_pos, if_neg, ↓reduceIte, Nat.reduceAdd, Nat.reduceMul, Nat.reduceSub, Nat.reduceEqDiff, Int.reduceToNat, Int.toNat_natCast, Int.reduceNeg, Int.reduceAdd, Int.reduceSub, Int.reduceMul, isPlace8 p0 p1, isPlace9 p0m p1, areTwo8 p0 p1, areTwo9 p0m p1, isPair8 p0 p1, areFt9 p0m p1, isPact8, isPact9, isWord8 w0 w1, isWord9 w0m w1, isSheet8, isSheet9, isPart8, isPart9, q]
          · unfold fX9_odds fX9_odds_L60
            simp (disch := omega) only [il_0, il_1, il_2, il_3, il_4, il_5, il_6, il_7, il_8, il_9, il_10, il_11, il_12, il_13, il_16, il_20, il_30, il_31, il_32, il_33, il_36, il_37, il_38, il_40, il_41, il_42, il_43, il_45, il_47, il_48, il_50, il_57, il_60, il_61, il_62, il_70, il_71, il_79, il_80, il_97, il_98, il_99, il_100, il_107, il_110, il_111, il_114, il_115, il_116, il_121, il_124, il_128, il_130, il_140, il_160, il_255, il_399, il_540, il_590, il_610, il_999, il_1000, il_1250, il_10000, il_12345, il_99999, il_1000000, il_1103515245, ll_0, ll_1, ll_2, ll_3, ll_4, ll_5, ll_6, ll_7, ll_8, ll_9, ll_30, ll_48, ll_50, ll_57, ll_99, ll_100, ll_255, ll_399, ll_999, ll_99999, nq_bs, nq_ltS, nq_b2S, b2_id, bi_id, iI_add, iI_sub, iI_mul, iI_neg, lI_neg, iI_64, iI_lt, iI_le, iI_eq, iI_ag, iI_as, iI_ar, iI_dv, iI_rem, isOut8, in9, bo_nz, bo_t, bo_f, wr_s, wr_n, wr_k, if_pos, if_neg, ↓reduceIte, Nat.reduceAdd, Nat.reduceMul, Nat.reduceSub, Nat.reduceEqDiff, Int.reduceToNat, Int.toNat_natCast, Int.reduceNeg, Int.reduceAdd, Int.reduceSub, Int.reduceMul, isPlace8 p0 p1, isPlace9 p0m p1, areTwo8 p0 p1, areTwo9 p0m p1, isPair8 p0 p1, areFt9 p0m p1, isPact8, isPact9, isWord8 w0 w1, isWord9 w0m w1, isSheet8, isSheet9, isPart8, isPart9, qU, qL, f5', f7]
      · exact h.refL 1 (by omega) (by omega) (by unfold fX8_odds; simp (disch := omega) only [il_0, il_1, il_2, il_3, il_4, il_5, il_6, il_7, il_8, il_9, il_10, il_11, il_12, il_13, il_16, il_20, il_30, il_31, il_32, il_33, il_36, il_37, il_38, il_40, il_41, il_42, il_43, il_45, il_47, il_48, il_50, il_57, il_60, il_61, il_62, il_70, il_71, il_79, il_80, il_97, il_98, il_99, il_100, il_107, il_110, il_111, il_114, il_115, il_116, il_121, il_124, il_128, il_130, il_140, il_160, il_255, il_399, il_540, il_590, il_610, il_999, il_1000, il_1250, il_10000, il_12345, il_99999, il_1000000, il_1103515245, ll_0, ll_1, ll_2, ll_3, ll_4, ll_5, ll_6, ll_7, ll_8, ll_9, ll_30, ll_48, ll_50, ll_57, ll_99, ll_100, ll_255, ll_399, ll_999, ll_99999, nq_bs, nq_ltS, nq_b2S, b2_id, bi_id, iI_add, iI_sub, iI_mul, iI_neg, lI_neg, iI_64, iI_lt, iI_le, iI_eq, iI_ag, iI_as, iI_ar, iI_dv, iI_rem, isOut8, in9, bo_nz, bo_t, bo_f, wr_s, wr_n, wr_k, if_pos, if_neg, ↓reduceIte, Nat.reduceAdd, Nat.reduceMul, Nat.reduceSub, Nat.reduceEqDiff, Int.reduceToNat, Int.toNat_natCast, Int.reduceNeg, Int.reduceAdd, Int.reduceSub, Int.reduceMul, isPlace8 p0 p1, isPlace9 p0m p1, areTwo8 p0 p1, areTwo9 p0m p1, isPair8 p0 p1, areFt9 p0m p1, isPact8, isPact9, isWord8 w0 w1, isWord9 w0m w1, isSheet8, isSheet9, isPart8, isPart9, h0]) (by unfold fX9_odds; simp (disch := omega) only [il_0, il_1, il_2, il_3, il_4, il_5, il_6, il_7, il_8, il_9, il_10, il_11, il_12, il_13, il_16, il_20, il_30, il_31, il_32, il_33, il_36, il_37, il_38, il_40, il_41, il_42, il_43, il_45, il_47, il_48, il_50, il_57, il_60, il_61, il_62, il_70, il_71, il_79, il_80, il_97, il_98, il_99, il_100, il_107, il_110, il_111, il_114, il_115, il_116, il_121, il_124, il_128, il_130, il_140, il_160, il_255, il_399, il_540, il_590, il_610, il_999, il_1000, il_1250, il_10000, il_12345, il_99999, il_1000000, il_1103515245, ll_0, ll_1, ll_2, ll_3, ll_4, ll_5, ll_6, ll_7, ll_8, ll_9, ll_30, ll_48, ll_50, ll_57, ll_99, ll_100, ll_255, ll_399, ll_999, ll_99999, nq_bs, nq_ltS, nq_b2S, b2_id, bi_id, iI_add, iI_sub, iI_mul, iI_neg, lI_neg, iI_64, iI_lt, iI_le, iI_eq, iI_ag, iI_as, iI_ar, iI_dv, iI_rem, isOut8, in9, bo_nz, bo_t, bo_f, wr_s, wr_n, wr_k, if_pos, if_neg, ↓reduceIte, Nat.reduceAdd, Nat.reduceMul, Nat.reduceSub, Nat.reduceEqDiff, Int.reduceToNat, Int.toNat_natCast, Int.reduceNeg, Int.reduceAdd, Int.reduceSub, Int.reduceMul, isPlace8 p0 p1, isPlace9 p0m p1, areTwo8 p0 p1, areTwo9 p0m p1, isPair8 p0 p1, areFt9 p0m p1, isPact8, isPact9, isWord8 w0 w1, isWord9 w0m w1, isSheet8, isSheet9, isPart8, isPart9, h0])
    · exact h.refL 1 (by omega) (by omega) (by unfold fX8_odds; simp (disch := omega) only [il_0, il_1, il_2, il_3, il_4, il_5, il_6, il_7, il_8, il_9, il_10, il_11, il_12, il_13, il_16, il_20, il_30, il_31, il_32, il_33, il_36, il_37, il_38, il_40, il_41, il_42, il_43, il_45, il_47, il_48, il_50, il_57, il_60, il_61, il_62, il_70, il_71, il_79, il_80, il_97, il_98, il_99, il_100, il_107, il_110, il_111, il_114, il_115, il_116, il_121, il_124, il_128, il_130, il_140, il_160, il_255, il_399, il_540, il_590, il_610, il_999, il_1000, il_1250, il_10000, il_12345, il_99999, il_1000000, il_1103515245, ll_0, ll_1, ll_2, ll_3, ll_4, ll_5, ll_6, ll_7, ll_8, ll_9, ll_30, ll_48, ll_50, ll_57, ll_99, ll_100, ll_255, ll_399, ll_999, ll_99999, nq_bs, nq_ltS, nq_b2S, b2_id, bi_id, iI_add, iI_sub, iI_mul, iI_neg, lI_neg, iI_64, iI_lt, iI_le, iI_eq, iI_ag, iI_as, iI_ar, iI_dv, iI_rem, isOut8, in9, bo_nz, bo_t, bo_f, wr_s, wr_n, wr_k, if_pos, if_neg, ↓reduceIte, Nat.reduceAdd, Nat.reduceMul, Nat.reduceSub, Nat.reduceEqDiff, Int.reduceToNat, Int.toNat_natCast, Int.reduceNeg, Int.reduceAdd, Int.reduceSub, Int.reduceMul, isPlace8 p0 p1, isPlace9 p0m p1, areTwo8 p0 p1, areTwo9 p0m p1, isPair8 p0 p1, areFt9 p0m p1, isPact8, isPact9, isWord8 w0 w1, isWord9 w0m w1, isSheet8, isSheet9, isPart8, isPart9, h0]) (by unfold fX9_odds; simp (disch := omega) only [il_0, il_1, il_2, il_3, il_4, il_5, il_6, il_7, il_8, il_9, il_10, il_11, il_12, il_13, il_16, il_20, il_30, il_31, il_32, il_33, il_36, il_37, il_38, il_40, il_41, il_42, il_43, il_45, il_47, il_48, il_50, il_57, il_60, il_61, il_62, il_70, il_71, il_79, il_80, il_97, il_98, il_99, il_100, il_107, il_110, il_111, il_114, il_115, il_116, il_121, il_124, il_128, il_130, il_140, il_160, il_255, il_399, il_540, il_590, il_610, il_999, il_1000, il_1250, il_10000, il_12345, il_99999, il_1000000, il_1103515245, ll_0, ll_1, ll_2, ll_3, ll_4, ll_5, ll_6, ll_7, ll_8, ll_9, ll_30, ll_48, ll_50, ll_57, ll_99, ll_100, ll_255, ll_399, ll_999, ll_99999, nq_bs, nq_ltS, nq_b2S, b2_id, bi_id, iI_add, iI_sub, iI_mul, iI_neg, lI_neg, iI_64, iI_lt, iI_le, iI_eq, iI_ag, iI_as, iI_ar, iI_dv, iI_rem, isOut8, in9, bo_nz, bo_t, bo_f, wr_s, wr_n, wr_k, if_pos, if_neg, ↓reduceIte, Nat.reduceAdd, Nat.reduceMul, Nat.reduceSub, Nat.reduceEqDiff, Int.reduceToNat, Int.toNat_natCast, Int.reduceNeg, Int.reduceAdd, Int.reduceSub, Int.reduceMul, isPlace8 p0 p1, isPlace9 p0m p1, areTwo8 p0 p1, areTwo9 p0m p1, isPair8 p0 p1, areFt9 p0m p1, isPact8, isPact9, isWord8 w0 w1, isWord9 w0m w1, isSheet8, isSheet9, isPart8, isPart9, h0])
  · exact h.refL 1 (by omega) (by omega) (by unfold fX8_odds; simp (disch := omega) only [il_0, il_1, il_2, il_3, il_4, il_5, il_6, il_7, il_8, il_9, il_10, il_11, il_12, il_13, il_16, il_20, il_30, il_31, il_32, il_33, il_36, il_37, il_38, il_40, il_41, il_42, il_43, il_45, il_47, il_48, il_50, il_57, il_60, il_61, il_62, il_70, il_71, il_79, il_80, il_97, il_98, il_99, il_100, il_107, il_110, il_111, il_114, il_115, il_116, il_121, il_124, il_128, il_130, il_140, il_160, il_255, il_399, il_540, il_590, il_610, il_999, il_1000, il_1250, il_10000, il_12345, il_99999, il_1000000, il_1103515245, ll_0, ll_1, ll_2, ll_3, ll_4, ll_5, ll_6, ll_7, ll_8, ll_9, ll_30, ll_48, ll_50, ll_57, ll_99, ll_100, ll_255, ll_399, ll_999, ll_99999, nq_bs, nq_ltS, nq_b2S, b2_id, bi_id, iI_add, iI_sub, iI_mul, iI_neg, lI_neg, iI_64, iI_lt, iI_le, iI_eq, iI_ag, iI_as, iI_ar, iI_dv, iI_rem, isOut8, in9, bo_nz, bo_t, bo_f, wr_s, wr_n, wr_k, if_pos, if_neg, ↓reduceIte, Nat.reduceAdd, Nat.reduceMul, Nat.reduceSub, Nat.reduceEqDiff, Int.reduceToNat, Int.toNat_natCast, Int.reduceNeg, Int.reduceAdd, Int.reduceSub, Int.reduceMul, isPlace8 p0 p1, isPlace9 p0m p1, areTwo8 p0 p1, areTwo9 p0m p1, isPair8 p0 p1, areFt9 p0m p1, isPact8, isPact9, isWord8 w0 w1, isWord9 w0m w1, isSheet8, isSheet9, isPart8, isPart9, h0]) (by unfold fX9_odds; simp (disch := omega) only [il_0, il_1, il_2, il_3, il_4, il_5, il_6, il_7, il_8, il_9, il_10, il_11, il_12, il_13, il_16, il_20, il_30, il_31, il_32, il_33, il_36, il_37, il_38, il_40, il_41, il_42, il_43, il_45, il_47, il_48, il_50, il_57, il_60, il_61, il_62, il_70, il_71, il_79, il_80, il_97, il_98, il_99, il_100, il_107, il_110, il_111, il_114, il_115, il_116, il_121, il_124, il_128, il_130, il_140, il_160, il_255, il_399, il_540, il_590, il_610, il_999, il_1000, il_1250, il_10000, il_12345, il_99999, il_1000000, il_1103515245, ll_0, ll_1, ll_2, ll_3, ll_4, ll_5, ll_6, ll_7, ll_8, ll_9, ll_30, ll_48, ll_50, ll_57, ll_99, ll_100, ll_255, ll_399, ll_999, ll_99999, nq_bs, nq_ltS, nq_b2S, b2_id, bi_id, iI_add, iI_sub, iI_mul, iI_neg, lI_neg, iI_64, iI_lt, iI_le, iI_eq, iI_ag, iI_as, iI_ar, iI_dv, iI_rem, isOut8, in9, bo_nz, bo_t, bo_f, wr_s, wr_n, wr_k, if_pos, if_neg, ↓reduceIte, Nat.reduceAdd, Nat.reduceMul, Nat.reduceSub, Nat.reduceEqDiff, Int.reduceToNat, Int.toNat_natCast, Int.reduceNeg, Int.reduceAdd, Int.reduceSub, Int.reduceMul, isPlace8 p0 p1, isPlace9 p0m p1, areTwo8 p0 p1, areTwo9 p0m p1, isPair8 p0 p1, areFt9 p0m p1, isPact8, isPact9, isWord8 w0 w1, isWord9 w0m w1, isSheet8, isSheet9, isPart8, isPart9, h0])
theorem hop_enough (a0 a1 : Int32) (Mx Mm : Mem) (h : RR Mx Mm) : ∃ (r : Int32) (Mx1 Mm1 : Mem), fX8_enough a0 a1 Mx = some (r, Mx1) ∧ fX9_enough a0 a1 Mm = some (r, Mm1) ∧ RR Mx1 Mm1 := by
  obtain ⟨D, hc⟩ := h.1
  have hc' := hc
  obtain ⟨h0, hS, hR, hL, hA, hT⟩ := hc'
  have p0 : Mx 3 0 = iI (D 1) := hR.1
  have p1 := hR.2.1
  have p0m : Mm 1 1 = iI (D 1) := h0 1 (by omega)
  have w0m : Mm 1 2 = iI (D 2) := h0 2 (by omega)
  have w0 : Mx 6 0 = iI (D 2) := hL.1
  have w1 := hL.2.1
  obtain ⟨⟨s0, s5, s6, s7, s4, s9, s3, s10⟩, s0', s4', s5', s6', s7', s8', s9', s3', s10'⟩ := hS
  have hS := hc.2.1
  obtain ⟨x, hx, rfl⟩ := iI_of a0
  obtain ⟨y, hy, rfl⟩ := iI_of a1
  by_cases g1 : 1 ≤ x ∧ x ≤ 4
  · by_cases g2 : 0 ≤ y ∧ y ≤ 100
    · obtain ⟨r, r', l1, l2, hq⟩ := lp_two (body := fun s : Int32 => fX8_enough_B27 (iI x) (iI y) s Mx) (body' := fun s : Int32 => fX9_enough_B32 (iI x) (iI y) s Mm) (s := iI 1) (t := iI 1) 4 (fun k s t => s = iI (k + 1) ∧ t = iI (k + 1)) (fun r r' => (r = .inl () ∧ r' = .inl ()) ∨ ∃ v, r = .inr (v, Mx) ∧ r' = .inr (v, Mm)) (by omega) ⟨rfl, rfl⟩
        (by
          rintro k s t hk ⟨rfl, rfl⟩
          obtain ⟨A, B, U, L, G, f1, f2, f3, f4, f5, f6, f7, f8, f9⟩ := oF (m := D 7) (n := D 8) (a := x) (b := (k : Int) + 1) s7' s8' g1 (by omega)
          have q0 := odds8 (a := x) (b := (k : Int) + 1) (c := 0) s7 s7' s8' hx (by omega) (by omega)
          have q1 := odds8 (a := x) (b := (k : Int) + 1) (c := 1) s7 s7' s8' hx (by omega) (by omega)
          have qU := oddsUp9 (a := x) (b := (k : Int) + 1) (h0 7 (by omega)) (h0 8 (by omega)) s7' s8'
          have qL := oddsLow9 (a := x) (b := (k : Int) + 1) (h0 8 (by omega)) s8'
          rw [f1] at q0
          rw [f2] at q1
          rw [f3] at qU
          rw [f4] at qL
          have eA : A = lI A.toInt := (Int64.ofInt_toInt A).symm
          have eB : B = lI B.toInt := (Int64.ofInt_toInt B).symm
          have eU : U = lI U.toInt := (Int64.ofInt_toInt U).symm
          have eL : L = lI L.toInt := (Int64.ofInt_toInt L).symm
          generalize A.toInt = A' at *
          generalize B.toInt = B' at *
          generalize U.toInt = U' at *
          generalize L.toInt = L' at *
          subst eA eB eU eL
          obtain ⟨b1, b2, b3, b4, b5, b6, b7, b8⟩ := f9
          have m1 : 0 ≤ B' * y ∧ B' * y ≤ 10000000000000000 * 100 := ⟨Int.mul_nonneg (by omega) g2.1, Int.mul_le_mul b4 g2.2 g2.1 (by omega)⟩
          have m2 : 0 ≤ y * L' ∧ y * L' ≤ 100 * 10000000000000000 := ⟨Int.mul_nonneg g2.1 (by omega), Int.mul_le_mul g2.2 b8 (by omega) (by omega)⟩
          have hiff : A' * 100 < B' * y ↔ 100 * U' < y * L' := by
            have e1 : A' * 100 * L' = 100 * U' * B' := by
              rw [Int.mul_right_comm, f8, Int.mul_right_comm, Int.mul_comm U' 100]
            have e2 : B' * y * L' = y * L' * B' := by
              rw [Int.mul_assoc, Int.mul_comm]
            constructor
            · intro q
              have := Int.mul_lt_mul_of_pos_right q b7
              rw [e1, e2] at this
              exact Int.lt_of_mul_lt_mul_right this (by omega)
            · intro q
              have := Int.mul_lt_mul_of_pos_right q b3
              rw [← e1, ← e2] at this
              exact Int.lt_of_mul_lt_mul_right this (by omega)
          have c8 : (lg_cmp (lI A' * (100 : Int64)) (lI B' * lI y) < iI 0) ↔ A' * 100 < B' * y := by
            rw [ll_100, lI_mul, lI_mul]
            refine lgc_lt.trans ?_
            rw [lI_toInt (by omega), lI_toInt (by omega)]
          have c9 : (lg_cmp ((100 : Int64) * lI U') (lI y * lI L') < iI 0) ↔ 100 * U' < y * L' := by
            rw [ll_100, lI_mul, lI_mul]
            refine lgc_lt.trans ?_
            rw [lI_toInt (by omega), lI_toInt (by omega)]
          have t4 : ¬ iI 4 < iI ((k : Int) + 1) := by rw [iI_lt (by omega) (by omega)]; omega
          by_cases c : 100 * U' < y * L'
          · left
            refine ⟨iI ((k + 1 : Nat) + 1), iI ((k + 1 : Nat) + 1), ?_, ?_, rfl, rfl⟩
            · show fX8_enough_B27 (iI x) (iI y) (iI ((k : Int) + 1)) Mx = _
              unfold fX8_enough_B27
              rw [il_4, if_neg t4, il_0, q0, nq_bs, il_1, q1, nq_bs, iI_64 hy, if_pos (c8.mpr (hiff.mpr c)), nq_ltS, iI_add]
              rfl
            · show fX9_enough_B32 (iI x) (iI y) (iI ((k : Int) + 1)) Mm = _
              unfold fX9_enough_B32
              rw [il_4, if_neg t4, qU, nq_bs, qL, nq_bs, iI_64 hy, il_0, if_pos (c9.mpr c), nq_ltS, il_1, iI_add]
              rfl
          · right
            refine ⟨.inr (iI ((k : Int) + 1), Mx), .inr (iI ((k : Int) + 1), Mm), ?_, ?_, Or.inr ⟨_, rfl, rfl⟩⟩
            · show fX8_enough_B27 (iI x) (iI y) (iI ((k : Int) + 1)) Mx = _
              unfold fX8_enough_B27
              rw [il_4, if_neg t4, il_0, q0, nq_bs, il_1, q1, nq_bs, iI_64 hy, if_neg (fun q => c (hiff.mp (c8.mp q)))]
            · show fX9_enough_B32 (iI x) (iI y) (iI ((k : Int) + 1)) Mm = _
              unfold fX9_enough_B32
              rw [il_4, if_neg t4, qU, nq_bs, qL, nq_bs, iI_64 hy, il_0, if_neg (fun q => c (c9.mp q))])
        (by
          rintro s t ⟨rfl, rfl⟩
          exact ⟨.inl (), .inl (), rfl, rfl, Or.inl ⟨rfl, rfl⟩⟩)
      rcases hq with ⟨rfl, rfl⟩ | ⟨v, rfl, rfl⟩
      · refine h.ref 2 (by omega) (by omega) ?_ ?_
        · unfold fX8_enough fX8_enough_L27 fX8_enough_L65
          simp (disch := omega) only [il_0, il_1, il_2, il_3, il_4, il_5, il_6, il_7, il_8, il_9, il_10, il_11, il_12, il_13, il_16, il_20, il_30, il_31, il_32, il_33, il_36, il_37, il_38, il_40, il_41, il_42, il_43, il_45, il_47, il_48, il_50, il_57, il_60, il_61, il_62, il_70, il_71, il_79, il_80, il_97, il_98, il_99, il_100, il_107, il_110, il_111, il_114, il_115, il_116, il_121, il_124, il_128, il_130, il_140, il_160, il_255, il_399, il_540, il_590, il_610, il_999, il_1000, il_1250, il_10000, il_12345, il_99999, il_1000000, il_1103515245, ll_0, ll_1, ll_2, ll_3, ll_4, ll_5, ll_6, ll_7, ll_8, ll_9, ll_30, ll_48, ll_50, ll_57, ll_99, ll_100, ll_255, ll_399, ll_999, ll_99999, nq_bs, nq_ltS, nq_b2S, b2_id, bi_id, iI_add, iI_sub, iI_mul, iI_neg, lI_neg, iI_64, iI_lt, iI_le, iI_eq, iI_ag, iI_as, iI_ar, iI_dv, iI_rem, isOut8, in9, bo_nz, bo_t, bo_f, wr_s, wr_n, wr_k, if_pos, if_neg, ↓reduceIte, Nat.reduceAdd, Nat.reduceMul, Nat.reduceSub, Nat.reduceEqDiff, Int.reduceToNat, Int.toNat_natCast, Int.reduceNeg, Int.reduceAdd, Int.reduceSub, Int.reduceMul, l1, Sum.elim_inl]
        · unfold fX9_enough fX9_enough_L32 fX9_enough_L68
          simp (disch := omega) only [il_0, il_1, il_2, il_3, il_4, il_5, il_6, il_7, il_8, il_9, il_10, il_11, il_12, il_13, il_16, il_20, il_30, il_31, il_32, il_33, il_36, il_37, il_38, il_40, il_41, il_42, il_43, il_45, il_47, il_48, il_50, il_57, il_60, il_61, il_62, il_70, il_71, il_79, il_80, il_97, il_98, il_99, il_100, il_107, il_110, il_111, il_114, il_115, il_116, il_121, il_124, il_128, il_130, il_140, il_160, il_255, il_399, il_540, il_590, il_610, il_999, il_1000, il_1250, il_10000, il_12345, il_99999, il_1000000, il_1103515245, ll_0, ll_1, ll_2, ll_3, ll_4, ll_5, ll_6, ll_7, ll_8, ll_9, ll_30, ll_48, ll_50, ll_57, ll_99, ll_100, ll_255, ll_399, ll_999, ll_99999, nq_bs, nq_ltS, nq_b2S, b2_id, bi_id, iI_add, iI_sub, iI_mul, iI_neg, lI_neg, iI_64, iI_lt, iI_le, iI_eq, iI_ag, iI_as, iI_ar, iI_dv, iI_rem, isOut8, in9, bo_nz, bo_t, bo_f, wr_s, wr_n, wr_k, if_pos, if_neg, ↓reduceIte, Nat.reduceAdd, Nat.reduceMul, Nat.reduceSub, Nat.reduceEqDiff, Int.reduceToNat, Int.toNat_natCast, Int.reduceNeg, Int.reduceAdd, Int.reduceSub, Int.reduceMul, l2, Sum.elim_inl]
      · refine ⟨v, Mx, Mm, ?_, ?_, h⟩
        · unfold fX8_enough fX8_enough_L27 fX8_enough_L65
          simp (disch := omega) only [il_0, il_1, il_2, il_3, il_4, il_5, il_6, il_7, il_8, il_9, il_10, il_11, il_12, il_13, il_16, il_20, il_30, il_31, il_32, il_33, il_36, il_37, il_38, il_40, il_41, il_42, il_43, il_45, il_47, il_48, il_50, il_57, il_60, il_61, il_62, il_70, il_71, il_79, il_80, il_97, il_98, il_99, il_100, il_107, il_110, il_111, il_114, il_115, il_116, il_121, il_124, il_128, il_130, il_140, il_160, il_255, il_399, il_540, il_590, il_610, il_999, il_1000, il_1250, il_10000, il_12345, il_99999, il_1000000, il_1103515245, ll_0, ll_1, ll_2, ll_3, ll_4, ll_5, ll_6, ll_7, ll_8, ll_9, ll_30, ll_48, ll_50, ll_57, ll_99, ll_100, ll_255, ll_399, ll_999, ll_99999, nq_bs, nq_ltS, nq_b2S, b2_id, bi_id, iI_add, iI_sub, iI_mul, iI_neg, lI_neg, iI_64, iI_lt, iI_le, iI_eq, iI_ag, iI_as, iI_ar, iI_dv, iI_rem, isOut8, in9, bo_nz, bo_t, bo_f, wr_s, wr_n, wr_k, if_pos, if_neg, ↓reduceIte, Nat.reduceAdd, Nat.reduceMul, Nat.reduceSub, Nat.reduceEqDiff, Int.reduceToNat, Int.toNat_natCast, Int.reduceNeg, Int.reduceAdd, Int.reduceSub, Int.reduceMul, l1, Sum.elim_inr]
        · unfold fX9_enough fX9_enough_L32 fX9_enough_L68
          simp (disch := omega) only [il_0, il_1, il_2, il_3, il_4, il_5, il_6, il_7, il_8, il_9, il_10, il_11, il_12, il_13, il_16, il_20, il_30, il_31, il_32, il_33, il_36, il_37, il_38, il_40, il_41, il_42, il_43, il_45, il_47, il_48, il_50, il_57, il_60, il_61, il_62, il_70, il_71, il_79, il_80, il_97, il_98, il_99, il_100, il_107, il_110, il_111, il_114, il_115, il_116, il_121, il_124, il_128, il_130, il_140, il_160, il_255, il_399, il_540, il_590, il_610, il_999, il_1000, il_1250, il_10000, il_12345, il_99999, il_1000000, il_1103515245, ll_0, ll_1, ll_2, ll_3, ll_4, ll_5, ll_6, ll_7, ll_8, ll_9, ll_30, ll_48, ll_50, ll_57, ll_99, ll_100, ll_255, ll_399, ll_999, ll_99999, nq_bs, nq_ltS, nq_b2S, b2_id, bi_id, iI_add, iI_sub, iI_mul, iI_neg, lI_neg, iI_64, iI_lt, iI_le, iI_eq, iI_ag, iI_as, iI_ar, iI_dv, iI_rem, isOut8, in9, bo_nz, bo_t, bo_f, wr_s, wr_n, wr_k, if_pos, if_neg, ↓reduceIte, Nat.reduceAdd, Nat.reduceMul, Nat.reduceSub, Nat.reduceEqDiff, Int.reduceToNat, Int.toNat_natCast, Int.reduceNeg, Int.reduceAdd, Int.reduceSub, Int.reduceMul, l2, Sum.elim_inr]
    · exact h.ref 1 (by omega) (by omega) (by unfold fX8_enough; simp (disch := omega) only [il_0, il_1, il_2, il_3, il_4, il_5, il_6, il_7, il_8, il_9, il_10, il_11, il_12, il_13, il_16, il_20, il_30, il_31, il_32, il_33, il_36, il_37, il_38, il_40, il_41, il_42, il_43, il_45, il_47, il_48, il_50, il_57, il_60, il_61, il_62, il_70, il_71, il_79, il_80, il_97, il_98, il_99, il_100, il_107, il_110, il_111, il_114, il_115, il_116, il_121, il_124, il_128, il_130, il_140, il_160, il_255, il_399, il_540, il_590, il_610, il_999, il_1000, il_1250, il_10000, il_12345, il_99999, il_1000000, il_1103515245, ll_0, ll_1, ll_2, ll_3, ll_4, ll_5, ll_6, ll_7, ll_8, ll_9, ll_30, ll_48, ll_50, ll_57, ll_99, ll_100, ll_255, ll_399, ll_999, ll_99999, nq_bs, nq_ltS, nq_b2S, b2_id, bi_id, iI_add, iI_sub, iI_mul, iI_neg, lI_neg, iI_64, iI_lt, iI_le, iI_eq, iI_ag, iI_as, iI_ar, iI_dv, iI_rem, isOut8, in9, bo_nz, bo_t, bo_f, wr_s, wr_n, wr_k, if_pos, if_neg, ↓reduceIte, Nat.reduceAdd, Nat.reduceMul, Nat.reduceSub, Nat.reduceEqDiff, Int.reduceToNat, Int.toNat_natCast, Int.reduceNeg, Int.reduceAdd, Int.reduceSub, Int.reduceMul, isPlace8 p0 p1, isPlace9 p0m p1, areTwo8 p0 p1, areTwo9 p0m p1, isPair8 p0 p1, areFt9 p0m p1, isPact8, isPact9, isWord8 w0 w1, isWord9 w0m w1, isSheet8, isSheet9, isPart8, isPart9, h0]) (by unfold fX9_enough; simp (disch := omega) only [il_0, il_1, il_2, il_3, il_4, il_5, il_6, il_7, il_8, il_9, il_10, il_11, il_12, il_13, il_16, il_20, il_30, il_31, il_32, il_33, il_36, il_37, il_38, il_40, il_41, il_42, il_43, il_45, il_47, il_48, il_50, il_57, il_60, il_61, il_62, il_70, il_71, il_79, il_80, il_97, il_98, il_99, il_100, il_107, il_110, il_111, il_114, il_115, il_116, il_121, il_124, il_128, il_130, il_140, il_160, il_255, il_399, il_540, il_590, il_610, il_999, il_1000, il_1250, il_10000, il_12345, il_99999, il_1000000, il_1103515245, ll_0, ll_1, ll_2, ll_3, ll_4, ll_5, ll_6, ll_7, ll_8, ll_9, ll_30, ll_48, ll_50, ll_57, ll_99, ll_100, ll_255, ll_399, ll_999, ll_99999, nq_bs, nq_ltS, nq_b2S, b2_id, bi_id, iI_add, iI_sub, iI_mul, iI_neg, lI_neg, iI_64, iI_lt, iI_le, iI_eq, iI_ag, iI_as, iI_ar, iI_dv, iI_rem, isOut8, in9, bo_nz, bo_t, bo_f, wr_s, wr_n, wr_k, if_pos, if_neg, ↓reduceIte, Nat.reduceAdd, Nat.reduceMul, Nat.reduceSub, Nat.reduceEqDiff, Int.reduceToNat, Int.toNat_natCast, Int.reduceNeg, Int.reduceAdd, Int.reduceSub, Int.reduceMul, isPlace8 p0 p1, isPlace9 p0m p1, areTwo8 p0 p1, areTwo9 p0m p1, isPair8 p0 p1, areFt9 p0m p1, isPact8, isPact9, isWord8 w0 w1, isWord9 w0m w1, isSheet8, isSheet9, isPart8, isPart9, h0])
  · exact h.ref 1 (by omega) (by omega) (by unfold fX8_enough; simp (disch := omega) only [il_0, il_1, il_2, il_3, il_4, il_5, il_6, il_7, il_8, il_9, il_10, il_11, il_12, il_13, il_16, il_20, il_30, il_31, il_32, il_33, il_36, il_37, il_38, il_40, il_41, il_42, il_43, il_45, il_47, il_48, il_50, il_57, il_60, il_61, il_62, il_70, il_71, il_79, il_80, il_97, il_98, il_99, il_100, il_107, il_110, il_111, il_114, il_115, il_116, il_121, il_124, il_128, il_130, il_140, il_160, il_255, il_399, il_540, il_590, il_610, il_999, il_1000, il_1250, il_10000, il_12345, il_99999, il_1000000, il_1103515245, ll_0, ll_1, ll_2, ll_3, ll_4, ll_5, ll_6, ll_7, ll_8, ll_9, ll_30, ll_48, ll_50, ll_57, ll_99, ll_100, ll_255, ll_399, ll_999, ll_99999, nq_bs, nq_ltS, nq_b2S, b2_id, bi_id, iI_add, iI_sub, iI_mul, iI_neg, lI_neg, iI_64, iI_lt, iI_le, iI_eq, iI_ag, iI_as, iI_ar, iI_dv, iI_rem, isOut8, in9, bo_nz, bo_t, bo_f, wr_s, wr_n, wr_k, if_pos, if_neg, ↓reduceIte, Nat.reduceAdd, Nat.reduceMul, Nat.reduceSub, Nat.reduceEqDiff, Int.reduceToNat, Int.toNat_natCast, Int.reduceNeg, Int.reduceAdd, Int.reduceSub, Int.reduceMul, isPlace8 p0 p1, isPlace9 p0m p1, areTwo8 p0 p1, areTwo9 p0m p1, isPair8 p0 p1, areFt9 p0m p1, isPact8, isPact9, isWord8 w0 w1, isWord9 w0m w1, isSheet8, isSheet9, isPart8, isPart9, h0]) (by unfold fX9_enough; simp (disch := omega) only [il_0, il_1, il_2, il_3, il_4, il_5, il_6, il_7, il_8, il_9, il_10, il_11, il_12, il_13, il_16, il_20, il_30, il_31, il_32, il_33, il_36, il_37, il_38, il_40, il_41, il_42, il_43, il_45, il_47, il_48, il_50, il_57, il_60, il_61, il_62, il_70, il_71, il_79, il_80, il_97, il_98, il_99, il_100, il_107, il_110, il_111, il_114, il_115, il_116, il_121, il_124, il_128, il_130, il_140, il_160, il_255, il_399, il_540, il_590, il_610, il_999, il_1000, il_1250, il_10000, il_12345, il_99999, il_1000000, il_1103515245, ll_0, ll_1, ll_2, ll_3, ll_4, ll_5, ll_6, ll_7, ll_8, ll_9, ll_30, ll_48, ll_50, ll_57, ll_99, ll_100, ll_255, ll_399, ll_999, ll_99999, nq_bs, nq_ltS, nq_b2S, b2_id, bi_id, iI_add, iI_sub, iI_mul, iI_neg, lI_neg, iI_64, iI_lt, iI_le, iI_eq, iI_ag, iI_as, iI_ar, iI_dv, iI_rem, isOut8, in9, bo_nz, bo_t, bo_f, wr_s, wr_n, wr_k, if_pos, if_neg, ↓reduceIte, Nat.reduceAdd, Nat.reduceMul, Nat.reduceSub, Nat.reduceEqDiff, Int.reduceToNat, Int.toNat_natCast, Int.reduceNeg, Int.reduceAdd, Int.reduceSub, Int.reduceMul, isPlace8 p0 p1, isPlace9 p0m p1, areTwo8 p0 p1, areTwo9 p0m p1, isPair8 p0 p1, areFt9 p0m p1, isPact8, isPact9, isWord8 w0 w1, isWord9 w0m w1, isSheet8, isSheet9, isPart8, isPart9, h0])
def h8 (m n a c : Int) : Option Int64 := (fX8_power (lI n) (iI a) (fun _ _ => 0)).bind fun v16 => (fX8_power (lI (n - 2 * m)) (iI a) (fun _ _ => 0)).bind fun v18 => fX8_lowest (v16 + v18) ((2 : Int64) * v16) (iI c) (fun _ _ => 0)
def h9B (m n : Int) (a : Int32) (s : Int64 × Int64 × Int32) : Option ((Int64 × Int64 × Int32) ⊕ (Int64 × Int64)) := if a ≤ s.2.2 then some (.inr (s.1, s.2.1)) else some (.inl (s.1 * lI (n - m) + s.2.1 * lI m, s.2.1 * lI (n - m) + s.1 * lI m, s.2.2 + 1))
def h9 (m n a : Int) (c : Int32) : Option Int64 := (nq_lp (h9B m n (iI a)) nq_fuel ((1 : Int64), (0 : Int64), (0 : Int32))).bind fun e => (fX9_common e.1 (e.1 + e.2) (fun _ _ => 0)).bind fun v35 => if c = 0 then nq_dvL e.1 v35 else nq_dvL (e.1 + e.2) v35
def hChk (m n a c : Int) : Bool := decide (h8 m n a c = h9 m n a (iI c)) && (h8 m n a c).isSome
theorem hT2 : ∀ n, n < 6 → ∀ m, m < 7 → m ≤ n + 1 → ∀ a, a < 9 → ∀ c, c < 2 → hChk ((m : Nat) : Int) ((n + 1 : Nat) : Int) ((a : Nat) : Int) ((c : Nat) : Int) = true := by decide +kernel
theorem hop_heirs (a0 a1 a2 : Int32) (Mx Mm : Mem) (h : RR Mx Mm) : ∃ (r : Int64) (Mx1 Mm1 : Mem), fX8_heirs a0 a1 a2 Mx = some (r, Mx1) ∧ fX9_heirs a0 a1 a2 Mm = some (r, Mm1) ∧ RR Mx1 Mm1 := by
  obtain ⟨D, hc⟩ := h.1
  have hc' := hc
  obtain ⟨h0, hS, hR, hL, hA, hT⟩ := hc'
  have p0 : Mx 3 0 = iI (D 1) := hR.1
  have p1 := hR.2.1
  have p0m : Mm 1 1 = iI (D 1) := h0 1 (by omega)
  have w0m : Mm 1 2 = iI (D 2) := h0 2 (by omega)
  have w0 : Mx 6 0 = iI (D 2) := hL.1
  have w1 := hL.2.1
  obtain ⟨⟨s0, s5, s6, s7, s4, s9, s3, s10⟩, s0', s4', s5', s6', s7', s8', s9', s3', s10'⟩ := hS
  have hS := hc.2.1
  obtain ⟨x, hx, rfl⟩ := iI_of a0
  obtain ⟨y, hy, rfl⟩ := iI_of a1
  obtain ⟨z, hz, rfl⟩ := iI_of a2
  by_cases g1 : 0 ≤ x ∧ x ≤ 8
  · by_cases g2 : partP y 6
    · have g2' : partP y 9 := by unfold partP at *; omega
      have g2'' := g2
      unfold partP at g2''
      by_cases g3 : 0 ≤ z ∧ z ≤ 1
      · obtain ⟨x', rfl⟩ := Int.eq_ofNat_of_zero_le g1.1
        obtain ⟨z', rfl⟩ := Int.eq_ofNat_of_zero_le g3.1
        obtain ⟨m, hm⟩ : ∃ m : Nat, y / 10 = m := ⟨(y / 10).toNat, by omega⟩
        obtain ⟨n, hn⟩ : ∃ n : Nat, y % 10 = ((n + 1 : Nat) : Int) := ⟨(y % 10 - 1).toNat, by omega⟩
        have t0 := hT2 n (by omega) m (by omega) (by omega) x' (by omega) z' (by omega)
        unfold hChk at t0
        rw [Bool.and_eq_true, decide_eq_true_eq] at t0
        obtain ⟨t1, t2⟩ := t0
        cases e8 : h8 (m : Int) ((n + 1 : Nat) : Int) (x' : Int) (z' : Int) with
        | none => rw [e8] at t2; cases t2
        | some v =>
          rw [e8] at t1
          refine ⟨v, Mx, Mm, ?_, ?_, h⟩
          · unfold fX8_heirs
            simp (disch := omega) only [nq_ltS, nq_bs, il_0, il_1, il_2, il_3, il_4, il_5, il_6, il_7, il_8, il_9, il_10, il_11, il_12, il_13, il_16, il_20, il_30, il_31, il_32, il_33, il_36, il_37, il_38, il_40, il_41, il_42, il_43, il_45, il_47, il_48, il_50, il_57, il_60, il_61, il_62, il_70, il_71, il_79, il_80, il_97, il_98, il_99, il_100, il_107, il_110, il_111, il_114, il_115, il_116, il_121, il_124, il_128, il_130, il_140, il_160, il_255, il_399, il_540, il_590, il_610, il_999, il_1000, il_1250, il_10000, il_12345, il_99999, il_1000000, il_1103515245, ll_0, ll_1, ll_2, ll_3, ll_4, ll_5, ll_6, ll_7, ll_8, ll_9, ll_30, ll_48, ll_50, ll_57, ll_99, ll_100, ll_255, ll_399, ll_999, ll_99999, isOut8, bo_f, isPart8, bo_t g2, if_pos, if_neg, iI_eq, iI_dv, iI_rem, hm, hn, iI_mul, iI_sub, iI_64, ↓reduceIte]
            unfold h8 at e8
            rw [pw8M (M := Mx)]
            cases p1 : fX8_power (lI ((n + 1 : Nat) : Int)) (iI (x' : Int)) (fun _ _ => 0) with
            | none => rw [p1] at e8; cases e8
            | some w1 =>
              rw [p1] at e8
              rw [nq_bs] at e8 ⊢
              rw [pw8M (M := Mx)]
              cases p2 : fX8_power (lI (((n + 1 : Nat) : Int) - 2 * (m : Int))) (iI (x' : Int)) (fun _ _ => 0) with
              | none => rw [p2] at e8; cases e8
              | some w2 =>
                rw [p2] at e8
                rw [nq_bs] at e8 ⊢
                rw [lw8M (M := Mx)]
                rw [ll_2] at e8
                rw [e8, nq_bs]
          · have hb : ∀ s : Int64 × Int64 × Int32, fX9_heirs_B54 (iI (x' : Int)) (iI y) (iI (z' : Int)) s.1 s.2.1 s.2.2 Mm = h9B (m : Int) ((n + 1 : Nat) : Int) (iI (x' : Int)) s := by
              intro s
              unfold fX9_heirs_B54 h9B
              simp (disch := omega) only [nq_ltS, nq_bs, il_10, iI_dv, iI_rem, hm, hn, iI_sub, iI_64]
            have hl : (fun s : Int64 × Int64 × Int32 => fX9_heirs_B54 (iI (x' : Int)) (iI y) (iI (z' : Int)) s.1 s.2.1 s.2.2 Mm) = h9B (m : Int) ((n + 1 : Nat) : Int) (iI (x' : Int)) := funext hb
            have n6 : ¬ 6 < (((n + 1 : Nat) : Int)) := by omega
            unfold fX9_heirs
            simp (disch := omega) only [nq_ltS, nq_bs, il_0, il_1, il_2, il_3, il_4, il_5, il_6, il_7, il_8, il_9, il_10, il_11, il_12, il_13, il_16, il_20, il_30, il_31, il_32, il_33, il_36, il_37, il_38, il_40, il_41, il_42, il_43, il_45, il_47, il_48, il_50, il_57, il_60, il_61, il_62, il_70, il_71, il_79, il_80, il_97, il_98, il_99, il_100, il_107, il_110, il_111, il_114, il_115, il_116, il_121, il_124, il_128, il_130, il_140, il_160, il_255, il_399, il_540, il_590, il_610, il_999, il_1000, il_1250, il_10000, il_12345, il_99999, il_1000000, il_1103515245, ll_0, ll_1, ll_2, ll_3, ll_4, ll_5, ll_6, ll_7, ll_8, ll_9, ll_30, ll_48, ll_50, ll_57, ll_99, ll_100, ll_255, ll_399, ll_999, ll_99999, in9, iI_64, bo_t, isPart9, bo_t g2', if_pos, if_neg, iI_eq, iI_rem, hn, iI_lt, ↓reduceIte]
            unfold fX9_heirs_L54 fX9_heirs_L118
            unfold h9 at t1
            rw [hl]
            rw [← ll_1, ← ll_0, ← il_0]
            cases p1 : nq_lp (h9B (m : Int) ((n + 1 : Nat) : Int) (iI (x' : Int))) nq_fuel ((1 : Int64), (0 : Int64), (0 : Int32)) with
            | none => rw [p1] at t1; cases t1
            | some w1 =>
              rw [p1] at t1
              rw [nq_bs] at t1 ⊢
              rw [cm9M (M := Mm)]
              cases p2 : fX9_common w1.1 (w1.1 + w1.2) (fun _ _ => 0) with
              | none => rw [p2] at t1; cases t1
              | some w2 =>
                rw [p2] at t1
                rw [nq_bs] at t1 ⊢
                by_cases cz : iI (z' : Int) = 0
                · rw [if_pos cz] at t1 ⊢
                  rw [← t1, nq_bs]
                · rw [if_neg cz] at t1 ⊢
                  rw [← t1, nq_bs]
      · exact h.refL 1 (by omega) (by omega) (by unfold fX8_heirs; simp (disch := omega) only [il_0, il_1, il_2, il_3, il_4, il_5, il_6, il_7, il_8, il_9, il_10, il_11, il_12, il_13, il_16, il_20, il_30, il_31, il_32, il_33, il_36, il_37, il_38, il_40, il_41, il_42, il_43, il_45, il_47, il_48, il_50, il_57, il_60, il_61, il_62, il_70, il_71, il_79, il_80, il_97, il_98, il_99, il_100, il_107, il_110, il_111, il_114, il_115, il_116, il_121, il_124, il_128, il_130, il_140, il_160, il_255, il_399, il_540, il_590, il_610, il_999, il_1000, il_1250, il_10000, il_12345, il_99999, il_1000000, il_1103515245, ll_0, ll_1, ll_2, ll_3, ll_4, ll_5, ll_6, ll_7, ll_8, ll_9, ll_30, ll_48, ll_50, ll_57, ll_99, ll_100, ll_255, ll_399, ll_999, ll_99999, nq_bs, nq_ltS, nq_b2S, b2_id, bi_id, iI_add, iI_sub, iI_mul, iI_neg, lI_neg, iI_64, iI_lt, iI_le, iI_eq, iI_ag, iI_as, iI_ar, iI_dv, iI_rem, isOut8, in9, bo_nz, bo_t, bo_f, wr_s, wr_n, wr_k, if_pos, if_neg, ↓reduceIte, Nat.reduceAdd, Nat.reduceMul, Nat.reduceSub, Nat.reduceEqDiff, Int.reduceToNat, Int.toNat_natCast, Int.reduceNeg, Int.reduceAdd, Int.reduceSub, Int.reduceMul, isPlace8 p0 p1, isPlace9 p0m p1, areTwo8 p0 p1, areTwo9 p0m p1, isPair8 p0 p1, areFt9 p0m p1, isPact8, isPact9, isWord8 w0 w1, isWord9 w0m w1, isSheet8, isSheet9, isPart8, isPart9, bo_t g2]) (by unfold fX9_heirs; have n6 : ¬ 6 < y % 10 := (by omega); simp (disch := omega) only [il_0, il_1, il_2, il_3, il_4, il_5, il_6, il_7, il_8, il_9, il_10, il_11, il_12, il_13, il_16, il_20, il_30, il_31, il_32, il_33, il_36, il_37, il_38, il_40, il_41, il_42, il_43, il_45, il_47, il_48, il_50, il_57, il_60, il_61, il_62, il_70, il_71, il_79, il_80, il_97, il_98, il_99, il_100, il_107, il_110, il_111, il_114, il_115, il_116, il_121, il_124, il_128, il_130, il_140, il_160, il_255, il_399, il_540, il_590, il_610, il_999, il_1000, il_1250, il_10000, il_12345, il_99999, il_1000000, il_1103515245, ll_0, ll_1, ll_2, ll_3, ll_4, ll_5, ll_6, ll_7, ll_8, ll_9, ll_30, ll_48, ll_50, ll_57, ll_99, ll_100, ll_255, ll_399, ll_999, ll_99999, nq_bs, nq_ltS, nq_b2S, b2_id, bi_id, iI_add, iI_sub, iI_mul, iI_neg, lI_neg, iI_64, iI_lt, iI_le, iI_eq, iI_ag, iI_as, iI_ar, iI_dv, iI_rem, isOut8, in9, bo_nz, bo_t, bo_f, wr_s, wr_n, wr_k, if_pos, if_neg, ↓reduceIte, Nat.reduceAdd, Nat.reduceMul, Nat.reduceSub, Nat.reduceEqDiff, Int.reduceToNat, Int.toNat_natCast, Int.reduceNeg, Int.reduceAdd, Int.reduceSub, Int.reduceMul, isPlace8 p0 p1, isPlace9 p0m p1, areTwo8 p0 p1, areTwo9 p0m p1, isPair8 p0 p1, areFt9 p0m p1, isPact8, isPact9, isWord8 w0 w1, isWord9 w0m w1, isSheet8, isSheet9, isPart8, isPart9, bo_t g2'])
    · by_cases g4 : partP y 9
      · have n6 : 6 < y % 10 := by unfold partP at *; omega
        have y0 : 0 ≤ y := by unfold partP at *; omega
        exact h.refL 1 (by omega) (by omega) (by unfold fX8_heirs; simp (disch := omega) only [il_0, il_1, il_2, il_3, il_4, il_5, il_6, il_7, il_8, il_9, il_10, il_11, il_12, il_13, il_16, il_20, il_30, il_31, il_32, il_33, il_36, il_37, il_38, il_40, il_41, il_42, il_43, il_45, il_47, il_48, il_50, il_57, il_60, il_61, il_62, il_70, il_71, il_79, il_80, il_97, il_98, il_99, il_100, il_107, il_110, il_111, il_114, il_115, il_116, il_121, il_124, il_128, il_130, il_140, il_160, il_255, il_399, il_540, il_590, il_610, il_999, il_1000, il_1250, il_10000, il_12345, il_99999, il_1000000, il_1103515245, ll_0, ll_1, ll_2, ll_3, ll_4, ll_5, ll_6, ll_7, ll_8, ll_9, ll_30, ll_48, ll_50, ll_57, ll_99, ll_100, ll_255, ll_399, ll_999, ll_99999, nq_bs, nq_ltS, nq_b2S, b2_id, bi_id, iI_add, iI_sub, iI_mul, iI_neg, lI_neg, iI_64, iI_lt, iI_le, iI_eq, iI_ag, iI_as, iI_ar, iI_dv, iI_rem, isOut8, in9, bo_nz, bo_t, bo_f, wr_s, wr_n, wr_k, if_pos, if_neg, ↓reduceIte, Nat.reduceAdd, Nat.reduceMul, Nat.reduceSub, Nat.reduceEqDiff, Int.reduceToNat, Int.toNat_natCast, Int.reduceNeg, Int.reduceAdd, Int.reduceSub, Int.reduceMul, isPlace8 p0 p1, isPlace9 p0m p1, areTwo8 p0 p1, areTwo9 p0m p1, isPair8 p0 p1, areFt9 p0m p1, isPact8, isPact9, isWord8 w0 w1, isWord9 w0m w1, isSheet8, isSheet9, isPart8, isPart9, bo_f g2]) (by unfold fX9_heirs; simp (disch := omega) only [il_0, il_1, il_2, il_3, il_4, il_5, il_6, il_7, il_8, il_9, il_10, il_11, il_12, il_13, il_16, il_20, il_30, il_31, il_32, il_33, il_36, il_37, il_38, il_40, il_41, il_42, il_43, il_45, il_47, il_48, il_50, il_57, il_60, il_61, il_62, il_70, il_71, il_79, il_80, il_97, il_98, il_99, il_100, il_107, il_110, il_111, il_114, il_115, il_116, il_121, il_124, il_128, il_130, il_140, il_160, il_255, il_399, il_540, il_590, il_610, il_999, il_1000, il_1250, il_10000, il_12345, il_99999, il_1000000, il_1103515245, ll_0, ll_1, ll_2, ll_3, ll_4, ll_5, ll_6, ll_7, ll_8, ll_9, ll_30, ll_48, ll_50, ll_57, ll_99, ll_100, ll_255, ll_399, ll_999, ll_99999, nq_bs, nq_ltS, nq_b2S, b2_id, bi_id, iI_add, iI_sub, iI_mul, iI_neg, lI_neg, iI_64, iI_lt, iI_le, iI_eq, iI_ag, iI_as, iI_ar, iI_dv, iI_rem, isOut8, in9, bo_nz, bo_t, bo_f, wr_s, wr_n, wr_k, if_pos, if_neg, ↓reduceIte, Nat.reduceAdd, Nat.reduceMul, Nat.reduceSub, Nat.reduceEqDiff, Int.reduceToNat, Int.toNat_natCast, Int.reduceNeg, Int.reduceAdd, Int.reduceSub, Int.reduceMul, isPlace8 p0 p1, isPlace9 p0m p1, areTwo8 p0 p1, areTwo9 p0m p1, isPair8 p0 p1, areFt9 p0m p1, isPact8, isPact9, isWord8 w0 w1, isWord9 w0m w1, isSheet8, isSheet9, isPart8, isPart9, bo_t g4])
      · exact h.refL 1 (by omega) (by omega) (by unfold fX8_heirs; simp (disch := omega) only [il_0, il_1, il_2, il_3, il_4, il_5, il_6, il_7, il_8, il_9, il_10, il_11, il_12, il_13, il_16, il_20, il_30, il_31, il_32, il_33, il_36, il_37, il_38, il_40, il_41, il_42, il_43, il_45, il_47, il_48, il_50, il_57, il_60, il_61, il_62, il_70, il_71, il_79, il_80, il_97, il_98, il_99, il_100, il_107, il_110, il_111, il_114, il_115, il_116, il_121, il_124, il_128, il_130, il_140, il_160, il_255, il_399, il_540, il_590, il_610, il_999, il_1000, il_1250, il_10000, il_12345, il_99999, il_1000000, il_1103515245, ll_0, ll_1, ll_2, ll_3, ll_4, ll_5, ll_6, ll_7, ll_8, ll_9, ll_30, ll_48, ll_50, ll_57, ll_99, ll_100, ll_255, ll_399, ll_999, ll_99999, nq_bs, nq_ltS, nq_b2S, b2_id, bi_id, iI_add, iI_sub, iI_mul, iI_neg, lI_neg, iI_64, iI_lt, iI_le, iI_eq, iI_ag, iI_as, iI_ar, iI_dv, iI_rem, isOut8, in9, bo_nz, bo_t, bo_f, wr_s, wr_n, wr_k, if_pos, if_neg, ↓reduceIte, Nat.reduceAdd, Nat.reduceMul, Nat.reduceSub, Nat.reduceEqDiff, Int.reduceToNat, Int.toNat_natCast, Int.reduceNeg, Int.reduceAdd, Int.reduceSub, Int.reduceMul, isPlace8 p0 p1, isPlace9 p0m p1, areTwo8 p0 p1, areTwo9 p0m p1, isPair8 p0 p1, areFt9 p0m p1, isPact8, isPact9, isWord8 w0 w1, isWord9 w0m w1, isSheet8, isSheet9, isPart8, isPart9, bo_f g2]) (by unfold fX9_heirs; simp (disch := omega) only [il_0, il_1, il_2, il_3, il_4, il_5, il_6, il_7, il_8, il_9, il_10, il_11, il_12, il_13, il_16, il_20, il_30, il_31, il_32, il_33, il_36, il_37, il_38, il_40, il_41, il_42, il_43, il_45, il_47, il_48, il_50, il_57, il_60, il_61, il_62, il_70, il_71, il_79, il_80, il_97, il_98, il_99, il_100, il_107, il_110, il_111, il_114, il_115, il_116, il_121, il_124, il_128, il_130, il_140, il_160, il_255, il_399, il_540, il_590, il_610, il_999, il_1000, il_1250, il_10000, il_12345, il_99999, il_1000000, il_1103515245, ll_0, ll_1, ll_2, ll_3, ll_4, ll_5, ll_6, ll_7, ll_8, ll_9, ll_30, ll_48, ll_50, ll_57, ll_99, ll_100, ll_255, ll_399, ll_999, ll_99999, nq_bs, nq_ltS, nq_b2S, b2_id, bi_id, iI_add, iI_sub, iI_mul, iI_neg, lI_neg, iI_64, iI_lt, iI_le, iI_eq, iI_ag, iI_as, iI_ar, iI_dv, iI_rem, isOut8, in9, bo_nz, bo_t, bo_f, wr_s, wr_n, wr_k, if_pos, if_neg, ↓reduceIte, Nat.reduceAdd, Nat.reduceMul, Nat.reduceSub, Nat.reduceEqDiff, Int.reduceToNat, Int.toNat_natCast, Int.reduceNeg, Int.reduceAdd, Int.reduceSub, Int.reduceMul, isPlace8 p0 p1, isPlace9 p0m p1, areTwo8 p0 p1, areTwo9 p0m p1, isPair8 p0 p1, areFt9 p0m p1, isPact8, isPact9, isWord8 w0 w1, isWord9 w0m w1, isSheet8, isSheet9, isPart8, isPart9, bo_f g4])
  · exact h.refL 1 (by omega) (by omega) (by unfold fX8_heirs; simp (disch := omega) only [il_0, il_1, il_2, il_3, il_4, il_5, il_6, il_7, il_8, il_9, il_10, il_11, il_12, il_13, il_16, il_20, il_30, il_31, il_32, il_33, il_36, il_37, il_38, il_40, il_41, il_42, il_43, il_45, il_47, il_48, il_50, il_57, il_60, il_61, il_62, il_70, il_71, il_79, il_80, il_97, il_98, il_99, il_100, il_107, il_110, il_111, il_114, il_115, il_116, il_121, il_124, il_128, il_130, il_140, il_160, il_255, il_399, il_540, il_590, il_610, il_999, il_1000, il_1250, il_10000, il_12345, il_99999, il_1000000, il_1103515245, ll_0, ll_1, ll_2, ll_3, ll_4, ll_5, ll_6, ll_7, ll_8, ll_9, ll_30, ll_48, ll_50, ll_57, ll_99, ll_100, ll_255, ll_399, ll_999, ll_99999, nq_bs, nq_ltS, nq_b2S, b2_id, bi_id, iI_add, iI_sub, iI_mul, iI_neg, lI_neg, iI_64, iI_lt, iI_le, iI_eq, iI_ag, iI_as, iI_ar, iI_dv, iI_rem, isOut8, in9, bo_nz, bo_t, bo_f, wr_s, wr_n, wr_k, if_pos, if_neg, ↓reduceIte, Nat.reduceAdd, Nat.reduceMul, Nat.reduceSub, Nat.reduceEqDiff, Int.reduceToNat, Int.toNat_natCast, Int.reduceNeg, Int.reduceAdd, Int.reduceSub, Int.reduceMul, isPlace8 p0 p1, isPlace9 p0m p1, areTwo8 p0 p1, areTwo9 p0m p1, isPair8 p0 p1, areFt9 p0m p1, isPact8, isPact9, isWord8 w0 w1, isWord9 w0m w1, isSheet8, isSheet9, isPart8, isPart9, h0]) (by unfold fX9_heirs; simp (disch := omega) only [il_0, il_1, il_2, il_3, il_4, il_5, il_6, il_7, il_8, il_9, il_10, il_11, il_12, il_13, il_16, il_20, il_30, il_31, il_32, il_33, il_36, il_37, il_38, il_40, il_41, il_42, il_43, il_45, il_47, il_48, il_50, il_57, il_60, il_61, il_62, il_70, il_71, il_79, il_80, il_97, il_98, il_99, il_100, il_107, il_110, il_111, il_114, il_115, il_116, il_121, il_124, il_128, il_130, il_140, il_160, il_255, il_399, il_540, il_590, il_610, il_999, il_1000, il_1250, il_10000, il_12345, il_99999, il_1000000, il_1103515245, ll_0, ll_1, ll_2, ll_3, ll_4, ll_5, ll_6, ll_7, ll_8, ll_9, ll_30, ll_48, ll_50, ll_57, ll_99, ll_100, ll_255, ll_399, ll_999, ll_99999, nq_bs, nq_ltS, nq_b2S, b2_id, bi_id, iI_add, iI_sub, iI_mul, iI_neg, lI_neg, iI_64, iI_lt, iI_le, iI_eq, iI_ag, iI_as, iI_ar, iI_dv, iI_rem, isOut8, in9, bo_nz, bo_t, bo_f, wr_s, wr_n, wr_k, if_pos, if_neg, ↓reduceIte, Nat.reduceAdd, Nat.reduceMul, Nat.reduceSub, Nat.reduceEqDiff, Int.reduceToNat, Int.toNat_natCast, Int.reduceNeg, Int.reduceAdd, Int.reduceSub, Int.reduceMul, isPlace8 p0 p1, isPlace9 p0m p1, areTwo8 p0 p1, areTwo9 p0m p1, isPair8 p0 p1, areFt9 p0m p1, isPact8, isPact9, isWord8 w0 w1, isWord9 w0m w1, isSheet8, isSheet9, isPart8, isPart9, h0])
