/-! 18.b: the class's reader reads as the parser does -/
theorem nm_nx {o : Bool} {h : Nat → Int} {a : Nat} : nmI o (nx h a) = nmI o (h a) ∨ h a < -1 ∨ (h a = -1 ∧ nmI o (nx h a) = -1 ∧ nmI o (h a) = -1) := by
  unfold nx
  by_cases c : h a < 0
  · rw [if_pos c]
    by_cases c1 : h a = -1
    · right; right
      rw [c1]
      cases o <;> exact ⟨rfl, rfl, rfl⟩
    · right; left; omega
  · rw [if_neg c]; exact Or.inl rfl
theorem simU {B : Nat → Int} {n : Nat} {o : Bool} {f : Nat} (hU : SimU B n o f) (hL : SimL B n o f) : SimU B n o (f + 1) := by
  intro op d hop hf hd M a cs hS ha hl
  obtain ⟨d', rfl⟩ : ∃ d', d = d' + 1 := ⟨d - 1, by omega⟩
  have hn := hS.2.2.2.2.2.2.2
  have nb := nx_bd (a := a) (fun j hj => (hS.2.2.2.2.2.2.1 j hj).2) hn
  have n8 := next8 hS ha
  have r4 := hS.1
  have r5 := hS.2.2.2.2.2.1
  have gd : decide ((iI (if o = true then 1 else 2)).toNatClampNeg < 8) = true := by cases o <;> rfl
  have gd2 : decide ((if o = true then 1 else 2) < 8) = true := by cases o <;> rfl
  have cl : (iI (if o = true then 1 else 2)).toNatClampNeg = if o = true then 1 else 2 := by cases o <;> rfl
  have ix := ixn (o := o) (M := M) (show 0 ≤ nx (hB B n) a ∧ nx (hB B n) a ≤ 255 by omega)
  have hnm : nmI o (nx (hB B n) a) = nmI o (hB B n a) := by
    rcases nm_nx (o := o) (h := hB B n) (a := a) with e | e | ⟨_, e1, e2⟩
    · exact e
    · omega
    · rw [e1, e2]
  rw [hnm] at ix
  have nmb : -1 ≤ nmI o (hB B n a) ∧ nmI o (hB B n a) < 5 := by
    unfold nmI
    split <;> (repeat' split) <;> omega
  show SimO B n (if o = true then 1 else 2) M cs (pr (hB B n) o (f + 1) 5 op a) (fX1_readUnit (gRd_all d').2.2.1 (gRd_all d').2.2.2 80 17 (iI op) M)
  by_cases c1 : 48 ≤ hB B n a ∧ hB B n a ≤ 57
  · have hlt : a < n := Nat.lt_of_not_le (fun q => by have := hB_z (B := B) a q; omega)
    have en : nx (hB B n) a = hB B n a := by unfold nx; rw [if_neg (by omega)]
    rw [en] at n8
    have ep : pr (hB B n) o (f + 1) 5 op a = (true, (pN (hB B n) 4 a 0).1, [iI (pN (hB B n) 4 a 0).2], fun _ => iI (pN (hB B n) 4 a 0).2) := by
      simp only [pr]
      rw [if_neg (by omega), if_pos c1]
    rw [ep]
    obtain ⟨M1, e1, F1, S1⟩ := rnum8 (M0 := M) 4 a 0 M nq_fuel (by omega) (by unfold nq_fuel; omega) (FR.refl M) hS ha
    obtain ⟨M2, e2, F2, S2⟩ := radd8 (c := iI (pN (hB B n) 4 a 0).2) S1 (by omega)
    refine ⟨M2, ?_, F1.trans F2, fun _ => S2, fun c => by cases c⟩
    unfold fX1_readUnit fX1_readNumber fX1_readNumber_L4 fX1_readNumber_L48
    rw [n8, nq_bs, isDigit8 (by omega), nq_bs, bo_t c1, if_neg (by decide), show ((0 : Int32), (0 : Int32), M) = (iI 0, iI ((4 - 4 : Nat) : Int), M) from rfl, e1, nq_bs, e2]
    rfl
  · have c1' : ¬ (48 ≤ nx (hB B n) a ∧ nx (hB B n) a ≤ 57) := by unfold nx; split <;> omega
    by_cases c2 : 0 ≤ nmI o (hB B n a)
    · have hlt : a < n := Nat.lt_of_not_le (fun q => (nm_in c2).1 (hB_z (B := B) a q))
      have ep : pr (hB B n) o (f + 1) 5 op a = (true, a + 1, [iI (10000 + nmI o (hB B n a))], fun nm => nm (nmI o (hB B n a)).toNat) := by
        simp only [pr]
        rw [if_neg (by omega), if_neg c1, if_pos c2]
      rw [ep]
      obtain ⟨M2, e2, F2, S2⟩ := radd8 (c := iI (10000 + nmI o (hB B n a))) (hS.at (b := a + 1)) (by omega)
      refine ⟨M2, ?_, ((FR.refl M).wr (Or.inl rfl)).trans F2, fun _ => S2, fun c => by cases c⟩
      unfold fX1_readUnit
      have q1 : ((a : Int) + 1) = ((a + 1 : Nat) : Int) := by omega
      simp (disch := omega) only [il_0, il_1, il_2, il_3, il_4, il_5, il_6, il_7, il_8, il_9, il_10, il_11, il_12, il_13, il_16, il_20, il_30, il_31, il_32, il_33, il_36, il_37, il_38, il_40, il_41, il_42, il_43, il_45, il_47, il_48, il_50, il_57, il_60, il_61, il_62, il_70, il_71, il_79, il_80, il_97, il_98, il_99, il_100, il_107, il_110, il_111, il_114, il_115, il_116, il_121, il_124, il_128, il_130, il_140, il_160, il_255, il_399, il_540, il_590, il_610, il_999, il_1000, il_1250, il_10000, il_12345, il_99999, il_1000000, il_1103515245, ll_0, ll_1, ll_2, ll_3, ll_4, ll_5, ll_6, ll_7, ll_8, ll_9, ll_30, ll_48, ll_50, ll_57, ll_99, ll_100, ll_255, ll_399, ll_999, ll_99999, nq_bs, nq_ltS, nq_b2S, b2_id, bi_id, iI_add, iI_sub, iI_mul, iI_neg, lI_neg, iI_64, iI_lt, iI_le, iI_eq, iI_ag, iI_as, iI_ar, iI_dv, iI_rem, isOut8, in9, bo_nz, bo_t, bo_f, wr_s, wr_n, wr_k, if_pos, if_neg, ↓reduceIte, Nat.reduceAdd, Nat.reduceMul, Nat.reduceSub, Nat.reduceEqDiff, Int.reduceToNat, Int.toNat_natCast, Int.reduceNeg, Int.reduceAdd, Int.reduceSub, Int.reduceMul, n8, isDigit8, r5, gd, gd2, gdT, cl, ix, r4, q1, e2]
    · by_cases c3 : (hB B n a = 33 ∨ hB B n a = 40) ∧ op < 5
      · obtain ⟨c3, c4⟩ := c3
        have hlt : a < n := Nat.lt_of_not_le (fun q => by have := hB_z (B := B) a q; omega)
        have en : nx (hB B n) a = hB B n a := by unfold nx; rw [if_neg (by omega)]
        rw [en] at n8 ix
        obtain ⟨d'', rfl⟩ : ∃ d'', d' = d'' + 1 := ⟨d' - 1, by omega⟩
        have q1 : ((a : Int) + 1) = ((a + 1 : Nat) : Int) := by omega
        have q2 : ((op : Int) + 1) = ((op + 1 : Nat) : Int) := by omega
        have Fw : FR M (nq_wr M 80 4 (iI ((a + 1 : Nat) : Int))) := (FR.refl M).wr (Or.inl rfl)
        by_cases c5 : hB B n a = 33
        · obtain ⟨M1, e1, F1, o1, o2⟩ := hU (op + 1) d'' (by omega) (by omega) (by omega) (nq_wr M 80 4 (iI ((a + 1 : Nat) : Int))) (a + 1) cs hS.at (by omega) (by omega)
          have hok := pr_ok (h := hB B n) (o := o) hB_z f 5 (op + 1) (a + 1) (by omega)
          have gN : ∀ M, (gRd_all (d'' + 1)).2.2.1 80 17 (iI ((op + 1 : Nat) : Int)) M = fX1_readNot (gRd_all d'').2.1 80 17 (iI ((op + 1 : Nat) : Int)) M := fun _ => rfl
          cases hr : (pr (hB B n) o f 5 (op + 1) (a + 1)).1 with
          | true =>
            rw [hr, if_pos rfl] at e1
            obtain ⟨b1, b2, b3⟩ := hok.1 hr
            obtain ⟨M2, e2, F2, S2⟩ := radd8 (c := iI (-33)) (o1 hr) (by rw [List.length_append]; omega)
            have ep : pr (hB B n) o (f + 1) 5 op a = (true, (pr (hB B n) o f 5 (op + 1) (a + 1)).2.1, (pr (hB B n) o f 5 (op + 1) (a + 1)).2.2.1 ++ [iI (-33)], fun nm => if (pr (hB B n) o f 5 (op + 1) (a + 1)).2.2.2 nm = 0 then 1 else 0) := by
              conv => lhs; unfold pr
              rw [if_neg (by omega), if_neg c1, if_neg c2, if_pos ⟨c5, c4⟩, if_pos hr]
            rw [ep]
            rw [List.append_assoc] at S2
            refine ⟨M2, ?_, (Fw.trans F1).trans F2, fun _ => S2, fun c => by cases c⟩
            have eN : fX1_readNot (gRd_all d'').2.1 80 17 (iI ((op + 1 : Nat) : Int)) (nq_wr M 80 4 (iI ((a + 1 : Nat) : Int))) = some (iI 1, M2) := by
              unfold fX1_readNot
              rw [e1, nq_b2S, if_neg (by decide), show (-33 : Int32) = iI (-33) from rfl, e2]
              rfl
            unfold fX1_readUnit fX1_readUnit_L64
            have nz1 : nq_nz .boolean (iI 1) = some (iI 1) := rfl
            simp (disch := omega) only [il_0, il_1, il_2, il_3, il_4, il_5, il_6, il_7, il_8, il_9, il_10, il_11, il_12, il_13, il_16, il_20, il_30, il_31, il_32, il_33, il_36, il_37, il_38, il_40, il_41, il_42, il_43, il_45, il_47, il_48, il_50, il_57, il_60, il_61, il_62, il_70, il_71, il_79, il_80, il_97, il_98, il_99, il_100, il_107, il_110, il_111, il_114, il_115, il_116, il_121, il_124, il_128, il_130, il_140, il_160, il_255, il_399, il_540, il_590, il_610, il_999, il_1000, il_1250, il_10000, il_12345, il_99999, il_1000000, il_1103515245, ll_0, ll_1, ll_2, ll_3, ll_4, ll_5, ll_6, ll_7, ll_8, ll_9, ll_30, ll_48, ll_50, ll_57, ll_99, ll_100, ll_255, ll_399, ll_999, ll_99999, nq_bs, nq_ltS, nq_b2S, b2_id, bi_id, iI_add, iI_sub, iI_mul, iI_neg, lI_neg, iI_64, iI_lt, iI_le, iI_eq, iI_ag, iI_as, iI_ar, iI_dv, iI_rem, isOut8, in9, bo_nz, bo_t, bo_f, wr_s, wr_n, wr_k, if_pos, if_neg, ↓reduceIte, Nat.reduceAdd, Nat.reduceMul, Nat.reduceSub, Nat.reduceEqDiff, Int.reduceToNat, Int.toNat_natCast, Int.reduceNeg, Int.reduceAdd, Int.reduceSub, Int.reduceMul, n8, isDigit8, r5, gd, gd2, gdT, cl, ix, r4, q1, q2, gN, eN, nz1]
          | false =>
            rw [hr, if_neg (by decide)] at e1
            have ep : pr (hB B n) o (f + 1) 5 op a = pF (pr (hB B n) o f 5 (op + 1) (a + 1)).2.1 := by
              conv => lhs; unfold pr
              rw [if_neg (by omega), if_neg c1, if_neg c2, if_pos ⟨c5, c4⟩, hr, if_neg (by decide)]
            rw [ep]
            refine ⟨M1, ?_, Fw.trans F1, fun c => (by cases c), fun _ => o2 hr⟩
            have eN : fX1_readNot (gRd_all d'').2.1 80 17 (iI ((op + 1 : Nat) : Int)) (nq_wr M 80 4 (iI ((a + 1 : Nat) : Int))) = some (iI 0, M1) := by
              unfold fX1_readNot
              rw [e1, nq_b2S, if_pos (by decide)]
              rfl
            unfold fX1_readUnit fX1_readUnit_L64
            have nz1 : nq_nz .boolean (iI 0) = some (iI 0) := rfl
            simp (disch := omega) only [il_0, il_1, il_2, il_3, il_4, il_5, il_6, il_7, il_8, il_9, il_10, il_11, il_12, il_13, il_16, il_20, il_30, il_31, il_32, il_33, il_36, il_37, il_38, il_40, il_41, il_42, il_43, il_45, il_47, il_48, il_50, il_57, il_60, il_61, il_62, il_70, il_71, il_79, il_80, il_97, il_98, il_99, il_100, il_107, il_110, il_111, il_114, il_115, il_116, il_121, il_124, il_128, il_130, il_140, il_160, il_255, il_399, il_540, il_590, il_610, il_999, il_1000, il_1250, il_10000, il_12345, il_99999, il_1000000, il_1103515245, ll_0, ll_1, ll_2, ll_3, ll_4, ll_5, ll_6, ll_7, ll_8, ll_9, ll_30, ll_48, ll_50, ll_57, ll_99, ll_100, ll_255, ll_399, ll_999, ll_99999, nq_bs, nq_ltS, nq_b2S, b2_id, bi_id, iI_add, iI_sub, iI_mul, iI_neg, lI_neg, iI_64, iI_lt, iI_le, iI_eq, iI_ag, iI_as, iI_ar, iI_dv, iI_rem, isOut8, in9, bo_nz, bo_t, bo_f, wr_s, wr_n, wr_k, if_pos, if_neg, ↓reduceIte, Nat.reduceAdd, Nat.reduceMul, Nat.reduceSub, Nat.reduceEqDiff, Int.reduceToNat, Int.toNat_natCast, Int.reduceNeg, Int.reduceAdd, Int.reduceSub, Int.reduceMul, n8, isDigit8, r5, gd, gd2, gdT, cl, ix, r4, q1, q2, gN, eN, nz1]
            rfl
        · have c6 : hB B n a = 40 := by omega
          obtain ⟨M1, e1, F1, o1, o2⟩ := hL 0 (op + 1) d'' (by omega) (by omega) (by omega) (by omega) (nq_wr M 80 4 (iI ((a + 1 : Nat) : Int))) (a + 1) cs hS.at (by omega) (by omega)
          have hok := pr_ok (h := hB B n) (o := o) hB_z f 0 (op + 1) (a + 1) (by omega)
          have gI : ∀ M, (gRd_all (d'' + 1)).2.2.2 80 17 (iI ((op + 1 : Nat) : Int)) M = fX1_readInside (gRd_all d'').1 80 17 (iI ((op + 1 : Nat) : Int)) M := fun _ => rfl
          have e1' : (gRd_all d'').1 80 17 0 (iI ((op + 1 : Nat) : Int)) (nq_wr M 80 4 (iI ((a + 1 : Nat) : Int))) = some (iI (if (pr (hB B n) o f 0 (op + 1) (a + 1)).1 = true then 1 else 0), M1) := e1
          cases hr : (pr (hB B n) o f 0 (op + 1) (a + 1)).1 with
          | true =>
            rw [hr, if_pos rfl] at e1'
            obtain ⟨b1, b2, b3⟩ := hok.1 hr
            have S1 := o1 hr
            have n9 := next8 S1 b2
            have r4' := S1.1
            have nb2 := nx_bd (a := (pr (hB B n) o f 0 (op + 1) (a + 1)).2.1) (fun j hj => (hS.2.2.2.2.2.2.1 j hj).2) hn
            by_cases c7 : hB B n (pr (hB B n) o f 0 (op + 1) (a + 1)).2.1 = 41
            · have ep : pr (hB B n) o (f + 1) 5 op a = (true, (pr (hB B n) o f 0 (op + 1) (a + 1)).2.1 + 1, (pr (hB B n) o f 0 (op + 1) (a + 1)).2.2.1, (pr (hB B n) o f 0 (op + 1) (a + 1)).2.2.2) := by
                conv => lhs; unfold pr
                rw [if_neg (by omega), if_neg c1, if_neg c2, if_neg (fun z => c5 z.1), if_pos ⟨c6, c4⟩, if_pos hr, if_pos c7]
              rw [ep]
              have en2 : nx (hB B n) (pr (hB B n) o f 0 (op + 1) (a + 1)).2.1 = 41 := by unfold nx; rw [if_neg (by omega), c7]
              rw [en2] at n9
              refine ⟨nq_wr M1 80 4 (iI (((pr (hB B n) o f 0 (op + 1) (a + 1)).2.1 + 1 : Nat) : Int)), ?_, (Fw.trans F1).wr (Or.inl rfl), fun _ => S1.at, fun c => by cases c⟩
              have eI : fX1_readInside (gRd_all d'').1 80 17 (iI ((op + 1 : Nat) : Int)) (nq_wr M 80 4 (iI ((a + 1 : Nat) : Int))) = some (iI 1, nq_wr M1 80 4 (iI (((pr (hB B n) o f 0 (op + 1) (a + 1)).2.1 + 1 : Nat) : Int))) := by
                unfold fX1_readInside
                rw [e1', nq_b2S, if_neg (by decide), n9, nq_bs, if_pos (by decide)]
                simp only [nq_ltS, r4', il_1, iI_add]
                rfl
              unfold fX1_readUnit fX1_readUnit_L64
              have nz1 : nq_nz .boolean (iI 1) = some (iI 1) := rfl
              simp (disch := omega) only [il_0, il_1, il_2, il_3, il_4, il_5, il_6, il_7, il_8, il_9, il_10, il_11, il_12, il_13, il_16, il_20, il_30, il_31, il_32, il_33, il_36, il_37, il_38, il_40, il_41, il_42, il_43, il_45, il_47, il_48, il_50, il_57, il_60, il_61, il_62, il_70, il_71, il_79, il_80, il_97, il_98, il_99, il_100, il_107, il_110, il_111, il_114, il_115, il_116, il_121, il_124, il_128, il_130, il_140, il_160, il_255, il_399, il_540, il_590, il_610, il_999, il_1000, il_1250, il_10000, il_12345, il_99999, il_1000000, il_1103515245, ll_0, ll_1, ll_2, ll_3, ll_4, ll_5, ll_6, ll_7, ll_8, ll_9, ll_30, ll_48, ll_50, ll_57, ll_99, ll_100, ll_255, ll_399, ll_999, ll_99999, nq_bs, nq_ltS, nq_b2S, b2_id, bi_id, iI_add, iI_sub, iI_mul, iI_neg, lI_neg, iI_64, iI_lt, iI_le, iI_eq, iI_ag, iI_as, iI_ar, iI_dv, iI_rem, isOut8, in9, bo_nz, bo_t, bo_f, wr_s, wr_n, wr_k, if_pos, if_neg, ↓reduceIte, Nat.reduceAdd, Nat.reduceMul, Nat.reduceSub, Nat.reduceEqDiff, Int.reduceToNat, Int.toNat_natCast, Int.reduceNeg, Int.reduceAdd, Int.reduceSub, Int.reduceMul, n8, isDigit8, r5, gd, gd2, gdT, cl, ix, r4, q1, q2, gI, eI, nz1]
            · have ep : pr (hB B n) o (f + 1) 5 op a = pF (pr (hB B n) o f 0 (op + 1) (a + 1)).2.1 := by
                conv => lhs; unfold pr
                rw [if_neg (by omega), if_neg c1, if_neg c2, if_neg (fun z => c5 z.1), if_pos ⟨c6, c4⟩, if_pos hr, if_neg c7]
              rw [ep]
              have en2 : nx (hB B n) (pr (hB B n) o f 0 (op + 1) (a + 1)).2.1 ≠ 41 := by unfold nx; split <;> omega
              refine ⟨M1, ?_, Fw.trans F1, fun c => (by cases c), fun _ => r4'⟩
              have eI : fX1_readInside (gRd_all d'').1 80 17 (iI ((op + 1 : Nat) : Int)) (nq_wr M 80 4 (iI ((a + 1 : Nat) : Int))) = some (iI 0, M1) := by
                unfold fX1_readInside
                rw [e1', nq_b2S, if_neg (by decide), n9, nq_bs, if_neg (by rw [il_41, iI_eq (by omega) (by omega)]; exact en2)]
                rfl
              unfold fX1_readUnit fX1_readUnit_L64
              have nz1 : nq_nz .boolean (iI 0) = some (iI 0) := rfl
              simp (disch := omega) only [il_0, il_1, il_2, il_3, il_4, il_5, il_6, il_7, il_8, il_9, il_10, il_11, il_12, il_13, il_16, il_20, il_30, il_31, il_32, il_33, il_36, il_37, il_38, il_40, il_41, il_42, il_43, il_45, il_47, il_48, il_50, il_57, il_60, il_61, il_62, il_70, il_71, il_79, il_80, il_97, il_98, il_99, il_100, il_107, il_110, il_111, il_114, il_115, il_116, il_121, il_124, il_128, il_130, il_140, il_160, il_255, il_399, il_540, il_590, il_610, il_999, il_1000, il_1250, il_10000, il_12345, il_99999, il_1000000, il_1103515245, ll_0, ll_1, ll_2, ll_3, ll_4, ll_5, ll_6, ll_7, ll_8, ll_9, ll_30, ll_48, ll_50, ll_57, ll_99, ll_100, ll_255, ll_399, ll_999, ll_99999, nq_bs, nq_ltS, nq_b2S, b2_id, bi_id, iI_add, iI_sub, iI_mul, iI_neg, lI_neg, iI_64, iI_lt, iI_le, iI_eq, iI_ag, iI_as, iI_ar, iI_dv, iI_rem, isOut8, in9, bo_nz, bo_t, bo_f, wr_s, wr_n, wr_k, if_pos, if_neg, ↓reduceIte, Nat.reduceAdd, Nat.reduceMul, Nat.reduceSub, Nat.reduceEqDiff, Int.reduceToNat, Int.toNat_natCast, Int.reduceNeg, Int.reduceAdd, Int.reduceSub, Int.reduceMul, n8, isDigit8, r5, gd, gd2, gdT, cl, ix, r4, q1, q2, gI, eI, nz1]
              rfl
          | false =>
            rw [hr, if_neg (by decide)] at e1'
            have ep : pr (hB B n) o (f + 1) 5 op a = pF (pr (hB B n) o f 0 (op + 1) (a + 1)).2.1 := by
              conv => lhs; unfold pr
              rw [if_neg (by omega), if_neg c1, if_neg c2, if_neg (fun z => c5 z.1), if_pos ⟨c6, c4⟩, hr, if_neg (by decide)]
            rw [ep]
            refine ⟨M1, ?_, Fw.trans F1, fun c => (by cases c), fun _ => o2 hr⟩
            have eI : fX1_readInside (gRd_all d'').1 80 17 (iI ((op + 1 : Nat) : Int)) (nq_wr M 80 4 (iI ((a + 1 : Nat) : Int))) = some (iI 0, M1) := by
              unfold fX1_readInside
              rw [e1', nq_b2S, if_pos (by decide)]
              rfl
            unfold fX1_readUnit fX1_readUnit_L64
            have nz1 : nq_nz .boolean (iI 0) = some (iI 0) := rfl
            simp (disch := omega) only [il_0, il_1, il_2, il_3, il_4, il_5, il_6, il_7, il_8, il_9, il_10, il_11, il_12, il_13, il_16, il_20, il_30, il_31, il_32, il_33, il_36, il_37, il_38, il_40, il_41, il_42, il_43, il_45, il_47, il_48, il_50, il_57, il_60, il_61, il_62, il_70, il_71, il_79, il_80, il_97, il_98, il_99, il_100, il_107, il_110, il_111, il_114, il_115, il_116, il_121, il_124, il_128, il_130, il_140, il_160, il_255, il_399, il_540, il_590, il_610, il_999, il_1000, il_1250, il_10000, il_12345, il_99999, il_1000000, il_1103515245, ll_0, ll_1, ll_2, ll_3, ll_4, ll_5, ll_6, ll_7, ll_8, ll_9, ll_30, ll_48, ll_50, ll_57, ll_99, ll_100, ll_255, ll_399, ll_999, ll_99999, nq_bs, nq_ltS, nq_b2S, b2_id, bi_id, iI_add, iI_sub, iI_mul, iI_neg, lI_neg, iI_64, iI_lt, iI_le, iI_eq, iI_ag, iI_as, iI_ar, iI_dv, iI_rem, isOut8, in9, bo_nz, bo_t, bo_f, wr_s, wr_n, wr_k, if_pos, if_neg, ↓reduceIte, Nat.reduceAdd, Nat.reduceMul, Nat.reduceSub, Nat.reduceEqDiff, Int.reduceToNat, Int.toNat_natCast, Int.reduceNeg, Int.reduceAdd, Int.reduceSub, Int.reduceMul, n8, isDigit8, r5, gd, gd2, gdT, cl, ix, r4, q1, q2, gI, eI, nz1]
            rfl
      · have ep : pr (hB B n) o (f + 1) 5 op a = pF a := by
          conv => lhs; unfold pr
          rw [if_neg (by omega), if_neg c1, if_neg c2, if_neg (by omega), if_neg (by omega)]
        rw [ep]
        refine ⟨M, ?_, FR.refl M, fun c => (by cases c), fun _ => r4⟩
        unfold fX1_readUnit fX1_readUnit_L64
        by_cases c5 : hB B n a = 33
        · have en : nx (hB B n) a = 33 := by unfold nx; rw [if_neg (by omega), c5]
          rw [en] at n8
          have ix' : fJ0_indexOf_0f7a4 (if o = true then 1 else 2) (iI 33) M = some (iI (nmI o (hB B n a))) := by rw [en] at ix; exact ix
          simp (disch := omega) only [il_0, il_1, il_2, il_3, il_4, il_5, il_6, il_7, il_8, il_9, il_10, il_11, il_12, il_13, il_16, il_20, il_30, il_31, il_32, il_33, il_36, il_37, il_38, il_40, il_41, il_42, il_43, il_45, il_47, il_48, il_50, il_57, il_60, il_61, il_62, il_70, il_71, il_79, il_80, il_97, il_98, il_99, il_100, il_107, il_110, il_111, il_114, il_115, il_116, il_121, il_124, il_128, il_130, il_140, il_160, il_255, il_399, il_540, il_590, il_610, il_999, il_1000, il_1250, il_10000, il_12345, il_99999, il_1000000, il_1103515245, ll_0, ll_1, ll_2, ll_3, ll_4, ll_5, ll_6, ll_7, ll_8, ll_9, ll_30, ll_48, ll_50, ll_57, ll_99, ll_100, ll_255, ll_399, ll_999, ll_99999, nq_bs, nq_ltS, nq_b2S, b2_id, bi_id, iI_add, iI_sub, iI_mul, iI_neg, lI_neg, iI_64, iI_lt, iI_le, iI_eq, iI_ag, iI_as, iI_ar, iI_dv, iI_rem, isOut8, in9, bo_nz, bo_t, bo_f, wr_s, wr_n, wr_k, if_pos, if_neg, ↓reduceIte, Nat.reduceAdd, Nat.reduceMul, Nat.reduceSub, Nat.reduceEqDiff, Int.reduceToNat, Int.toNat_natCast, Int.reduceNeg, Int.reduceAdd, Int.reduceSub, Int.reduceMul, n8, isDigit8, r5, gd, gd2, gdT, cl, ix']
          rfl
        · by_cases c6 : hB B n a = 40
          · have en : nx (hB B n) a = 40 := by unfold nx; rw [if_neg (by omega), c6]
            rw [en] at n8
            have ix' : fJ0_indexOf_0f7a4 (if o = true then 1 else 2) (iI 40) M = some (iI (nmI o (hB B n a))) := by rw [en] at ix; exact ix
            simp (disch := omega) only [il_0, il_1, il_2, il_3, il_4, il_5, il_6, il_7, il_8, il_9, il_10, il_11, il_12, il_13, il_16, il_20, il_30, il_31, il_32, il_33, il_36, il_37, il_38, il_40, il_41, il_42, il_43, il_45, il_47, il_48, il_50, il_57, il_60, il_61, il_62, il_70, il_71, il_79, il_80, il_97, il_98, il_99, il_100, il_107, il_110, il_111, il_114, il_115, il_116, il_121, il_124, il_128, il_130, il_140, il_160, il_255, il_399, il_540, il_590, il_610, il_999, il_1000, il_1250, il_10000, il_12345, il_99999, il_1000000, il_1103515245, ll_0, ll_1, ll_2, ll_3, ll_4, ll_5, ll_6, ll_7, ll_8, ll_9, ll_30, ll_48, ll_50, ll_57, ll_99, ll_100, ll_255, ll_399, ll_999, ll_99999, nq_bs, nq_ltS, nq_b2S, b2_id, bi_id, iI_add, iI_sub, iI_mul, iI_neg, lI_neg, iI_64, iI_lt, iI_le, iI_eq, iI_ag, iI_as, iI_ar, iI_dv, iI_rem, isOut8, in9, bo_nz, bo_t, bo_f, wr_s, wr_n, wr_k, if_pos, if_neg, ↓reduceIte, Nat.reduceAdd, Nat.reduceMul, Nat.reduceSub, Nat.reduceEqDiff, Int.reduceToNat, Int.toNat_natCast, Int.reduceNeg, Int.reduceAdd, Int.reduceSub, Int.reduceMul, n8, isDigit8, r5, gd, gd2, gdT, cl, ix']
            rfl
          · have n1 : nx (hB B n) a ≠ 33 := by unfold nx; split <;> omega
            have n2 : nx (hB B n) a ≠ 40 := by unfold nx; split <;> omega
            simp (disch := omega) only [il_0, il_1, il_2, il_3, il_4, il_5, il_6, il_7, il_8, il_9, il_10, il_11, il_12, il_13, il_16, il_20, il_30, il_31, il_32, il_33, il_36, il_37, il_38, il_40, il_41, il_42, il_43, il_45, il_47, il_48, il_50, il_57, il_60, il_61, il_62, il_70, il_71, il_79, il_80, il_97, il_98, il_99, il_100, il_107, il_110, il_111, il_114, il_115, il_116, il_121, il_124, il_128, il_130, il_140, il_160, il_255, il_399, il_540, il_590, il_610, il_999, il_1000, il_1250, il_10000, il_12345, il_99999, il_1000000, il_1103515245, ll_0, ll_1, ll_2, ll_3, ll_4, ll_5, ll_6, ll_7, ll_8, ll_9, ll_30, ll_48, ll_50, ll_57, ll_99, ll_100, ll_255, ll_399, ll_999, ll_99999, nq_bs, nq_ltS, nq_b2S, b2_id, bi_id, iI_add, iI_sub, iI_mul, iI_neg, lI_neg, iI_64, iI_lt, iI_le, iI_eq, iI_ag, iI_as, iI_ar, iI_dv, iI_rem, isOut8, in9, bo_nz, bo_t, bo_f, wr_s, wr_n, wr_k, if_pos, if_neg, ↓reduceIte, Nat.reduceAdd, Nat.reduceMul, Nat.reduceSub, Nat.reduceEqDiff, Int.reduceToNat, Int.toNat_natCast, Int.reduceNeg, Int.reduceAdd, Int.reduceSub, Int.reduceMul, n8, isDigit8, r5, gd, gd2, gdT, cl, ix]
            rfl
theorem simL {B : Nat → Int} {n : Nat} {o : Bool} {f : Nat} (hU : SimU B n o (f + 1)) (hL : SimL B n o f) : SimL B n o (f + 1) := by
  intro lv op d hlv hop hf hd M a cs hS ha hl
  obtain ⟨d', rfl⟩ : ∃ d', d = d' + 1 := ⟨d - 1, by omega⟩
  show SimO B n (if o = true then 1 else 2) M cs (pr (hB B n) o (f + 1) lv op a) (fX1_readLevel (gRd_all d').2.1 (gRd_all d').1 80 17 (iI lv) (iI op) M)
  by_cases c5 : lv = 5
  · subst c5
    obtain ⟨M1, e1, F1, o1, o2⟩ := hU op d' hop (by omega) (by omega) M a cs hS ha hl
    refine ⟨M1, ?_, F1, o1, o2⟩
    unfold fX1_readLevel
    rw [if_neg (by decide), e1, nq_b2S, nzb, nq_bs]
  · have hlt : lv < 5 := by omega
    obtain ⟨M1, e1, F1, o1, o2⟩ := hL (lv + 1) op d' (by omega) hop (by omega) (by omega) M a cs hS ha hl
    have hok := pr_ok (h := hB B n) (o := o) hB_z f (lv + 1) op a ha
    have q2 : ((lv : Int) + 1) = ((lv + 1 : Nat) : Int) := by omega
    cases hr : (pr (hB B n) o f (lv + 1) op a).1 with
    | false =>
      rw [hr, if_neg (by decide)] at e1
      have ep : pr (hB B n) o (f + 1) lv op a = pF (pr (hB B n) o f (lv + 1) op a).2.1 := by
        conv => lhs; unfold pr
        rw [if_pos hlt, hr, if_neg (by decide)]
      rw [ep]
      refine ⟨M1, ?_, F1, fun c => (by cases c), fun _ => o2 hr⟩
      unfold fX1_readLevel
      simp (disch := omega) only [il_0, il_1, il_2, il_3, il_4, il_5, il_6, il_7, il_8, il_9, il_10, il_11, il_12, il_13, il_16, il_20, il_30, il_31, il_32, il_33, il_36, il_37, il_38, il_40, il_41, il_42, il_43, il_45, il_47, il_48, il_50, il_57, il_60, il_61, il_62, il_70, il_71, il_79, il_80, il_97, il_98, il_99, il_100, il_107, il_110, il_111, il_114, il_115, il_116, il_121, il_124, il_128, il_130, il_140, il_160, il_255, il_399, il_540, il_590, il_610, il_999, il_1000, il_1250, il_10000, il_12345, il_99999, il_1000000, il_1103515245, ll_0, ll_1, ll_2, ll_3, ll_4, ll_5, ll_6, ll_7, ll_8, ll_9, ll_30, ll_48, ll_50, ll_57, ll_99, ll_100, ll_255, ll_399, ll_999, ll_99999, nq_bs, nq_ltS, nq_b2S, b2_id, bi_id, iI_add, iI_sub, iI_mul, iI_neg, lI_neg, iI_64, iI_lt, iI_le, iI_eq, iI_ag, iI_as, iI_ar, iI_dv, iI_rem, isOut8, in9, bo_nz, bo_t, bo_f, wr_s, wr_n, wr_k, if_pos, if_neg, ↓reduceIte, Nat.reduceAdd, Nat.reduceMul, Nat.reduceSub, Nat.reduceEqDiff, Int.reduceToNat, Int.toNat_natCast, Int.reduceNeg, Int.reduceAdd, Int.reduceSub, Int.reduceMul, q2, e1]
      rfl
    | true =>
      rw [hr, if_pos rfl] at e1
      obtain ⟨b1, b2, b3⟩ := hok.1 hr
      have ep : pr (hB B n) o (f + 1) lv op a = pLoop (hB B n) lv (pr (hB B n) o f (lv + 1) op) (if lv = 2 then 1 else 50) (pr (hB B n) o f (lv + 1) op a).2.1 (pr (hB B n) o f (lv + 1) op a).2.2.1 (pr (hB B n) o f (lv + 1) op a).2.2.2 := by
        conv => lhs; unfold pr
        rw [if_pos hlt, if_pos hr]
      rw [ep]
      obtain ⟨M2, F2, h2⟩ := rloop8 (M0 := M) (gU := (gRd_all d').2.1) (gL := (gRd_all d').1) (g := pr (hB B n) o f (lv + 1) op) (op := op) (lv := lv) (most := if lv = 2 then 1 else 50) hlt (by split <;> omega) (fun a ha => pr_ok hB_z f (lv + 1) op a ha) (fun M a cs h1 h2 h3 => hL (lv + 1) op d' (by omega) hop (by omega) (by omega) M a cs h1 h2 h3) (if lv = 2 then 1 else 50) (pr (hB B n) o f (lv + 1) op a).2.1 cs (pr (hB B n) o f (lv + 1) op a).2.2.1 (pr (hB B n) o f (lv + 1) op a).2.2.2 M1 nq_fuel (Nat.le_refl _) (by unfold nq_fuel; split <;> omega) F1 (o1 hr) b2 (by rw [List.length_append]; omega)
      have e2 : fX1_readLevel (gRd_all d').2.1 (gRd_all d').1 80 17 (iI lv) (iI op) M = (nq_lp (fun s : Int32 × Mem => fX1_readLevel_B39 (gRd_all d').2.1 (gRd_all d').1 80 17 (iI lv) (iI op) (iI ((if lv = 2 then 1 else 50 : Nat) : Int)) s.1 s.2) nq_fuel (iI 0, M1)).bind (Sum.elim (fun e => fX1_readLevel_L101 (gRd_all d').2.1 (gRd_all d').1 80 17 e) (fun r1 => some r1)) := by
        unfold fX1_readLevel fX1_readLevel_L35 fX1_readLevel_L39
        by_cases c2 : lv = 2
        · subst c2
          simp (disch := omega) only [il_0, il_1, il_2, il_3, il_4, il_5, il_6, il_7, il_8, il_9, il_10, il_11, il_12, il_13, il_16, il_20, il_30, il_31, il_32, il_33, il_36, il_37, il_38, il_40, il_41, il_42, il_43, il_45, il_47, il_48, il_50, il_57, il_60, il_61, il_62, il_70, il_71, il_79, il_80, il_97, il_98, il_99, il_100, il_107, il_110, il_111, il_114, il_115, il_116, il_121, il_124, il_128, il_130, il_140, il_160, il_255, il_399, il_540, il_590, il_610, il_999, il_1000, il_1250, il_10000, il_12345, il_99999, il_1000000, il_1103515245, ll_0, ll_1, ll_2, ll_3, ll_4, ll_5, ll_6, ll_7, ll_8, ll_9, ll_30, ll_48, ll_50, ll_57, ll_99, ll_100, ll_255, ll_399, ll_999, ll_99999, nq_bs, nq_ltS, nq_b2S, b2_id, bi_id, iI_add, iI_sub, iI_mul, iI_neg, lI_neg, iI_64, iI_lt, iI_le, iI_eq, iI_ag, iI_as, iI_ar, iI_dv, iI_rem, isOut8, in9, bo_nz, bo_t, bo_f, wr_s, wr_n, wr_k, if_pos, if_neg, ↓reduceIte, Nat.reduceAdd, Nat.reduceMul, Nat.reduceSub, Nat.reduceEqDiff, Int.reduceToNat, Int.toNat_natCast, Int.reduceNeg, Int.reduceAdd, Int.reduceSub, Int.reduceMul, q2, e1]
          rfl
        · simp (disch := omega) only [il_0, il_1, il_2, il_3, il_4, il_5, il_6, il_7, il_8, il_9, il_10, il_11, il_12, il_13, il_16, il_20, il_30, il_31, il_32, il_33, il_36, il_37, il_38, il_40, il_41, il_42, il_43, il_45, il_47, il_48, il_50, il_57, il_60, il_61, il_62, il_70, il_71, il_79, il_80, il_97, il_98, il_99, il_100, il_107, il_110, il_111, il_114, il_115, il_116, il_121, il_124, il_128, il_130, il_140, il_160, il_255, il_399, il_540, il_590, il_610, il_999, il_1000, il_1250, il_10000, il_12345, il_99999, il_1000000, il_1103515245, ll_0, ll_1, ll_2, ll_3, ll_4, ll_5, ll_6, ll_7, ll_8, ll_9, ll_30, ll_48, ll_50, ll_57, ll_99, ll_100, ll_255, ll_399, ll_999, ll_99999, nq_bs, nq_ltS, nq_b2S, b2_id, bi_id, iI_add, iI_sub, iI_mul, iI_neg, lI_neg, iI_64, iI_lt, iI_le, iI_eq, iI_ag, iI_as, iI_ar, iI_dv, iI_rem, isOut8, in9, bo_nz, bo_t, bo_f, wr_s, wr_n, wr_k, if_pos, if_neg, ↓reduceIte, Nat.reduceAdd, Nat.reduceMul, Nat.reduceSub, Nat.reduceEqDiff, Int.reduceToNat, Int.toNat_natCast, Int.reduceNeg, Int.reduceAdd, Int.reduceSub, Int.reduceMul, q2, e1]
          rfl
      have e3 : iI (((if lv = 2 then 1 else 50) - (if lv = 2 then 1 else 50) : Nat) : Int) = iI 0 := by rw [Nat.sub_self]; rfl
      rw [e3] at h2
      rcases h2 with ⟨z1, z2, z3⟩ | ⟨z1, z2, z3⟩
      · refine ⟨M2, ?_, F2, fun _ => z3, fun c => by rw [z1] at c; cases c⟩
        rw [e2, z2, z1]; rfl
      · refine ⟨M2, ?_, F2, fun c => (by rw [z1] at c; cases c), fun _ => z3⟩
        rw [e2, z2, z1]; rfl
theorem simAll {B : Nat → Int} {n : Nat} {o : Bool} : ∀ f, SimU B n o f ∧ SimL B n o f := by
  intro f
  induction f with
  | zero =>
    refine ⟨fun op d h1 h2 => absurd h2 (by omega), fun lv op d h1 h2 h3 => absurd h3 (by omega)⟩
  | succ f ih =>
    have u := simU ih.1 ih.2
    exact ⟨u, simL u ih.2⟩
