/-! 15.e: hop: route -/
def nxC (w : Nat → Nat) (t a b : Nat) : Bool := decide (Tgt w t a b ∧ NN w b t + 1 = NN w a t)
def nxF (w : Nat → Nat) (t a : Nat) : Nat := match (List.range 6).find? (nxC w t a) with | some b => b | none => t
theorem nxF_ok {w : Nat → Nat} (hw : ∀ j, j < 36 → w j ≤ 30) (hd : ∀ a, a < 6 → w (a * 6 + a) = 0) {t a : Nat} (ht : t < 6) (ha : a < 6) (hat : a ≠ t) (hr : YY w a t < 10000) : ∃ b, (List.range 6).find? (nxC w t a) = some b ∧ nxF w t a = b ∧ b < 6 ∧ Tgt w t a b ∧ NN w b t + 1 = NN w a t ∧ YY w b t < 10000 ∧ ∀ k, k < b → nxC w t a k = false := by
  obtain ⟨b0, h1, h2, h3, h4⟩ := ex_n hw ht ha hat hr
  cases hf : (List.range 6).find? (nxC w t a) with
  | none =>
    rw [List.find?_range_eq_none] at hf
    have := hf b0 h1
    unfold nxC at this
    rw [Bool.not_eq_true', decide_eq_false_iff_not] at this
    exact absurd ⟨h2, h3.symm⟩ this
  | some b =>
    have hf' := hf
    rw [List.find?_range_eq_some] at hf
    obtain ⟨g1, g2, g3⟩ := hf
    have g1' := g1
    unfold nxC at g1'
    rw [decide_eq_true_eq] at g1'
    have hb : b < 6 := by simpa using g2
    refine ⟨b, rfl, ?_, hb, g1'.1, g1'.2, (tgt_n hw hd ht ha hb hr g1'.1).2.1, ?_⟩
    · unfold nxF; rw [hf']
    · intro k hk
      have := g3 k hk
      simpa using this
theorem nextStop8 {M : Mem} {D : Nat → Int} {t a : Nat} (hR : GR M 3 D) (ht : t < 6) (ha : a < 6) (hr : YY (nearN D) a t < 10000) : fX2_nextStop 3 (iI a) (iI t) M = some (iI (nxF (nearN D) t a)) := by
  have hw := near_bd hR
  have hdd : ∀ a, a < 6 → nearN D (a * 6 + a) = 0 := fun a ha => by
    have := hR.2.2.2.1 a ha
    unfold nearN; rw [show 20 + (a * 6 + a) = 20 + 7 * a by omega, this]; rfl
  have eL : ∀ a b : Nat, a < 6 → b < 6 → M 5 (a * 6 + b) = iI (LL (nearN D) a b) := by
    intro a b ha hb
    have := hR.2.2.2.2 (a * 6 + b) (by omega)
    rw [ml_fw, iI_nat] at this; exact this
  have eb : ∀ a b : Nat, a < 6 → b < 6 → LL (nearN D) a b ≤ 1000000 := by
    intro a b ha hb
    have := ml_le hw 6 (a * 6 + b) (by omega)
    rw [ml_fw] at this; exact this
  have e := lp_find (body := fun s : Int32 => fX2_nextStop_B2 3 (iI a) (iI t) s M) (fun k => iI k) () (fun k => iI k) (nxC (nearN D) t a) 6 (by omega)
    (by
      intro k hk
      show fX2_nextStop_B2 3 (iI a) (iI t) (iI k) M = _
      have e1 := eL a t ha ht
      have e2 := eL k t hk ht
      have e3 := (hR.2.2.1 (a * 6 + k) (by omega)).1
      have nk := (hR.2.2.1 (a * 6 + k) (by omega)).2
      have ek : nearN D (a * 6 + k) = (D (20 + (a * 6 + k))).toNat := rfl
      have b1 := eb a t ha ht
      have b2 := eb k t hk ht
      have l1 := LY hw ha ht
      have l2 := LY hw hk ht
      have z1 : ((a : Int) * 6 + (t : Int)).toNat = a * 6 + t := by omega
      have z2 : ((k : Int) * 6 + (t : Int)).toNat = k * 6 + t := by omega
      have z3 : ((a : Int) * 6 + (k : Int)).toNat = a * 6 + k := by omega
      simp only [Nat.reduceAdd] at e3
      unfold fX2_nextStop_B2 fX2_step nxC
      simp only [decide_eq_true_eq]
      by_cases c0 : k = a
      · have d0 := hdd a ha
        subst c0
        have : ¬ (Tgt (nearN D) t k k ∧ NN (nearN D) k t + 1 = NN (nearN D) k t) := by omega
        rw [if_neg this]
        simp (disch := omega) only [il_0, il_1, il_2, il_3, il_4, il_5, il_6, il_7, il_8, il_9, il_10, il_11, il_12, il_13, il_16, il_20, il_30, il_31, il_32, il_33, il_36, il_37, il_38, il_40, il_41, il_42, il_43, il_45, il_47, il_48, il_50, il_57, il_60, il_61, il_62, il_70, il_71, il_79, il_80, il_97, il_98, il_99, il_100, il_107, il_110, il_111, il_114, il_115, il_116, il_121, il_124, il_128, il_130, il_140, il_160, il_255, il_399, il_540, il_590, il_610, il_999, il_1000, il_1250, il_10000, il_12345, il_99999, il_1000000, il_1103515245, ll_0, ll_1, ll_2, ll_3, ll_4, ll_5, ll_6, ll_7, ll_8, ll_9, ll_30, ll_48, ll_50, ll_57, ll_99, ll_100, ll_255, ll_399, ll_999, ll_99999, nq_bs, nq_ltS, nq_b2S, b2_id, bi_id, iI_add, iI_sub, iI_mul, iI_neg, lI_neg, iI_64, iI_lt, iI_le, iI_eq, iI_ag, iI_as, iI_ar, iI_dv, iI_rem, isOut8, in9, bo_nz, bo_t, bo_f, wr_s, wr_n, wr_k, if_pos, if_neg, ↓reduceIte, Nat.reduceAdd, Nat.reduceMul, Nat.reduceSub, Nat.reduceEqDiff, Int.reduceToNat, Int.toNat_natCast, Int.reduceNeg, Int.reduceAdd, Int.reduceSub, Int.reduceMul, z1, z2, e1, e2]
        rfl
      · by_cases c1 : D (20 + (a * 6 + k)) = 0
        · have : ¬ (Tgt (nearN D) t a k ∧ NN (nearN D) k t + 1 = NN (nearN D) a t) := by unfold Tgt; omega
          rw [if_neg this]
          simp (disch := omega) only [il_0, il_1, il_2, il_3, il_4, il_5, il_6, il_7, il_8, il_9, il_10, il_11, il_12, il_13, il_16, il_20, il_30, il_31, il_32, il_33, il_36, il_37, il_38, il_40, il_41, il_42, il_43, il_45, il_47, il_48, il_50, il_57, il_60, il_61, il_62, il_70, il_71, il_79, il_80, il_97, il_98, il_99, il_100, il_107, il_110, il_111, il_114, il_115, il_116, il_121, il_124, il_128, il_130, il_140, il_160, il_255, il_399, il_540, il_590, il_610, il_999, il_1000, il_1250, il_10000, il_12345, il_99999, il_1000000, il_1103515245, ll_0, ll_1, ll_2, ll_3, ll_4, ll_5, ll_6, ll_7, ll_8, ll_9, ll_30, ll_48, ll_50, ll_57, ll_99, ll_100, ll_255, ll_399, ll_999, ll_99999, nq_bs, nq_ltS, nq_b2S, b2_id, bi_id, iI_add, iI_sub, iI_mul, iI_neg, lI_neg, iI_64, iI_lt, iI_le, iI_eq, iI_ag, iI_as, iI_ar, iI_dv, iI_rem, isOut8, in9, bo_nz, bo_t, bo_f, wr_s, wr_n, wr_k, if_pos, if_neg, ↓reduceIte, Nat.reduceAdd, Nat.reduceMul, Nat.reduceSub, Nat.reduceEqDiff, Int.reduceToNat, Int.toNat_natCast, Int.reduceNeg, Int.reduceAdd, Int.reduceSub, Int.reduceMul, z1, z2, z3, e1, e2, e3]
          rfl
        · by_cases c2 : Tgt (nearN D) t a k ∧ NN (nearN D) k t + 1 = NN (nearN D) a t
          · rw [if_pos c2]
            have : (LL (nearN D) a t : Int) - (LL (nearN D) k t : Int) = 10 * D (20 + (a * 6 + k)) + 1 := by
              unfold Tgt NN at c2; omega
            simp (disch := omega) only [il_0, il_1, il_2, il_3, il_4, il_5, il_6, il_7, il_8, il_9, il_10, il_11, il_12, il_13, il_16, il_20, il_30, il_31, il_32, il_33, il_36, il_37, il_38, il_40, il_41, il_42, il_43, il_45, il_47, il_48, il_50, il_57, il_60, il_61, il_62, il_70, il_71, il_79, il_80, il_97, il_98, il_99, il_100, il_107, il_110, il_111, il_114, il_115, il_116, il_121, il_124, il_128, il_130, il_140, il_160, il_255, il_399, il_540, il_590, il_610, il_999, il_1000, il_1250, il_10000, il_12345, il_99999, il_1000000, il_1103515245, ll_0, ll_1, ll_2, ll_3, ll_4, ll_5, ll_6, ll_7, ll_8, ll_9, ll_30, ll_48, ll_50, ll_57, ll_99, ll_100, ll_255, ll_399, ll_999, ll_99999, nq_bs, nq_ltS, nq_b2S, b2_id, bi_id, iI_add, iI_sub, iI_mul, iI_neg, lI_neg, iI_64, iI_lt, iI_le, iI_eq, iI_ag, iI_as, iI_ar, iI_dv, iI_rem, isOut8, in9, bo_nz, bo_t, bo_f, wr_s, wr_n, wr_k, if_pos, if_neg, ↓reduceIte, Nat.reduceAdd, Nat.reduceMul, Nat.reduceSub, Nat.reduceEqDiff, Int.reduceToNat, Int.toNat_natCast, Int.reduceNeg, Int.reduceAdd, Int.reduceSub, Int.reduceMul, z1, z2, z3, e1, e2, e3]
          · rw [if_neg c2]
            have : ¬ (LL (nearN D) a t : Int) - (LL (nearN D) k t : Int) = 10 * D (20 + (a * 6 + k)) + 1 := by
              intro q
              apply c2
              unfold Tgt NN; omega
            simp (disch := omega) only [il_0, il_1, il_2, il_3, il_4, il_5, il_6, il_7, il_8, il_9, il_10, il_11, il_12, il_13, il_16, il_20, il_30, il_31, il_32, il_33, il_36, il_37, il_38, il_40, il_41, il_42, il_43, il_45, il_47, il_48, il_50, il_57, il_60, il_61, il_62, il_70, il_71, il_79, il_80, il_97, il_98, il_99, il_100, il_107, il_110, il_111, il_114, il_115, il_116, il_121, il_124, il_128, il_130, il_140, il_160, il_255, il_399, il_540, il_590, il_610, il_999, il_1000, il_1250, il_10000, il_12345, il_99999, il_1000000, il_1103515245, ll_0, ll_1, ll_2, ll_3, ll_4, ll_5, ll_6, ll_7, ll_8, ll_9, ll_30, ll_48, ll_50, ll_57, ll_99, ll_100, ll_255, ll_399, ll_999, ll_99999, nq_bs, nq_ltS, nq_b2S, b2_id, bi_id, iI_add, iI_sub, iI_mul, iI_neg, lI_neg, iI_64, iI_lt, iI_le, iI_eq, iI_ag, iI_as, iI_ar, iI_dv, iI_rem, isOut8, in9, bo_nz, bo_t, bo_f, wr_s, wr_n, wr_k, if_pos, if_neg, ↓reduceIte, Nat.reduceAdd, Nat.reduceMul, Nat.reduceSub, Nat.reduceEqDiff, Int.reduceToNat, Int.toNat_natCast, Int.reduceNeg, Int.reduceAdd, Int.reduceSub, Int.reduceMul, z1, z2, z3, e1, e2, e3]
            rfl)
    (by
      show fX2_nextStop_B2 3 (iI a) (iI t) (iI ((6 : Nat) : Int)) M = _
      unfold fX2_nextStop_B2
      rw [if_pos (by decide)])
  unfold fX2_nextStop fX2_nextStop_L2 fX2_nextStop_L57 nxF
  rw [show (0 : Int32) = iI ((0 : Nat) : Int) from rfl, e]
  cases (List.range 6).find? (nxC (nearN D) t a) with
  | none => rfl
  | some b => rfl
theorem stop8 {M : Mem} {D : Nat → Int} {t one : Nat} {i : Int} (hR : GR M 3 D) (ht : t < 6) (h1 : one < 6) (hr : YY (nearN D) one t < 10000) (hi : 0 ≤ i ∧ i ≤ NN (nearN D) one t) : fX2_stop 3 (iI one) (iI t) (iI i) M = some (iI (((List.range i.toNat).foldl (fun (a : Nat) _ => nxF (nearN D) t a) one : Nat) : Int)) := by
  have hw := near_bd hR
  have hdd : ∀ a, a < 6 → nearN D (a * 6 + a) = 0 := fun a ha => by
    have := hR.2.2.2.1 a ha
    unfold nearN; rw [show 20 + (a * 6 + a) = 20 + 7 * a by omega, this]; rfl
  have l1 := LY hw h1 ht
  have nb : NN (nearN D) one t ≤ 5 := by unfold NN; omega
  have e := (lp_fold (body := fun s : Int32 × Int32 => fX2_stop_B6 3 (iI t) (iI i) s.1 s.2 M) (fun k (a : Nat) => (iI a, iI k)) (fun a => iI a) (fun (a : Nat) _ => nxF (nearN D) t a) i.toNat (fun k a => a < 6 ∧ YY (nearN D) a t < 10000 ∧ NN (nearN D) a t + k = NN (nearN D) one t) (by omega)
    (by
      rintro k a hk ⟨q1, q2, q3⟩
      have hat : a ≠ t := by
        rintro rfl
        have := nn_t (w := nearN D) ht; omega
      obtain ⟨b, _, n1, n2, _, n4, n5, _⟩ := nxF_ok hw hdd ht q1 hat q2
      refine ⟨?_, ?_, ?_, ?_⟩
      · show fX2_stop_B6 3 (iI t) (iI i) (iI a) (iI k) M = _
        unfold fX2_stop_B6
        rw [nextStop8 hR ht q1 q2]
        simp (disch := omega) only [il_0, il_1, il_2, il_3, il_4, il_5, il_6, il_7, il_8, il_9, il_10, il_11, il_12, il_13, il_16, il_20, il_30, il_31, il_32, il_33, il_36, il_37, il_38, il_40, il_41, il_42, il_43, il_45, il_47, il_48, il_50, il_57, il_60, il_61, il_62, il_70, il_71, il_79, il_80, il_97, il_98, il_99, il_100, il_107, il_110, il_111, il_114, il_115, il_116, il_121, il_124, il_128, il_130, il_140, il_160, il_255, il_399, il_540, il_590, il_610, il_999, il_1000, il_1250, il_10000, il_12345, il_99999, il_1000000, il_1103515245, ll_0, ll_1, ll_2, ll_3, ll_4, ll_5, ll_6, ll_7, ll_8, ll_9, ll_30, ll_48, ll_50, ll_57, ll_99, ll_100, ll_255, ll_399, ll_999, ll_99999, nq_bs, nq_ltS, nq_b2S, b2_id, bi_id, iI_add, iI_sub, iI_mul, iI_neg, lI_neg, iI_64, iI_lt, iI_le, iI_eq, iI_ag, iI_as, iI_ar, iI_dv, iI_rem, isOut8, in9, bo_nz, bo_t, bo_f, wr_s, wr_n, wr_k, if_pos, if_neg, ↓reduceIte, Nat.reduceAdd, Nat.reduceMul, Nat.reduceSub, Nat.reduceEqDiff, Int.reduceToNat, Int.toNat_natCast, Int.reduceNeg, Int.reduceAdd, Int.reduceSub, Int.reduceMul]
        rfl
      · omega
      · rw [n1]; exact n5
      · rw [n1]; omega)
    (by
      intro a _
      show fX2_stop_B6 3 (iI t) (iI i) (iI a) (iI (i.toNat : Nat)) M = _
      unfold fX2_stop_B6
      simp (disch := omega) only [il_0, il_1, il_2, il_3, il_4, il_5, il_6, il_7, il_8, il_9, il_10, il_11, il_12, il_13, il_16, il_20, il_30, il_31, il_32, il_33, il_36, il_37, il_38, il_40, il_41, il_42, il_43, il_45, il_47, il_48, il_50, il_57, il_60, il_61, il_62, il_70, il_71, il_79, il_80, il_97, il_98, il_99, il_100, il_107, il_110, il_111, il_114, il_115, il_116, il_121, il_124, il_128, il_130, il_140, il_160, il_255, il_399, il_540, il_590, il_610, il_999, il_1000, il_1250, il_10000, il_12345, il_99999, il_1000000, il_1103515245, ll_0, ll_1, ll_2, ll_3, ll_4, ll_5, ll_6, ll_7, ll_8, ll_9, ll_30, ll_48, ll_50, ll_57, ll_99, ll_100, ll_255, ll_399, ll_999, ll_99999, nq_bs, nq_ltS, nq_b2S, b2_id, bi_id, iI_add, iI_sub, iI_mul, iI_neg, lI_neg, iI_64, iI_lt, iI_le, iI_eq, iI_ag, iI_as, iI_ar, iI_dv, iI_rem, isOut8, in9, bo_nz, bo_t, bo_f, wr_s, wr_n, wr_k, if_pos, if_neg, ↓reduceIte, Nat.reduceAdd, Nat.reduceMul, Nat.reduceSub, Nat.reduceEqDiff, Int.reduceToNat, Int.toNat_natCast, Int.reduceNeg, Int.reduceAdd, Int.reduceSub, Int.reduceMul]) one ⟨h1, hr, by omega⟩).1
  unfold fX2_stop fX2_stop_L6 fX2_stop_L27
  rw [show (iI (one : Int), (0 : Int32)) = (iI (one : Int), iI ((0 : Nat) : Int)) from rfl, e]
  rfl
theorem route9 {M : Mem} {Mx : Mem} {D : Nat → Int} {t one : Nat} {i : Int} (hM : RtM D M) (hR : GR Mx 3 D) (hS : ∀ a, a < 6 → YY (nearN D) a t < 10000 → M 5 a = iI (NN (nearN D) a t)) (ht : t < 6) (h1 : one < 6) (hr : YY (nearN D) one t < 10000) (hi : 0 ≤ i ∧ i ≤ NN (nearN D) one t) : fX9_route_L83 (iI t) (iI i) (iI one) (iI 0) M = some (iI (((List.range i.toNat).foldl (fun (a : Nat) _ => nxF (nearN D) t a) one : Nat) : Int), M) := by
  have hw := near_bd hR
  have hn : ∀ j, j < 36 → 0 ≤ D (20 + j) ∧ D (20 + j) ≤ 30 := fun j hj => (hR.2.2.1 j hj).2
  have hdd : ∀ a, a < 6 → nearN D (a * 6 + a) = 0 := fun a ha => by
    have := hR.2.2.2.1 a ha
    unfold nearN; rw [show 20 + (a * 6 + a) = 20 + 7 * a by omega, this]; rfl
  have l1 := LY hw h1 ht
  have nb : NN (nearN D) one t ≤ 5 := by unfold NN; omega
  have e := (lp_fold (body := fun s : Int32 × Int32 => fX9_route_B83 (iI t) (iI i) s.1 s.2 M) (fun k (a : Nat) => (iI a, iI k)) (fun a => iI a) (fun (a : Nat) _ => nxF (nearN D) t a) i.toNat (fun k a => a < 6 ∧ YY (nearN D) a t < 10000 ∧ NN (nearN D) a t + k = NN (nearN D) one t) (by omega)
    (by
      rintro k a hk ⟨q1, q2, q3⟩
      have hat : a ≠ t := by
        rintro rfl
        have := nn_t (w := nearN D) ht; omega
      obtain ⟨b, _, n1, n2, n3, n4, n5, n6⟩ := nxF_ok hw hdd ht q1 hat q2
      have la := LY hw q1 ht
      obtain ⟨rr, z1, z2⟩ := nq_for0 (body := fun s : Int32 => fX9_route_B92_83 (iI t) (iI i) (iI a) (iI k) s M) b (fun m s => s = iI m) (fun r => r = iI b) (s := iI 0) (by omega) rfl
        (by
          rintro m s hm rfl
          left
          refine ⟨iI ((m + 1 : Nat) : Int), ?_, rfl⟩
          have lm := LY hw (show m < 6 by omega) ht
          have nm := n6 m hm
          unfold nxC at nm
          rw [decide_eq_false_iff_not] at nm
          unfold fX9_route_B92_83
          rw [onWay9 hM hn q1 (by omega) ht]
          by_cases c : Tgt (nearN D) t a m
          · have tm := tgt_n hw hdd ht q1 (show m < 6 by omega) q2 c
            have : ¬ NN (nearN D) m t + 1 = NN (nearN D) a t := fun q => nm ⟨c, q⟩
            have s1 := hS a q1 q2
            have s2 := hS m (by omega) tm.2.1
            unfold NN at this s1 s2
            rw [if_pos c]
            simp (disch := omega) only [il_0, il_1, il_2, il_3, il_4, il_5, il_6, il_7, il_8, il_9, il_10, il_11, il_12, il_13, il_16, il_20, il_30, il_31, il_32, il_33, il_36, il_37, il_38, il_40, il_41, il_42, il_43, il_45, il_47, il_48, il_50, il_57, il_60, il_61, il_62, il_70, il_71, il_79, il_80, il_97, il_98, il_99, il_100, il_107, il_110, il_111, il_114, il_115, il_116, il_121, il_124, il_128, il_130, il_140, il_160, il_255, il_399, il_540, il_590, il_610, il_999, il_1000, il_1250, il_10000, il_12345, il_99999, il_1000000, il_1103515245, ll_0, ll_1, ll_2, ll_3, ll_4, ll_5, ll_6, ll_7, ll_8, ll_9, ll_30, ll_48, ll_50, ll_57, ll_99, ll_100, ll_255, ll_399, ll_999, ll_99999, nq_bs, nq_ltS, nq_b2S, b2_id, bi_id, iI_add, iI_sub, iI_mul, iI_neg, lI_neg, iI_64, iI_lt, iI_le, iI_eq, iI_ag, iI_as, iI_ar, iI_dv, iI_rem, isOut8, in9, bo_nz, bo_t, bo_f, wr_s, wr_n, wr_k, if_pos, if_neg, ↓reduceIte, Nat.reduceAdd, Nat.reduceMul, Nat.reduceSub, Nat.reduceEqDiff, Int.reduceToNat, Int.toNat_natCast, Int.reduceNeg, Int.reduceAdd, Int.reduceSub, Int.reduceMul, s1, s2]
            rfl
          · rw [if_neg c]
            simp (disch := omega) only [il_0, il_1, il_2, il_3, il_4, il_5, il_6, il_7, il_8, il_9, il_10, il_11, il_12, il_13, il_16, il_20, il_30, il_31, il_32, il_33, il_36, il_37, il_38, il_40, il_41, il_42, il_43, il_45, il_47, il_48, il_50, il_57, il_60, il_61, il_62, il_70, il_71, il_79, il_80, il_97, il_98, il_99, il_100, il_107, il_110, il_111, il_114, il_115, il_116, il_121, il_124, il_128, il_130, il_140, il_160, il_255, il_399, il_540, il_590, il_610, il_999, il_1000, il_1250, il_10000, il_12345, il_99999, il_1000000, il_1103515245, ll_0, ll_1, ll_2, ll_3, ll_4, ll_5, ll_6, ll_7, ll_8, ll_9, ll_30, ll_48, ll_50, ll_57, ll_99, ll_100, ll_255, ll_399, ll_999, ll_99999, nq_bs, nq_ltS, nq_b2S, b2_id, bi_id, iI_add, iI_sub, iI_mul, iI_neg, lI_neg, iI_64, iI_lt, iI_le, iI_eq, iI_ag, iI_as, iI_ar, iI_dv, iI_rem, isOut8, in9, bo_nz, bo_t, bo_f, wr_s, wr_n, wr_k, if_pos, if_neg, ↓reduceIte, Nat.reduceAdd, Nat.reduceMul, Nat.reduceSub, Nat.reduceEqDiff, Int.reduceToNat, Int.toNat_natCast, Int.reduceNeg, Int.reduceAdd, Int.reduceSub, Int.reduceMul]
            rfl)
        (by
          rintro s rfl
          refine ⟨iI b, ?_, rfl⟩
          have lb := LY hw n2 ht
          have s1 := hS a q1 q2
          have s2 := hS b n2 n5
          unfold NN at n4 s1 s2
          unfold fX9_route_B92_83
          rw [onWay9 hM hn q1 n2 ht, if_pos n3]
          simp (disch := omega) only [il_0, il_1, il_2, il_3, il_4, il_5, il_6, il_7, il_8, il_9, il_10, il_11, il_12, il_13, il_16, il_20, il_30, il_31, il_32, il_33, il_36, il_37, il_38, il_40, il_41, il_42, il_43, il_45, il_47, il_48, il_50, il_57, il_60, il_61, il_62, il_70, il_71, il_79, il_80, il_97, il_98, il_99, il_100, il_107, il_110, il_111, il_114, il_115, il_116, il_121, il_124, il_128, il_130, il_140, il_160, il_255, il_399, il_540, il_590, il_610, il_999, il_1000, il_1250, il_10000, il_12345, il_99999, il_1000000, il_1103515245, ll_0, ll_1, ll_2, ll_3, ll_4, ll_5, ll_6, ll_7, ll_8, ll_9, ll_30, ll_48, ll_50, ll_57, ll_99, ll_100, ll_255, ll_399, ll_999, ll_99999, nq_bs, nq_ltS, nq_b2S, b2_id, bi_id, iI_add, iI_sub, iI_mul, iI_neg, lI_neg, iI_64, iI_lt, iI_le, iI_eq, iI_ag, iI_as, iI_ar, iI_dv, iI_rem, isOut8, in9, bo_nz, bo_t, bo_f, wr_s, wr_n, wr_k, if_pos, if_neg, ↓reduceIte, Nat.reduceAdd, Nat.reduceMul, Nat.reduceSub, Nat.reduceEqDiff, Int.reduceToNat, Int.toNat_natCast, Int.reduceNeg, Int.reduceAdd, Int.reduceSub, Int.reduceMul, s1, s2])
      refine ⟨?_, ?_, ?_, ?_⟩
      · show fX9_route_B83 (iI t) (iI i) (iI a) (iI k) M = _
        unfold fX9_route_B83 fX9_route_L92_83 fX9_route_L129_83
        rw [if_neg (by rw [iI_le (by omega) (by omega)]; omega), il_0, z1, z2, n1]
        simp only [nq_bs, nq_ltS, il_1, iI_add]
        rfl
      · omega
      · rw [n1]; exact n5
      · rw [n1]; omega)
    (by
      intro a _
      show fX9_route_B83 (iI t) (iI i) (iI a) (iI (i.toNat : Nat)) M = _
      unfold fX9_route_B83
      simp (disch := omega) only [il_0, il_1, il_2, il_3, il_4, il_5, il_6, il_7, il_8, il_9, il_10, il_11, il_12, il_13, il_16, il_20, il_30, il_31, il_32, il_33, il_36, il_37, il_38, il_40, il_41, il_42, il_43, il_45, il_47, il_48, il_50, il_57, il_60, il_61, il_62, il_70, il_71, il_79, il_80, il_97, il_98, il_99, il_100, il_107, il_110, il_111, il_114, il_115, il_116, il_121, il_124, il_128, il_130, il_140, il_160, il_255, il_399, il_540, il_590, il_610, il_999, il_1000, il_1250, il_10000, il_12345, il_99999, il_1000000, il_1103515245, ll_0, ll_1, ll_2, ll_3, ll_4, ll_5, ll_6, ll_7, ll_8, ll_9, ll_30, ll_48, ll_50, ll_57, ll_99, ll_100, ll_255, ll_399, ll_999, ll_99999, nq_bs, nq_ltS, nq_b2S, b2_id, bi_id, iI_add, iI_sub, iI_mul, iI_neg, lI_neg, iI_64, iI_lt, iI_le, iI_eq, iI_ag, iI_as, iI_ar, iI_dv, iI_rem, isOut8, in9, bo_nz, bo_t, bo_f, wr_s, wr_n, wr_k, if_pos, if_neg, ↓reduceIte, Nat.reduceAdd, Nat.reduceMul, Nat.reduceSub, Nat.reduceEqDiff, Int.reduceToNat, Int.toNat_natCast, Int.reduceNeg, Int.reduceAdd, Int.reduceSub, Int.reduceMul]) one ⟨h1, hr, by omega⟩).1
  unfold fX9_route_L83 fX9_route_L139
  rw [show (iI (one : Int), iI 0) = (iI (one : Int), iI ((0 : Nat) : Int)) from rfl, e]
  rfl
theorem stops8 {M : Mem} {D : Nat → Int} {t one : Nat} (hR : GR M 3 D) (ht : t < 6) (h1 : one < 6) : fX2_stops 3 (iI one) (iI t) M = some (iI ((NN (nearN D) one t : Int) + 1)) := by
  have hw := near_bd hR
  have eL : M 5 (one * 6 + t) = iI (LL (nearN D) one t) := by
    have := hR.2.2.2.2 (one * 6 + t) (by omega)
    rw [ml_fw, iI_nat] at this; exact this
  have eb : LL (nearN D) one t ≤ 1000000 := by
    have := ml_le hw 6 (one * 6 + t) (by omega)
    rw [ml_fw] at this; exact this
  have z1 : ((one : Int) * 6 + (t : Int)).toNat = one * 6 + t := by omega
  unfold fX2_stops NN
  simp (disch := omega) only [il_0, il_1, il_2, il_3, il_4, il_5, il_6, il_7, il_8, il_9, il_10, il_11, il_12, il_13, il_16, il_20, il_30, il_31, il_32, il_33, il_36, il_37, il_38, il_40, il_41, il_42, il_43, il_45, il_47, il_48, il_50, il_57, il_60, il_61, il_62, il_70, il_71, il_79, il_80, il_97, il_98, il_99, il_100, il_107, il_110, il_111, il_114, il_115, il_116, il_121, il_124, il_128, il_130, il_140, il_160, il_255, il_399, il_540, il_590, il_610, il_999, il_1000, il_1250, il_10000, il_12345, il_99999, il_1000000, il_1103515245, ll_0, ll_1, ll_2, ll_3, ll_4, ll_5, ll_6, ll_7, ll_8, ll_9, ll_30, ll_48, ll_50, ll_57, ll_99, ll_100, ll_255, ll_399, ll_999, ll_99999, nq_bs, nq_ltS, nq_b2S, b2_id, bi_id, iI_add, iI_sub, iI_mul, iI_neg, lI_neg, iI_64, iI_lt, iI_le, iI_eq, iI_ag, iI_as, iI_ar, iI_dv, iI_rem, isOut8, in9, bo_nz, bo_t, bo_f, wr_s, wr_n, wr_k, if_pos, if_neg, ↓reduceIte, Nat.reduceAdd, Nat.reduceMul, Nat.reduceSub, Nat.reduceEqDiff, Int.reduceToNat, Int.toNat_natCast, Int.reduceNeg, Int.reduceAdd, Int.reduceSub, Int.reduceMul, z1, eL]
  congr 2
theorem hop_route (a0 a1 a2 : Int32) (Mx Mm : Mem) (h : RR Mx Mm) : ∃ (r : Int32) (Mx1 Mm1 : Mem), fX8_route a0 a1 a2 Mx = some (r, Mx1) ∧ fX9_route a0 a1 a2 Mm = some (r, Mm1) ∧ RR Mx1 Mm1 := by
  obtain ⟨D, hc⟩ := h.1
  have hc' := hc
  obtain ⟨h0, hS, hR, hL, hA, hT⟩ := hc'
  have p0 : Mx 3 0 = iI (D 1) := hR.1
  have p1 := hR.2.1
  have p0m : Mm 1 1 = iI (D 1) := h0 1 (by omega)
  have w0m : Mm 1 2 = iI (D 2) := h0 2 (by omega)
  have w0 : Mx 6 0 = iI (D 2) := hL.1
  have w1 := hL.2.1
  obtain ⟨⟨s0, s5, s6, s7, s4, s9, s3, s10⟩, s0', s4', s5', s6', s7', s8', s9', s3', s10'⟩ := hS
  have hS := hc.2.1
  obtain ⟨x, hx, rfl⟩ := iI_of a0
  obtain ⟨y, hy, rfl⟩ := iI_of a1
  obtain ⟨z, hz, rfl⟩ := iI_of a2
  by_cases gx : 0 ≤ x ∧ x < D 1
  · by_cases gy : 0 ≤ y ∧ y < D 1
    · by_cases gz : -1 ≤ z
      · obtain ⟨a, rfl⟩ := Int.eq_ofNat_of_zero_le gx.1
        obtain ⟨t, rfl⟩ := Int.eq_ofNat_of_zero_le gy.1
        have ha : a < 6 := by omega
        have ht : t < 6 := by omega
        have hR3 : GR Mx 3 D := hR
        have hw := near_bd hR3
        have hn : ∀ j, j < 36 → 0 ≤ D (20 + j) ∧ D (20 + j) ≤ 30 := fun j hj => (hR.2.2.1 j hj).2
        have bd := wayI_bd hR3 (i := (a : Int)) (j := (t : Int)) (by omega) (by omega)
        have k8 := years8 hR3 (i := (a : Int)) (j := (t : Int)) (by omega) (by omega)
        have k9 := wayOf9 h0 hR3 (i := (a : Int)) (j := (t : Int)) (by omega) (by omega)
        have wi : wayI D a t = if YY (nearN D) a t < 10000 then (YY (nearN D) a t : Int) else -1 := rfl
        have lay := LY hw ha ht
        by_cases c : YY (nearN D) a t < 10000
        · rw [if_pos c] at wi
          have hM : RtM D (wayM D Mm) := ⟨fun j hj => by rw [wayM_k (by omega)]; exact h0 j hj, fun a t ha ht => wayM_4 ha ht⟩
          obtain ⟨M', x1, x2, x3⟩ := steps9 hM hn hR.2.2.2.1 ht
          have hM' : RtM D M' := ⟨fun j hj => by rw [x2 1 (by omega)]; exact hM.1 j hj, fun a t ha ht => by rw [x2 4 (by omega)]; exact hM.2 a t ha ht⟩
          have hRR : RR Mx M' := (h.wayM (D := D)).scr (KeepX.refl _) (fun _ _ _ => rfl) ⟨fun k hk => x2 k (by omega), by rw [x2 0 (by omega)], by rw [x2 0 (by omega)]⟩ (x2 1 (by omega))
          have st := stops8 hR3 ht ha
          have sa := x3 a ha c
          have nb : NN (nearN D) a t ≤ 5 := by unfold NN; omega
          by_cases c1 : z = -1
          · refine ⟨iI ((NN (nearN D) a t : Int) + 1), Mx, M', ?_, ?_, hRR⟩
            · unfold fX8_route
              simp (disch := omega) only [il_0, il_1, il_2, il_3, il_4, il_5, il_6, il_7, il_8, il_9, il_10, il_11, il_12, il_13, il_16, il_20, il_30, il_31, il_32, il_33, il_36, il_37, il_38, il_40, il_41, il_42, il_43, il_45, il_47, il_48, il_50, il_57, il_60, il_61, il_62, il_70, il_71, il_79, il_80, il_97, il_98, il_99, il_100, il_107, il_110, il_111, il_114, il_115, il_116, il_121, il_124, il_128, il_130, il_140, il_160, il_255, il_399, il_540, il_590, il_610, il_999, il_1000, il_1250, il_10000, il_12345, il_99999, il_1000000, il_1103515245, ll_0, ll_1, ll_2, ll_3, ll_4, ll_5, ll_6, ll_7, ll_8, ll_9, ll_30, ll_48, ll_50, ll_57, ll_99, ll_100, ll_255, ll_399, ll_999, ll_99999, nq_bs, nq_ltS, nq_b2S, b2_id, bi_id, iI_add, iI_sub, iI_mul, iI_neg, lI_neg, iI_64, iI_lt, iI_le, iI_eq, iI_ag, iI_as, iI_ar, iI_dv, iI_rem, isOut8, in9, bo_nz, bo_t, bo_f, wr_s, wr_n, wr_k, if_pos, if_neg, ↓reduceIte, Nat.reduceAdd, Nat.reduceMul, Nat.reduceSub, Nat.reduceEqDiff, Int.reduceToNat, Int.toNat_natCast, Int.reduceNeg, Int.reduceAdd, Int.reduceSub, Int.reduceMul, isPlace8 p0 p1, isPlace9 p0m p1, areTwo8 p0 p1, areTwo9 p0m p1, isPair8 p0 p1, areFt9 p0m p1, isPact8, isPact9, isWord8 w0 w1, isWord9 w0m w1, isSheet8, isSheet9, isPart8, isPart9, k8, wi, st]
            · unfold fX9_route
              simp (disch := omega) only [il_0, il_1, il_2, il_3, il_4, il_5, il_6, il_7, il_8, il_9, il_10, il_11, il_12, il_13, il_16, il_20, il_30, il_31, il_32, il_33, il_36, il_37, il_38, il_40, il_41, il_42, il_43, il_45, il_47, il_48, il_50, il_57, il_60, il_61, il_62, il_70, il_71, il_79, il_80, il_97, il_98, il_99, il_100, il_107, il_110, il_111, il_114, il_115, il_116, il_121, il_124, il_128, il_130, il_140, il_160, il_255, il_399, il_540, il_590, il_610, il_999, il_1000, il_1250, il_10000, il_12345, il_99999, il_1000000, il_1103515245, ll_0, ll_1, ll_2, ll_3, ll_4, ll_5, ll_6, ll_7, ll_8, ll_9, ll_30, ll_48, ll_50, ll_57, ll_99, ll_100, ll_255, ll_399, ll_999, ll_99999, nq_bs, nq_ltS, nq_b2S, b2_id, bi_id, iI_add, iI_sub, iI_mul, iI_neg, lI_neg, iI_64, iI_lt, iI_le, iI_eq, iI_ag, iI_as, iI_ar, iI_dv, iI_rem, isOut8, in9, bo_nz, bo_t, bo_f, wr_s, wr_n, wr_k, if_pos, if_neg, ↓reduceIte, Nat.reduceAdd, Nat.reduceMul, Nat.reduceSub, Nat.reduceEqDiff, Int.reduceToNat, Int.toNat_natCast, Int.reduceNeg, Int.reduceAdd, Int.reduceSub, Int.reduceMul, isPlace8 p0 p1, isPlace9 p0m p1, areTwo8 p0 p1, areTwo9 p0m p1, isPair8 p0 p1, areFt9 p0m p1, isPact8, isPact9, isWord8 w0 w1, isWord9 w0m w1, isSheet8, isSheet9, isPart8, isPart9, k9, wi, x1, sa]
          · by_cases c2 : z ≤ NN (nearN D) a t
            · refine ⟨iI (((List.range z.toNat).foldl (fun (a : Nat) _ => nxF (nearN D) t a) a : Nat) : Int), Mx, M', ?_, ?_, hRR⟩
              · unfold fX8_route
                simp (disch := omega) only [il_0, il_1, il_2, il_3, il_4, il_5, il_6, il_7, il_8, il_9, il_10, il_11, il_12, il_13, il_16, il_20, il_30, il_31, il_32, il_33, il_36, il_37, il_38, il_40, il_41, il_42, il_43, il_45, il_47, il_48, il_50, il_57, il_60, il_61, il_62, il_70, il_71, il_79, il_80, il_97, il_98, il_99, il_100, il_107, il_110, il_111, il_114, il_115, il_116, il_121, il_124, il_128, il_130, il_140, il_160, il_255, il_399, il_540, il_590, il_610, il_999, il_1000, il_1250, il_10000, il_12345, il_99999, il_1000000, il_1103515245, ll_0, ll_1, ll_2, ll_3, ll_4, ll_5, ll_6, ll_7, ll_8, ll_9, ll_30, ll_48, ll_50, ll_57, ll_99, ll_100, ll_255, ll_399, ll_999, ll_99999, nq_bs, nq_ltS, nq_b2S, b2_id, bi_id, iI_add, iI_sub, iI_mul, iI_neg, lI_neg, iI_64, iI_lt, iI_le, iI_eq, iI_ag, iI_as, iI_ar, iI_dv, iI_rem, isOut8, in9, bo_nz, bo_t, bo_f, wr_s, wr_n, wr_k, if_pos, if_neg, ↓reduceIte, Nat.reduceAdd, Nat.reduceMul, Nat.reduceSub, Nat.reduceEqDiff, Int.reduceToNat, Int.toNat_natCast, Int.reduceNeg, Int.reduceAdd, Int.reduceSub, Int.reduceMul, isPlace8 p0 p1, isPlace9 p0m p1, areTwo8 p0 p1, areTwo9 p0m p1, isPair8 p0 p1, areFt9 p0m p1, isPact8, isPact9, isWord8 w0 w1, isWord9 w0m w1, isSheet8, isSheet9, isPart8, isPart9, k8, wi, st, stop8 hR3 ht ha c (show 0 ≤ z ∧ z ≤ NN (nearN D) a t by omega)]
              · unfold fX9_route
                simp (disch := omega) only [il_0, il_1, il_2, il_3, il_4, il_5, il_6, il_7, il_8, il_9, il_10, il_11, il_12, il_13, il_16, il_20, il_30, il_31, il_32, il_33, il_36, il_37, il_38, il_40, il_41, il_42, il_43, il_45, il_47, il_48, il_50, il_57, il_60, il_61, il_62, il_70, il_71, il_79, il_80, il_97, il_98, il_99, il_100, il_107, il_110, il_111, il_114, il_115, il_116, il_121, il_124, il_128, il_130, il_140, il_160, il_255, il_399, il_540, il_590, il_610, il_999, il_1000, il_1250, il_10000, il_12345, il_99999, il_1000000, il_1103515245, ll_0, ll_1, ll_2, ll_3, ll_4, ll_5, ll_6, ll_7, ll_8, ll_9, ll_30, ll_48, ll_50, ll_57, ll_99, ll_100, ll_255, ll_399, ll_999, ll_99999, nq_bs, nq_ltS, nq_b2S, b2_id, bi_id, iI_add, iI_sub, iI_mul, iI_neg, lI_neg, iI_64, iI_lt, iI_le, iI_eq, iI_ag, iI_as, iI_ar, iI_dv, iI_rem, isOut8, in9, bo_nz, bo_t, bo_f, wr_s, wr_n, wr_k, if_pos, if_neg, ↓reduceIte, Nat.reduceAdd, Nat.reduceMul, Nat.reduceSub, Nat.reduceEqDiff, Int.reduceToNat, Int.toNat_natCast, Int.reduceNeg, Int.reduceAdd, Int.reduceSub, Int.reduceMul, isPlace8 p0 p1, isPlace9 p0m p1, areTwo8 p0 p1, areTwo9 p0m p1, isPair8 p0 p1, areFt9 p0m p1, isPact8, isPact9, isWord8 w0 w1, isWord9 w0m w1, isSheet8, isSheet9, isPart8, isPart9, k9, wi, x1, sa, route9 hM' hR3 x3 ht ha c (show 0 ≤ z ∧ z ≤ NN (nearN D) a t by omega)]
            · refine hRR.ref 2 (by omega) (by omega) ?_ ?_
              · unfold fX8_route
                simp (disch := omega) only [il_0, il_1, il_2, il_3, il_4, il_5, il_6, il_7, il_8, il_9, il_10, il_11, il_12, il_13, il_16, il_20, il_30, il_31, il_32, il_33, il_36, il_37, il_38, il_40, il_41, il_42, il_43, il_45, il_47, il_48, il_50, il_57, il_60, il_61, il_62, il_70, il_71, il_79, il_80, il_97, il_98, il_99, il_100, il_107, il_110, il_111, il_114, il_115, il_116, il_121, il_124, il_128, il_130, il_140, il_160, il_255, il_399, il_540, il_590, il_610, il_999, il_1000, il_1250, il_10000, il_12345, il_99999, il_1000000, il_1103515245, ll_0, ll_1, ll_2, ll_3, ll_4, ll_5, ll_6, ll_7, ll_8, ll_9, ll_30, ll_48, ll_50, ll_57, ll_99, ll_100, ll_255, ll_399, ll_999, ll_99999, nq_bs, nq_ltS, nq_b2S, b2_id, bi_id, iI_add, iI_sub, iI_mul, iI_neg, lI_neg, iI_64, iI_lt, iI_le, iI_eq, iI_ag, iI_as, iI_ar, iI_dv, iI_rem, isOut8, in9, bo_nz, bo_t, bo_f, wr_s, wr_n, wr_k, if_pos, if_neg, ↓reduceIte, Nat.reduceAdd, Nat.reduceMul, Nat.reduceSub, Nat.reduceEqDiff, Int.reduceToNat, Int.toNat_natCast, Int.reduceNeg, Int.reduceAdd, Int.reduceSub, Int.reduceMul, isPlace8 p0 p1, isPlace9 p0m p1, areTwo8 p0 p1, areTwo9 p0m p1, isPair8 p0 p1, areFt9 p0m p1, isPact8, isPact9, isWord8 w0 w1, isWord9 w0m w1, isSheet8, isSheet9, isPart8, isPart9, k8, wi, st]
              · unfold fX9_route
                simp (disch := omega) only [il_0, il_1, il_2, il_3, il_4, il_5, il_6, il_7, il_8, il_9, il_10, il_11, il_12, il_13, il_16, il_20, il_30, il_31, il_32, il_33, il_36, il_37, il_38, il_40, il_41, il_42, il_43, il_45, il_47, il_48, il_50, il_57, il_60, il_61, il_62, il_70, il_71, il_79, il_80, il_97, il_98, il_99, il_100, il_107, il_110, il_111, il_114, il_115, il_116, il_121, il_124, il_128, il_130, il_140, il_160, il_255, il_399, il_540, il_590, il_610, il_999, il_1000, il_1250, il_10000, il_12345, il_99999, il_1000000, il_1103515245, ll_0, ll_1, ll_2, ll_3, ll_4, ll_5, ll_6, ll_7, ll_8, ll_9, ll_30, ll_48, ll_50, ll_57, ll_99, ll_100, ll_255, ll_399, ll_999, ll_99999, nq_bs, nq_ltS, nq_b2S, b2_id, bi_id, iI_add, iI_sub, iI_mul, iI_neg, lI_neg, iI_64, iI_lt, iI_le, iI_eq, iI_ag, iI_as, iI_ar, iI_dv, iI_rem, isOut8, in9, bo_nz, bo_t, bo_f, wr_s, wr_n, wr_k, if_pos, if_neg, ↓reduceIte, Nat.reduceAdd, Nat.reduceMul, Nat.reduceSub, Nat.reduceEqDiff, Int.reduceToNat, Int.toNat_natCast, Int.reduceNeg, Int.reduceAdd, Int.reduceSub, Int.reduceMul, isPlace8 p0 p1, isPlace9 p0m p1, areTwo8 p0 p1, areTwo9 p0m p1, isPair8 p0 p1, areFt9 p0m p1, isPact8, isPact9, isWord8 w0 w1, isWord9 w0m w1, isSheet8, isSheet9, isPart8, isPart9, k9, wi, x1, sa]
        · rw [if_neg c] at wi
          refine (h.wayM (D := D)).ref 2 (by omega) (by omega) ?_ ?_
          · unfold fX8_route
            simp (disch := omega) only [il_0, il_1, il_2, il_3, il_4, il_5, il_6, il_7, il_8, il_9, il_10, il_11, il_12, il_13, il_16, il_20, il_30, il_31, il_32, il_33, il_36, il_37, il_38, il_40, il_41, il_42, il_43, il_45, il_47, il_48, il_50, il_57, il_60, il_61, il_62, il_70, il_71, il_79, il_80, il_97, il_98, il_99, il_100, il_107, il_110, il_111, il_114, il_115, il_116, il_121, il_124, il_128, il_130, il_140, il_160, il_255, il_399, il_540, il_590, il_610, il_999, il_1000, il_1250, il_10000, il_12345, il_99999, il_1000000, il_1103515245, ll_0, ll_1, ll_2, ll_3, ll_4, ll_5, ll_6, ll_7, ll_8, ll_9, ll_30, ll_48, ll_50, ll_57, ll_99, ll_100, ll_255, ll_399, ll_999, ll_99999, nq_bs, nq_ltS, nq_b2S, b2_id, bi_id, iI_add, iI_sub, iI_mul, iI_neg, lI_neg, iI_64, iI_lt, iI_le, iI_eq, iI_ag, iI_as, iI_ar, iI_dv, iI_rem, isOut8, in9, bo_nz, bo_t, bo_f, wr_s, wr_n, wr_k, if_pos, if_neg, ↓reduceIte, Nat.reduceAdd, Nat.reduceMul, Nat.reduceSub, Nat.reduceEqDiff, Int.reduceToNat, Int.toNat_natCast, Int.reduceNeg, Int.reduceAdd, Int.reduceSub, Int.reduceMul, isPlace8 p0 p1, isPlace9 p0m p1, areTwo8 p0 p1, areTwo9 p0m p1, isPair8 p0 p1, areFt9 p0m p1, isPact8, isPact9, isWord8 w0 w1, isWord9 w0m w1, isSheet8, isSheet9, isPart8, isPart9, k8, wi]
          · unfold fX9_route
            simp (disch := omega) only [il_0, il_1, il_2, il_3, il_4, il_5, il_6, il_7, il_8, il_9, il_10, il_11, il_12, il_13, il_16, il_20, il_30, il_31, il_32, il_33, il_36, il_37, il_38, il_40, il_41, il_42, il_43, il_45, il_47, il_48, il_50, il_57, il_60, il_61, il_62, il_70, il_71, il_79, il_80, il_97, il_98, il_99, il_100, il_107, il_110, il_111, il_114, il_115, il_116, il_121, il_124, il_128, il_130, il_140, il_160, il_255, il_399, il_540, il_590, il_610, il_999, il_1000, il_1250, il_10000, il_12345, il_99999, il_1000000, il_1103515245, ll_0, ll_1, ll_2, ll_3, ll_4, ll_5, ll_6, ll_7, ll_8, ll_9, ll_30, ll_48, ll_50, ll_57, ll_99, ll_100, ll_255, ll_399, ll_999, ll_99999, nq_bs, nq_ltS, nq_b2S, b2_id, bi_id, iI_add, iI_sub, iI_mul, iI_neg, lI_neg, iI_64, iI_lt, iI_le, iI_eq, iI_ag, iI_as, iI_ar, iI_dv, iI_rem, isOut8, in9, bo_nz, bo_t, bo_f, wr_s, wr_n, wr_k, if_pos, if_neg, ↓reduceIte, Nat.reduceAdd, Nat.reduceMul, Nat.reduceSub, Nat.reduceEqDiff, Int.reduceToNat, Int.toNat_natCast, Int.reduceNeg, Int.reduceAdd, Int.reduceSub, Int.reduceMul, isPlace8 p0 p1, isPlace9 p0m p1, areTwo8 p0 p1, areTwo9 p0m p1, isPair8 p0 p1, areFt9 p0m p1, isPact8, isPact9, isWord8 w0 w1, isWord9 w0m w1, isSheet8, isSheet9, isPart8, isPart9, k9, wi]
      · exact h.ref 1 (by omega) (by omega) (by unfold fX8_route; simp (disch := omega) only [il_0, il_1, il_2, il_3, il_4, il_5, il_6, il_7, il_8, il_9, il_10, il_11, il_12, il_13, il_16, il_20, il_30, il_31, il_32, il_33, il_36, il_37, il_38, il_40, il_41, il_42, il_43, il_45, il_47, il_48, il_50, il_57, il_60, il_61, il_62, il_70, il_71, il_79, il_80, il_97, il_98, il_99, il_100, il_107, il_110, il_111, il_114, il_115, il_116, il_121, il_124, il_128, il_130, il_140, il_160, il_255, il_399, il_540, il_590, il_610, il_999, il_1000, il_1250, il_10000, il_12345, il_99999, il_1000000, il_1103515245, ll_0, ll_1, ll_2, ll_3, ll_4, ll_5, ll_6, ll_7, ll_8, ll_9, ll_30, ll_48, ll_50, ll_57, ll_99, ll_100, ll_255, ll_399, ll_999, ll_99999, nq_bs, nq_ltS, nq_b2S, b2_id, bi_id, iI_add, iI_sub, iI_mul, iI_neg, lI_neg, iI_64, iI_lt, iI_le, iI_eq, iI_ag, iI_as, iI_ar, iI_dv, iI_rem, isOut8, in9, bo_nz, bo_t, bo_f, wr_s, wr_n, wr_k, if_pos, if_neg, ↓reduceIte, Nat.reduceAdd, Nat.reduceMul, Nat.reduceSub, Nat.reduceEqDiff, Int.reduceToNat, Int.toNat_natCast, Int.reduceNeg, Int.reduceAdd, Int.reduceSub, Int.reduceMul, isPlace8 p0 p1, isPlace9 p0m p1, areTwo8 p0 p1, areTwo9 p0m p1, isPair8 p0 p1, areFt9 p0m p1, isPact8, isPact9, isWord8 w0 w1, isWord9 w0m w1, isSheet8, isSheet9, isPart8, isPart9, h0]) (by unfold fX9_route; simp (disch := omega) only [il_0, il_1, il_2, il_3, il_4, il_5, il_6, il_7, il_8, il_9, il_10, il_11, il_12, il_13, il_16, il_20, il_30, il_31, il_32, il_33, il_36, il_37, il_38, il_40, il_41, il_42, il_43, il_45, il_47, il_48, il_50, il_57, il_60, il_61, il_62, il_70, il_71, il_79, il_80, il_97, il_98, il_99, il_100, il_107, il_110, il_111, il_114, il_115, il_116, il_121, il_124, il_128, il_130, il_140, il_160, il_255, il_399, il_540, il_590, il_610, il_999, il_1000, il_1250, il_10000, il_12345, il_99999, il_1000000, il_1103515245, ll_0, ll_1, ll_2, ll_3, ll_4, ll_5, ll_6, ll_7, ll_8, ll_9, ll_30, ll_48, ll_50, ll_57, ll_99, ll_100, ll_255, ll_399, ll_999, ll_99999, nq_bs, nq_ltS, nq_b2S, b2_id, bi_id, iI_add, iI_sub, iI_mul, iI_neg, lI_neg, iI_64, iI_lt, iI_le, iI_eq, iI_ag, iI_as, iI_ar, iI_dv, iI_rem, isOut8, in9, bo_nz, bo_t, bo_f, wr_s, wr_n, wr_k, if_pos, if_neg, ↓reduceIte, Nat.reduceAdd, Nat.reduceMul, Nat.reduceSub, Nat.reduceEqDiff, Int.reduceToNat, Int.toNat_natCast, Int.reduceNeg, Int.reduceAdd, Int.reduceSub, Int.reduceMul, isPlace8 p0 p1, isPlace9 p0m p1, areTwo8 p0 p1, areTwo9 p0m p1, isPair8 p0 p1, areFt9 p0m p1, isPact8, isPact9, isWord8 w0 w1, isWord9 w0m w1, isSheet8, isSheet9, isPart8, isPart9, h0])
    · exact h.ref 1 (by omega) (by omega) (by unfold fX8_route; simp (disch := omega) only [il_0, il_1, il_2, il_3, il_4, il_5, il_6, il_7, il_8, il_9, il_10, il_11, il_12, il_13, il_16, il_20, il_30, il_31, il_32, il_33, il_36, il_37, il_38, il_40, il_41, il_42, il_43, il_45, il_47, il_48, il_50, il_57, il_60, il_61, il_62, il_70, il_71, il_79, il_80, il_97, il_98, il_99, il_100, il_107, il_110, il_111, il_114, il_115, il_116, il_121, il_124, il_128, il_130, il_140, il_160, il_255, il_399, il_540, il_590, il_610, il_999, il_1000, il_1250, il_10000, il_12345, il_99999, il_1000000, il_1103515245, ll_0, ll_1, ll_2, ll_3, ll_4, ll_5, ll_6, ll_7, ll_8, ll_9, ll_30, ll_48, ll_50, ll_57, ll_99, ll_100, ll_255, ll_399, ll_999, ll_99999, nq_bs, nq_ltS, nq_b2S, b2_id, bi_id, iI_add, iI_sub, iI_mul, iI_neg, lI_neg, iI_64, iI_lt, iI_le, iI_eq, iI_ag, iI_as, iI_ar, iI_dv, iI_rem, isOut8, in9, bo_nz, bo_t, bo_f, wr_s, wr_n, wr_k, if_pos, if_neg, ↓reduceIte, Nat.reduceAdd, Nat.reduceMul, Nat.reduceSub, Nat.reduceEqDiff, Int.reduceToNat, Int.toNat_natCast, Int.reduceNeg, Int.reduceAdd, Int.reduceSub, Int.reduceMul, isPlace8 p0 p1, isPlace9 p0m p1, areTwo8 p0 p1, areTwo9 p0m p1, isPair8 p0 p1, areFt9 p0m p1, isPact8, isPact9, isWord8 w0 w1, isWord9 w0m w1, isSheet8, isSheet9, isPart8, isPart9, h0]) (by unfold fX9_route; simp (disch := omega) only [il_0, il_1, il_2, il_3, il_4, il_5, il_6, il_7, il_8, il_9, il_10, il_11, il_12, il_13, il_16, il_20, il_30, il_31, il_32, il_33, il_36, il_37, il_38, il_40, il_41, il_42, il_43, il_45, il_47, il_48, il_50, il_57, il_60, il_61, il_62, il_70, il_71, il_79, il_80, il_97, il_98, il_99, il_100, il_107, il_110, il_111, il_114, il_115, il_116, il_121, il_124, il_128, il_130, il_140, il_160, il_255, il_399, il_540, il_590, il_610, il_999, il_1000, il_1250, il_10000, il_12345, il_99999, il_1000000, il_1103515245, ll_0, ll_1, ll_2, ll_3, ll_4, ll_5, ll_6, ll_7, ll_8, ll_9, ll_30, ll_48, ll_50, ll_57, ll_99, ll_100, ll_255, ll_399, ll_999, ll_99999, nq_bs, nq_ltS, nq_b2S, b2_id, bi_id, iI_add, iI_sub, iI_mul, iI_neg, lI_neg, iI_64, iI_lt, iI_le, iI_eq, iI_ag, iI_as, iI_ar, iI_dv, iI_rem, isOut8, in9, bo_nz, bo_t, bo_f, wr_s, wr_n, wr_k, if_pos, if_neg, ↓reduceIte, Nat.reduceAdd, Nat.reduceMul, Nat.reduceSub, Nat.reduceEqDiff, Int.reduceToNat, Int.toNat_natCast, Int.reduceNeg, Int.reduceAdd, Int.reduceSub, Int.reduceMul, isPlace8 p0 p1, isPlace9 p0m p1, areTwo8 p0 p1, areTwo9 p0m p1, isPair8 p0 p1, areFt9 p0m p1, isPact8, isPact9, isWord8 w0 w1, isWord9 w0m w1, isSheet8, isSheet9, isPart8, isPart9, h0])
  · exact h.ref 1 (by omega) (by omega) (by unfold fX8_route; simp (disch := omega) only [il_0, il_1, il_2, il_3, il_4, il_5, il_6, il_7, il_8, il_9, il_10, il_11, il_12, il_13, il_16, il_20, il_30, il_31, il_32, il_33, il_36, il_37, il_38, il_40, il_41, il_42, il_43, il_45, il_47, il_48, il_50, il_57, il_60, il_61, il_62, il_70, il_71, il_79, il_80, il_97, il_98, il_99, il_100, il_107, il_110, il_111, il_114, il_115, il_116, il_121, il_124, il_128, il_130, il_140, il_160, il_255, il_399, il_540, il_590, il_610, il_999, il_1000, il_1250, il_10000, il_12345, il_99999, il_1000000, il_1103515245, ll_0, ll_1, ll_2, ll_3, ll_4, ll_5, ll_6, ll_7, ll_8, ll_9, ll_30, ll_48, ll_50, ll_57, ll_99, ll_100, ll_255, ll_399, ll_999, ll_99999, nq_bs, nq_ltS, nq_b2S, b2_id, bi_id, iI_add, iI_sub, iI_mul, iI_neg, lI_neg, iI_64, iI_lt, iI_le, iI_eq, iI_ag, iI_as, iI_ar, iI_dv, iI_rem, isOut8, in9, bo_nz, bo_t, bo_f, wr_s, wr_n, wr_k, if_pos, if_neg, ↓reduceIte, Nat.reduceAdd, Nat.reduceMul, Nat.reduceSub, Nat.reduceEqDiff, Int.reduceToNat, Int.toNat_natCast, Int.reduceNeg, Int.reduceAdd, Int.reduceSub, Int.reduceMul, isPlace8 p0 p1, isPlace9 p0m p1, areTwo8 p0 p1, areTwo9 p0m p1, isPair8 p0 p1, areFt9 p0m p1, isPact8, isPact9, isWord8 w0 w1, isWord9 w0m w1, isSheet8, isSheet9, isPart8, isPart9, h0]) (by unfold fX9_route; simp (disch := omega) only [il_0, il_1, il_2, il_3, il_4, il_5, il_6, il_7, il_8, il_9, il_10, il_11, il_12, il_13, il_16, il_20, il_30, il_31, il_32, il_33, il_36, il_37, il_38, il_40, il_41, il_42, il_43, il_45, il_47, il_48, il_50, il_57, il_60, il_61, il_62, il_70, il_71, il_79, il_80, il_97, il_98, il_99, il_100, il_107, il_110, il_111, il_114, il_115, il_116, il_121, il_124, il_128, il_130, il_140, il_160, il_255, il_399, il_540, il_590, il_610, il_999, il_1000, il_1250, il_10000, il_12345, il_99999, il_1000000, il_1103515245, ll_0, ll_1, ll_2, ll_3, ll_4, ll_5, ll_6, ll_7, ll_8, ll_9, ll_30, ll_48, ll_50, ll_57, ll_99, ll_100, ll_255, ll_399, ll_999, ll_99999, nq_bs, nq_ltS, nq_b2S, b2_id, bi_id, iI_add, iI_sub, iI_mul, iI_neg, lI_neg, iI_64, iI_lt, iI_le, iI_eq, iI_ag, iI_as, iI_ar, iI_dv, iI_rem, isOut8, in9, bo_nz, bo_t, bo_f, wr_s, wr_n, wr_k, if_pos, if_neg, ↓reduceIte, Nat.reduceAdd, Nat.reduceMul, Nat.reduceSub, Nat.reduceEqDiff, Int.reduceToNat, Int.toNat_natCast, Int.reduceNeg, Int.reduceAdd, Int.reduceSub, Int.reduceMul, isPlace8 p0 p1, isPlace9 p0m p1, areTwo8 p0 p1, areTwo9 p0m p1, isPair8 p0 p1, areFt9 p0m p1, isPact8, isPact9, isWord8 w0 w1, isWord9 w0m w1, isSheet8, isSheet9, isPart8, isPart9, h0])
