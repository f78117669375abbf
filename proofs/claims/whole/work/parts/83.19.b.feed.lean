/-! 19.b: feed -/
def bX (x : Int64) (k : Int32) : Int32 := (((x.toUInt64 >>> (((8 : Int32) * k).toInt64.toUInt64 &&& Int64.toUInt64 63)).toInt64).toInt32) &&& (255 : Int32)
def bM (x : Int64) (k : Int32) : Int32 := ((x >>> (((8 : Int32) * k).toInt64 &&& 63)) &&& (255 : Int64)).toInt32
theorem bX_r (x : Int64) (k : Int32) : ∃ b : Int, 0 ≤ b ∧ b ≤ 255 ∧ bX x k = iI b := by
  have hp : ∀ y : Int32, ∃ j : Nat, j < 256 ∧ y &&& 255 = nI j := fun y => pk_andE y (k := 8) rfl
  obtain ⟨j, h1, h2⟩ := hp ((x.toUInt64 >>> (((8 : Int32) * k).toInt64.toUInt64 &&& Int64.toUInt64 63)).toInt64.toInt32)
  exact ⟨j, by omega, by omega, h2.trans (iI_nat j)⟩
theorem bvk (X : BitVec 64) (m : Nat) (hm : m < 57) : ((X >>> m).signExtend 32 &&& 255#32) = ((X.sshiftRight m) &&& 255#64).signExtend 32 := by
  apply BitVec.eq_of_getLsbD_eq
  intro i hi
  have e32 : ∀ i, i < 32 → (255#32).getLsbD i = decide (i < 8) := by decide
  have e64 : ∀ i, i < 64 → (255#64).getLsbD i = decide (i < 8) := by decide
  have h1 : i < 32 := hi
  have h2 : i < 64 := by omega
  rw [BitVec.getLsbD_and, e32 i h1]
  simp only [BitVec.getLsbD_signExtend, BitVec.getLsbD_and, BitVec.getLsbD_ushiftRight, BitVec.getLsbD_sshiftRight, e64 i h2, h1, h2, if_true, decide_true, Bool.true_and]
  by_cases c : i < 8
  · have h3 : m + i < 64 := by omega
    have h4 : ¬ 64 ≤ i := by omega
    simp [c, h3, h4]
  · simp [c]
theorem bX_bM {x : Int64} {k : Nat} (hk : k < 8) : bX x (iI k) = bM x (iI k) := by
  unfold bX bM
  have key : ∀ (u : UInt64) (s : Int64) (m : Nat), m < 57 → (u.toBitVec % 64#64).toNat = m → (s.toBitVec.smod 64#64).toNat = m → ((x.toUInt64 >>> u).toInt64.toInt32 &&& (255 : Int32)) = ((x >>> s) &&& (255 : Int64)).toInt32 := by
    intro u s m hm hu hs
    apply Int32.toBitVec_inj.mp
    have e1 : ((x.toUInt64 >>> u).toInt64.toInt32 &&& (255 : Int32)).toBitVec = ((x.toBitVec >>> (u.toBitVec % 64#64).toNat).signExtend 32 &&& 255#32) := rfl
    have e2 : (((x >>> s) &&& (255 : Int64)).toInt32).toBitVec = ((x.toBitVec.sshiftRight (s.toBitVec.smod 64#64).toNat) &&& 255#64).signExtend 32 := rfl
    rw [e1, e2, hu, hs]
    exact bvk _ _ hm
  have hc : k = 0 ∨ k = 1 ∨ k = 2 ∨ k = 3 ∨ k = 4 ∨ k = 5 ∨ k = 6 ∨ k = 7 := by omega
  rcases hc with rfl | rfl | rfl | rfl | rfl | rfl | rfl | rfl
  · exact key _ _ 0 (by omega) (by decide) (by decide)
  · exact key _ _ 8 (by omega) (by decide) (by decide)
  · exact key _ _ 16 (by omega) (by decide) (by decide)
  · exact key _ _ 24 (by omega) (by decide) (by decide)
  · exact key _ _ 32 (by omega) (by decide) (by decide)
  · exact key _ _ 40 (by omega) (by decide) (by decide)
  · exact key _ _ 48 (by omega) (by decide) (by decide)
  · exact key _ _ 56 (by omega) (by decide) (by decide)
def bF (x : Int64) (k : Nat) : Int := (bX x (iI k)).toInt
theorem bF_e (x : Int64) (k : Nat) : bX x (iI k) = iI (bF x k) ∧ 0 ≤ bF x k ∧ bF x k ≤ 255 := by
  obtain ⟨b, h1, h2, h3⟩ := bX_r x (iI k)
  unfold bF
  rw [h3, iI_toInt (by omega)]
  exact ⟨rfl, h1, h2⟩
theorem hop_feed (a0 : Int64) (a1 : Int32) (Mx Mm : Mem) (h : RR Mx Mm) : ∃ (r : Int32) (Mx1 Mm1 : Mem), fX8_feed a0 a1 Mx = some (r, Mx1) ∧ fX9_feed a0 a1 Mm = some (r, Mm1) ∧ RR Mx1 Mm1 := by
  obtain ⟨D, hc⟩ := h.1
  have hc' := hc
  obtain ⟨h0, hS, hR, hL, hA, hT⟩ := hc'
  have p0 : Mx 3 0 = iI (D 1) := hR.1
  have p1 := hR.2.1
  have p0m : Mm 1 1 = iI (D 1) := h0 1 (by omega)
  have w0m : Mm 1 2 = iI (D 2) := h0 2 (by omega)
  have w0 : Mx 6 0 = iI (D 2) := hL.1
  have w1 := hL.2.1
  obtain ⟨⟨s0, s5, s6, s7, s4, s9, s3, s10⟩, s0', s4', s5', s6', s7', s8', s9', s3', s10'⟩ := hS
  have hS := hc.2.1
  obtain ⟨y, hy, rfl⟩ := iI_of a1
  by_cases g1 : 1 ≤ y ∧ y ≤ 8
  · obtain ⟨n, hn⟩ : ∃ n : Nat, D 9 = n := ⟨(D 9).toNat, by omega⟩
    have h9 := h0 9 (by omega)
    rw [hn] at s9 h9 s9'
    by_cases g2 : (n : Int) + y ≤ 50
    · obtain ⟨c, rfl⟩ := Int.eq_ofNat_of_zero_le (show 0 ≤ y by omega)
      have l8 : nq_lp (fun s : Int32 × Mem => fX8_feed_B39 a0 (iI c) s.1 s.2) nq_fuel (iI 0, Mx) = some (rg Mx 17 n c (fun k => iI (bF a0 k))) := by
        refine lp_rg (body := fun s : Int32 × Mem => fX8_feed_B39 a0 (iI c) s.1 s.2) (M := Mx) 17 n c (fun k => iI (bF a0 k)) (by omega) ?_ ?_
        · intro k hk
          show fX8_feed_B39 a0 (iI c) (iI k) (rg Mx 17 n k (fun k => iI (bF a0 k))) = _
          have q : (((a0.toUInt64 >>> (((8 : Int32) * iI k).toInt64.toUInt64 &&& Int64.toUInt64 63)).toInt64).toInt32) &&& (255 : Int32) = iI (bF a0 k) := (bF_e a0 k).1
          have u1 : ((n : Int) + (k : Int)).toNat = n + k := by omega
          unfold fX8_feed_B39
          rw [if_neg (by rw [iI_le (by omega) (by omega)]; omega), nq_ltS, q, rg_k (by omega), s9, iI_add, iI_as (by omega) (by omega) (by omega), u1, nq_bs, nq_ltS, il_1, iI_add]
          rfl
        · show fX8_feed_B39 a0 (iI c) (iI c) _ = _
          unfold fX8_feed_B39
          rw [if_pos (by rw [iI_le (by omega) (by omega)]; omega)]
      obtain ⟨M2, l9, f9, r9⟩ := nq_for0 (body := fun s : Int32 × Mem => fX9_feed_B41 a0 (iI c) s.1 s.2) c (fun k s => s.1 = iI k ∧ (∀ a, a ≠ 1 → s.2 a = Mm a) ∧ s.2 1 9 = iI (n + k) ∧ (∀ i, i < k → s.2 1 (540 + n + i) = iI (bF a0 i)) ∧ ∀ j, j ≠ 9 → ¬ (540 + n ≤ j ∧ j < 540 + n + k) → s.2 1 j = Mm 1 j) (fun r => (∀ a, a ≠ 1 → r a = Mm a) ∧ r 1 9 = iI (n + c) ∧ (∀ i, i < c → r 1 (540 + n + i) = iI (bF a0 i)) ∧ ∀ j, j ≠ 9 → ¬ (540 + n ≤ j ∧ j < 540 + n + c) → r 1 j = Mm 1 j) (s := (iI 0, Mm)) (by omega) ⟨rfl, fun _ _ => rfl, by show Mm 1 9 = iI ((n : Int) + ((0 : Nat) : Int)); rw [h9, show (n : Int) + ((0 : Nat) : Int) = n by omega], fun i hi => absurd hi (Nat.not_lt_zero i), fun _ _ _ => rfl⟩
        (by
          rintro k ⟨i, M⟩ hk ⟨h1, h2, h3, h4, h5⟩
          dsimp only at h1 h2 h3 h4 h5
          subst h1
          left
          have q : ((a0 >>> (((8 : Int32) * iI k).toInt64 &&& 63)) &&& (255 : Int64)).toInt32 = iI (bF a0 k) := ((bX_bM (x := a0) (show k < 8 by omega)).symm.trans (bF_e a0 k).1)
          have u1 : ((540 : Int) + ((n : Int) + (k : Int))).toNat = 540 + n + k := by omega
          have w9 : nq_wr M 1 (540 + n + k) (iI (bF a0 k)) 1 9 = iI (n + k) := by rw [wr_n (by omega)]; exact h3
          refine ⟨(iI ((k + 1 : Nat) : Int), nq_wr (nq_wr M 1 (540 + n + k) (iI (bF a0 k))) 1 9 (iI ((n : Int) + k + 1))), ?_, rfl, ?_, ?_, ?_, ?_⟩
          · show fX9_feed_B41 a0 (iI c) (iI k) M = _
            unfold fX9_feed_B41
            rw [if_neg (by rw [iI_le (by omega) (by omega)]; omega), q]
            simp (disch := omega) only [il_9, il_1, il_540, iI_ag, Int.reduceToNat, nq_bs, nq_ltS, h3, iI_add, iI_as, u1, w9]
            rfl
          · intro a ha; dsimp only; rw [wr_k ha, wr_k ha]; exact h2 a ha
          · dsimp only; rw [wr_s ⟨rfl, rfl⟩]; congr 1
          · intro i hi
            dsimp only
            rw [wr_n (by omega)]
            by_cases e : i = k
            · subst e; rw [wr_s ⟨rfl, rfl⟩]
            · rw [wr_n (by omega)]; exact h4 i (by omega)
          · intro j h6 h7
            dsimp only
            rw [wr_n (by omega), wr_n (by omega)]; exact h5 j h6 (by omega))
        (by
          rintro ⟨i, M⟩ ⟨h1, h2, h3, h4, h5⟩
          dsimp only at h1 h2 h3 h4 h5
          subst h1
          refine ⟨M, ?_, h2, h3, h4, h5⟩
          show fX9_feed_B41 a0 (iI c) (iI c) M = _
          unfold fX9_feed_B41
          rw [if_pos (by rw [iI_le (by omega) (by omega)]; omega)])
      obtain ⟨r91, r92, r93⟩ := r9
      refine ⟨iI (n + c), nq_wr (rg Mx 17 n c (fun k => iI (bF a0 k))) 2 14 (iI (n + c)), M2, ?_, ?_, ?_⟩
      · unfold fX8_feed fX8_feed_L39 fX8_feed_L81
        simp (disch := omega) only [il_0, il_1, il_2, il_3, il_4, il_5, il_6, il_7, il_8, il_9, il_10, il_11, il_12, il_13, il_16, il_20, il_30, il_31, il_32, il_33, il_36, il_37, il_38, il_40, il_41, il_42, il_43, il_45, il_47, il_48, il_50, il_57, il_60, il_61, il_62, il_70, il_71, il_79, il_80, il_97, il_98, il_99, il_100, il_107, il_110, il_111, il_114, il_115, il_116, il_121, il_124, il_128, il_130, il_140, il_160, il_255, il_399, il_540, il_590, il_610, il_999, il_1000, il_1250, il_10000, il_12345, il_99999, il_1000000, il_1103515245, ll_0, ll_1, ll_2, ll_3, ll_4, ll_5, ll_6, ll_7, ll_8, ll_9, ll_30, ll_48, ll_50, ll_57, ll_99, ll_100, ll_255, ll_399, ll_999, ll_99999, nq_bs, nq_ltS, nq_b2S, b2_id, bi_id, iI_add, iI_sub, iI_mul, iI_neg, lI_neg, iI_64, iI_lt, iI_le, iI_eq, iI_ag, iI_as, iI_ar, iI_dv, iI_rem, isOut8, in9, bo_nz, bo_t, bo_f, wr_s, wr_n, wr_k, if_pos, if_neg, ↓reduceIte, Nat.reduceAdd, Nat.reduceMul, Nat.reduceSub, Nat.reduceEqDiff, Int.reduceToNat, Int.toNat_natCast, Int.reduceNeg, Int.reduceAdd, Int.reduceSub, Int.reduceMul, s9, l8, rg_k]
      · unfold fX9_feed fX9_feed_L41 fX9_feed_L92
        simp (disch := omega) only [il_0, il_1, il_2, il_3, il_4, il_5, il_6, il_7, il_8, il_9, il_10, il_11, il_12, il_13, il_16, il_20, il_30, il_31, il_32, il_33, il_36, il_37, il_38, il_40, il_41, il_42, il_43, il_45, il_47, il_48, il_50, il_57, il_60, il_61, il_62, il_70, il_71, il_79, il_80, il_97, il_98, il_99, il_100, il_107, il_110, il_111, il_114, il_115, il_116, il_121, il_124, il_128, il_130, il_140, il_160, il_255, il_399, il_540, il_590, il_610, il_999, il_1000, il_1250, il_10000, il_12345, il_99999, il_1000000, il_1103515245, ll_0, ll_1, ll_2, ll_3, ll_4, ll_5, ll_6, ll_7, ll_8, ll_9, ll_30, ll_48, ll_50, ll_57, ll_99, ll_100, ll_255, ll_399, ll_999, ll_99999, nq_bs, nq_ltS, nq_b2S, b2_id, bi_id, iI_add, iI_sub, iI_mul, iI_neg, lI_neg, iI_64, iI_lt, iI_le, iI_eq, iI_ag, iI_as, iI_ar, iI_dv, iI_rem, isOut8, in9, bo_nz, bo_t, bo_f, wr_s, wr_n, wr_k, if_pos, if_neg, ↓reduceIte, Nat.reduceAdd, Nat.reduceMul, Nat.reduceSub, Nat.reduceEqDiff, Int.reduceToNat, Int.toNat_natCast, Int.reduceNeg, Int.reduceAdd, Int.reduceSub, Int.reduceMul, h9, l9, r91]
      · obtain ⟨DD, hDD⟩ : ∃ DD : Nat → Int, DD = fun j => if j = 9 then (n : Int) + c else if 540 + n ≤ j ∧ j < 540 + n + c then bF a0 (j - (540 + n)) else D j := ⟨_, rfl⟩
        have dN : ∀ j, j ≠ 9 → ¬ (540 + n ≤ j ∧ j < 540 + n + c) → DD j = D j := by
          intro j h1 h2
          rw [hDD]; dsimp only
          rw [if_neg h1, if_neg h2]
        have d9 : DD 9 = (n : Int) + c := by
          rw [hDD]; dsimp only
          rw [if_pos rfl]
        have dB : ∀ i, i < c → DD (540 + n + i) = bF a0 i := by
          intro i hi
          rw [hDD]; dsimp only
          rw [if_neg (by omega), if_pos (by omega), show 540 + n + i - (540 + n) = i by omega]
        have fx : ∀ k, k ≠ 2 → k ≠ 17 → nq_wr (rg Mx 17 n c (fun k => iI (bF a0 k))) 2 14 (iI (n + c)) k = Mx k := by
          intro k a1 a2
          rw [wr_k a1, rg_k a2]
        refine h.upd (D := DD) (fun k hk => fx k (by omega) (by omega)) ⟨fun k hk => f9 k (by omega), by rw [f9 0 (by omega)], by rw [f9 0 (by omega)]⟩ ⟨?_, ?_, ?_, ?_, ?_, ?_⟩
        · intro j hj
          by_cases e9 : j = 9
          · subst e9; rw [r91, d9]
          · by_cases e : 540 + n ≤ j ∧ j < 540 + n + c
            · obtain ⟨i, rfl⟩ : ∃ i, j = 540 + n + i := ⟨j - (540 + n), by omega⟩
              rw [r92 i (by omega), dB i (by omega)]
            · rw [r93 j e9 e, dN j e9 e]; exact h0 j hj
        · have m2 : ∀ j, j ≠ 14 → nq_wr (rg Mx 17 n c (fun k => iI (bF a0 k))) 2 14 (iI (n + c)) 2 j = Mx 2 j := by
            intro j hj
            rw [wr_n (Or.inr hj), rg_k (by omega)]
          have m14 : nq_wr (rg Mx 17 n c (fun k => iI (bF a0 k))) 2 14 (iI (n + c)) 2 14 = iI (n + c) := wr_s ⟨rfl, rfl⟩
          unfold GS
          rw [m2 9 (by omega), m2 10 (by omega), m2 11 (by omega), m2 12 (by omega), m2 13 (by omega), m14, m2 15 (by omega), m2 16 (by omega), d9, dN 0 (by omega) (by omega), dN 3 (by omega) (by omega), dN 4 (by omega) (by omega), dN 5 (by omega) (by omega), dN 6 (by omega) (by omega), dN 7 (by omega) (by omega), dN 8 (by omega) (by omega), dN 10 (by omega) (by omega)]
          exact ⟨⟨s0, s5, s6, s7, s4, rfl, s3, s10⟩, s0', s4', s5', s6', s7', s8', by omega, s3', s10'⟩
        · exact hR.frame (fun k a1 a2 => fx k (by omega) (by omega)) (fun j hj => dN j (by omega) (by omega))
        · exact hL.frame (fun k a1 a2 => fx k (by omega) (by omega)) (fun j hj => dN j (by omega) (by omega))
        · obtain ⟨q1, q2, q3, q4, q5⟩ := hA
          refine ⟨?_, ?_, ?_, ?_, ?_⟩
          · intro j hj
            rw [show 2 + 15 = 17 by rfl, wr_k (by omega)]
            by_cases e : n ≤ j ∧ j < n + c
            · obtain ⟨i, rfl⟩ : ∃ i, j = n + i := ⟨j - n, by omega⟩
              rw [rg_s ⟨rfl, by omega, by omega⟩, show n + i - n = i by omega, show 540 + (n + i) = 540 + n + i by omega, dB i (by omega)]
              exact ⟨rfl, (bF_e a0 i).2⟩
            · rw [rg_n (Or.inr e), dN _ (by omega) (by omega)]; exact q1 j hj
          · intro j hj; rw [fx _ (by omega) (by omega), dN _ (by omega) (by omega)]; exact q2 j hj
          · intro j hj; rw [fx _ (by omega) (by omega), dN _ (by omega) (by omega)]; exact q3 j hj
          · intro j hj; rw [fx _ (by omega) (by omega), fx _ (by omega) (by omega), dN _ (by omega) (by omega), dN _ (by omega) (by omega)]; exact q4 j hj
          · intro j hj; rw [fx _ (by omega) (by omega), dN _ (by omega) (by omega)]; exact q5 j hj
        · exact hT.frame (fun k a1 a2 => fx k (by omega) (by omega)) (fun j hj => dN j (by omega) (by omega))
    · exact h.ref 4 (by omega) (by omega) (by unfold fX8_feed; simp (disch := omega) only [il_0, il_1, il_2, il_3, il_4, il_5, il_6, il_7, il_8, il_9, il_10, il_11, il_12, il_13, il_16, il_20, il_30, il_31, il_32, il_33, il_36, il_37, il_38, il_40, il_41, il_42, il_43, il_45, il_47, il_48, il_50, il_57, il_60, il_61, il_62, il_70, il_71, il_79, il_80, il_97, il_98, il_99, il_100, il_107, il_110, il_111, il_114, il_115, il_116, il_121, il_124, il_128, il_130, il_140, il_160, il_255, il_399, il_540, il_590, il_610, il_999, il_1000, il_1250, il_10000, il_12345, il_99999, il_1000000, il_1103515245, ll_0, ll_1, ll_2, ll_3, ll_4, ll_5, ll_6, ll_7, ll_8, ll_9, ll_30, ll_48, ll_50, ll_57, ll_99, ll_100, ll_255, ll_399, ll_999, ll_99999, nq_bs, nq_ltS, nq_b2S, b2_id, bi_id, iI_add, iI_sub, iI_mul, iI_neg, lI_neg, iI_64, iI_lt, iI_le, iI_eq, iI_ag, iI_as, iI_ar, iI_dv, iI_rem, isOut8, in9, bo_nz, bo_t, bo_f, wr_s, wr_n, wr_k, if_pos, if_neg, ↓reduceIte, Nat.reduceAdd, Nat.reduceMul, Nat.reduceSub, Nat.reduceEqDiff, Int.reduceToNat, Int.toNat_natCast, Int.reduceNeg, Int.reduceAdd, Int.reduceSub, Int.reduceMul, isPlace8 p0 p1, isPlace9 p0m p1, areTwo8 p0 p1, areTwo9 p0m p1, isPair8 p0 p1, areFt9 p0m p1, isPact8, isPact9, isWord8 w0 w1, isWord9 w0m w1, isSheet8, isSheet9, isPart8, isPart9, s9]) (by unfold fX9_feed; simp (disch := omega) only [il_0, il_1, il_2, il_3, il_4, il_5, il_6, il_7, il_8, il_9, il_10, il_11, il_12, il_13, il_16, il_20, il_30, il_31, il_32, il_33, il_36, il_37, il_38, il_40, il_41, il_42, il_43, il_45, il_47, il_48, il_50, il_57, il_60, il_61, il_62, il_70, il_71, il_79, il_80, il_97, il_98, il_99, il_100, il_107, il_110, il_111, il_114, il_115, il_116, il_121, il_124, il_128, il_130, il_140, il_160, il_255, il_399, il_540, il_590, il_610, il_999, il_1000, il_1250, il_10000, il_12345, il_99999, il_1000000, il_1103515245, ll_0, ll_1, ll_2, ll_3, ll_4, ll_5, ll_6, ll_7, ll_8, ll_9, ll_30, ll_48, ll_50, ll_57, ll_99, ll_100, ll_255, ll_399, ll_999, ll_99999, nq_bs, nq_ltS, nq_b2S, b2_id, bi_id, iI_add, iI_sub, iI_mul, iI_neg, lI_neg, iI_64, iI_lt, iI_le, iI_eq, iI_ag, iI_as, iI_ar, iI_dv, iI_rem, isOut8, in9, bo_nz, bo_t, bo_f, wr_s, wr_n, wr_k, if_pos, if_neg, ↓reduceIte, Nat.reduceAdd, Nat.reduceMul, Nat.reduceSub, Nat.reduceEqDiff, Int.reduceToNat, Int.toNat_natCast, Int.reduceNeg, Int.reduceAdd, Int.reduceSub, Int.reduceMul, isPlace8 p0 p1, isPlace9 p0m p1, areTwo8 p0 p1, areTwo9 p0m p1, isPair8 p0 p1, areFt9 p0m p1, isPact8, isPact9, isWord8 w0 w1, isWord9 w0m w1, isSheet8, isSheet9, isPart8, isPart9, h9])
  · exact h.ref 1 (by omega) (by omega) (by unfold fX8_feed; simp (disch := omega) only [il_0, il_1, il_2, il_3, il_4, il_5, il_6, il_7, il_8, il_9, il_10, il_11, il_12, il_13, il_16, il_20, il_30, il_31, il_32, il_33, il_36, il_37, il_38, il_40, il_41, il_42, il_43, il_45, il_47, il_48, il_50, il_57, il_60, il_61, il_62, il_70, il_71, il_79, il_80, il_97, il_98, il_99, il_100, il_107, il_110, il_111, il_114, il_115, il_116, il_121, il_124, il_128, il_130, il_140, il_160, il_255, il_399, il_540, il_590, il_610, il_999, il_1000, il_1250, il_10000, il_12345, il_99999, il_1000000, il_1103515245, ll_0, ll_1, ll_2, ll_3, ll_4, ll_5, ll_6, ll_7, ll_8, ll_9, ll_30, ll_48, ll_50, ll_57, ll_99, ll_100, ll_255, ll_399, ll_999, ll_99999, nq_bs, nq_ltS, nq_b2S, b2_id, bi_id, iI_add, iI_sub, iI_mul, iI_neg, lI_neg, iI_64, iI_lt, iI_le, iI_eq, iI_ag, iI_as, iI_ar, iI_dv, iI_rem, isOut8, in9, bo_nz, bo_t, bo_f, wr_s, wr_n, wr_k, if_pos, if_neg, ↓reduceIte, Nat.reduceAdd, Nat.reduceMul, Nat.reduceSub, Nat.reduceEqDiff, Int.reduceToNat, Int.toNat_natCast, Int.reduceNeg, Int.reduceAdd, Int.reduceSub, Int.reduceMul, isPlace8 p0 p1, isPlace9 p0m p1, areTwo8 p0 p1, areTwo9 p0m p1, isPair8 p0 p1, areFt9 p0m p1, isPact8, isPact9, isWord8 w0 w1, isWord9 w0m w1, isSheet8, isSheet9, isPart8, isPart9, s9]) (by unfold fX9_feed; simp (disch := omega) only [il_0, il_1, il_2, il_3, il_4, il_5, il_6, il_7, il_8, il_9, il_10, il_11, il_12, il_13, il_16, il_20, il_30, il_31, il_32, il_33, il_36, il_37, il_38, il_40, il_41, il_42, il_43, il_45, il_47, il_48, il_50, il_57, il_60, il_61, il_62, il_70, il_71, il_79, il_80, il_97, il_98, il_99, il_100, il_107, il_110, il_111, il_114, il_115, il_116, il_121, il_124, il_128, il_130, il_140, il_160, il_255, il_399, il_540, il_590, il_610, il_999, il_1000, il_1250, il_10000, il_12345, il_99999, il_1000000, il_1103515245, ll_0, ll_1, ll_2, ll_3, ll_4, ll_5, ll_6, ll_7, ll_8, ll_9, ll_30, ll_48, ll_50, ll_57, ll_99, ll_100, ll_255, ll_399, ll_999, ll_99999, nq_bs, nq_ltS, nq_b2S, b2_id, bi_id, iI_add, iI_sub, iI_mul, iI_neg, lI_neg, iI_64, iI_lt, iI_le, iI_eq, iI_ag, iI_as, iI_ar, iI_dv, iI_rem, isOut8, in9, bo_nz, bo_t, bo_f, wr_s, wr_n, wr_k, if_pos, if_neg, ↓reduceIte, Nat.reduceAdd, Nat.reduceMul, Nat.reduceSub, Nat.reduceEqDiff, Int.reduceToNat, Int.toNat_natCast, Int.reduceNeg, Int.reduceAdd, Int.reduceSub, Int.reduceMul, isPlace8 p0 p1, isPlace9 p0m p1, areTwo8 p0 p1, areTwo9 p0m p1, isPair8 p0 p1, areFt9 p0m p1, isPact8, isPact9, isWord8 w0 w1, isWord9 w0m w1, isSheet8, isSheet9, isPart8, isPart9, h0])
