/-! 15.b: ways of both sides -/
def fr (s : Nat → Nat) (f : Nat → Int32) (b k : Nat) : Nat → Int32 := fun j => if j < 36 then (if j < k then nI (fw s (b + 1) j) else nI (fw s b j)) else f j
theorem fr_at {s : Nat → Nat} {f : Nat → Int32} {b k a : Nat} (hd : ∀ a, a < 6 → s (a * 6 + a) = 0) (hb : b < 6) (ha : a < 6) : fr s f b k (a * 6 + b) = nI (fw s b (a * 6 + b)) ∧ fr s f b k (b * 6 + a) = nI (fw s b (b * 6 + a)) := by
  have d0 := fw_diag hd b b hb
  have e1 : fw s (b + 1) (a * 6 + b) = fw s b (a * 6 + b) := by rw [fw_s hb, d0]; omega
  have e2 : fw s (b + 1) (b * 6 + a) = fw s b (b * 6 + a) := by rw [fw_s ha, d0]; omega
  constructor
  · simp only [fr]
    rw [if_pos (by omega), e1]; simp
  · simp only [fr]
    rw [if_pos (by omega), e2]; simp
theorem fr_next {s : Nat → Nat} {f : Nat → Int32} {b k : Nat} (hk : k < 36) : upd (fr s f b k) k (nI (fw s (b + 1) k)) = fr s f b (k + 1) := by
  funext j
  by_cases hj : j = k
  · subst hj; simp [upd, fr, hk]
  · simp only [upd, if_neg hj, fr]
    by_cases h36 : j < 36
    · rw [if_pos h36, if_pos h36]
      by_cases h : j < k
      · rw [if_pos h, if_pos (by omega)]
      · rw [if_neg h, if_neg (by omega)]
    · rw [if_neg h36, if_neg h36]
theorem fr_end {s : Nat → Nat} {f : Nat → Int32} {b : Nat} : fr s f b 36 = fr s f (b + 1) 0 := by
  funext j
  simp only [fr]
  by_cases h : j < 36
  · rw [if_pos h, if_pos h]; simp [h]
  · rw [if_neg h, if_neg h]
theorem fw_bd {s : Nat → Nat} (hs : ∀ j, j < 36 → s j ≤ 1000000) {b j : Nat} (hj : j < 36) : fw s b j ≤ 1000000 := Nat.le_trans (fw_le b j) (hs j hj)
theorem ways_in {M : Mem} {s : Nat → Nat} {f : Nat → Int32} {b : Nat} (hd : ∀ a, a < 6 → s (a * 6 + a) = 0) (hs : ∀ j, j < 36 → s j ≤ 1000000) (hb : b < 6) : nq_lp (fun s : Int32 × Mem => fX9_findWays_B72_64 (nI b) s.1 s.2) nq_fuel (0, va_up M 4 (fr s f b 0)) = some (va_up M 4 (fr s f b 36)) := by
  obtain ⟨r, h1, rfl⟩ := nq_for0 (body := fun s : Int32 × Mem => fX9_findWays_B72_64 (nI b) s.1 s.2) 36 (fun k t => t.1 = nI k ∧ t.2 = va_up M 4 (fr s f b k)) (fun r => r = va_up M 4 (fr s f b 36)) (s := (0, va_up M 4 (fr s f b 0))) (by omega) ⟨rfl, rfl⟩
    (by
      rintro k ⟨i, M'⟩ hk ⟨h1, h2⟩
      dsimp only at h1 h2
      subst h1; subst h2
      left
      refine ⟨(nI (k + 1), va_up M 4 (fr s f b (k + 1))), ?_, rfl, rfl⟩
      dsimp only
      unfold fX9_findWays_B72_64
      have hdv : k / 6 < 6 := by omega
      have hm : k % 6 < 6 := by omega
      have hl1 := fw_bd hs (b := b) (j := k / 6 * 6 + b) (by omega)
      have hl2 := fw_bd hs (b := b) (j := b * 6 + k % 6) (by omega)
      have hl3 := fw_bd hs (b := b) hk
      have hself : fr s f b k k = nI (fw s b k) := by simp only [fr]; rw [if_pos hk]; simp
      have hmin : fw s (b + 1) k = min (fw s b k) (fw s b (k / 6 * 6 + b) + fw s b (b * 6 + k % 6)) := rfl
      rw [nq_lit 36, if_neg (by rw [nI_leI (by omega) (by omega)]; omega), nq_lit 6, nq_dv_nI (by omega) (by omega) (by omega)]
      simp only [nq_bs, nq_up_s]
      rw [nq_rem_nI (by omega) (by omega) (by omega), pk_mul, nI_add, nq_ag_nI (by omega) (by omega)]
      simp only [nq_bs, nq_ltS]
      rw [pk_mul, nI_add, nq_ag_nI (by omega) (by omega)]
      simp only [nq_bs, nq_ltS]
      rw [nq_ag_nI hk (by omega)]
      simp only [nq_bs]
      rw [(fr_at hd hb hdv).1, Nat.mul_comm 6 b, (fr_at hd hb hm).2, hself, nI_add]
      by_cases h : fw s b k ≤ fw s b (k / 6 * 6 + b) + fw s b (b * 6 + k % 6)
      · rw [if_pos ((nI_leI (by omega) (by omega)).mpr h), nq_as_nI hk (by omega)]
        have e : fw s b k = fw s (b + 1) k := by omega
        simp only [nq_bs, nq_wr_up]
        rw [e, fr_next hk, show nI k + 1 = nI (k + 1) from nI_1 k]
      · rw [if_neg (fun c => h ((nI_leI (by omega) (by omega)).mp c)), nq_as_nI hk (by omega)]
        have e : fw s b (k / 6 * 6 + b) + fw s b (b * 6 + k % 6) = fw s (b + 1) k := by omega
        simp only [nq_bs, nq_wr_up]
        rw [e, fr_next hk, show nI k + 1 = nI (k + 1) from nI_1 k])
    (by
      rintro ⟨i, M'⟩ ⟨h1, h2⟩
      dsimp only at h1 h2
      subst h1; subst h2
      refine ⟨_, ?_, rfl⟩
      dsimp only
      unfold fX9_findWays_B72_64
      rw [nq_lit 36, if_pos (by rw [nI_leI (by omega) (by omega)]; omega)])
  exact h1
theorem ways_out {M : Mem} {s : Nat → Nat} {f : Nat → Int32} (hd : ∀ a, a < 6 → s (a * 6 + a) = 0) (hs : ∀ j, j < 36 → s j ≤ 1000000) : fX9_findWays_L64 0 (va_up M 4 (fr s f 0 0)) = some (va_up M 4 (fr s f 6 0)) := by
  obtain ⟨r, h1, rfl⟩ := nq_for0 (body := fun s : Int32 × Mem => fX9_findWays_B64 s.1 s.2) 6 (fun k t => t.1 = nI k ∧ t.2 = va_up M 4 (fr s f k 0)) (fun r => r = va_up M 4 (fr s f 6 0)) (s := (0, va_up M 4 (fr s f 0 0))) (by omega) ⟨rfl, rfl⟩
    (by
      rintro k ⟨i, M'⟩ hk ⟨h1, h2⟩
      dsimp only at h1 h2
      subst h1; subst h2
      left
      refine ⟨(nI (k + 1), va_up M 4 (fr s f (k + 1) 0)), ?_, rfl, rfl⟩
      dsimp only
      unfold fX9_findWays_B64
      rw [nq_lit 6, if_neg (by rw [nI_leI (by omega) (by omega)]; omega)]
      unfold fX9_findWays_L72_64
      rw [ways_in hd hs hk]
      simp only [nq_bs, fX9_findWays_L140_64, nq_ltS, fr_end]
      rw [show nI k + 1 = nI (k + 1) from nI_1 k])
    (by
      rintro ⟨i, M'⟩ ⟨h1, h2⟩
      dsimp only at h1 h2
      subst h1; subst h2
      refine ⟨_, ?_, rfl⟩
      dsimp only
      unfold fX9_findWays_B64
      rw [nq_lit 6, if_pos (by rw [nI_leI (by omega) (by omega)]; omega)])
  unfold fX9_findWays_L64
  rw [h1]
  rfl
theorem r0_bd {w : Nat → Nat} (hw : ∀ j, j < 36 → w j ≤ 30) : ∀ j, j < 36 → r0 w j ≤ 1000000 := by
  intro j hj
  have := hw j hj
  unfold r0
  split
  · omega
  · split <;> omega
/-- what findWays() leaves -/
def wayM (D : Nat → Int) (M : Mem) : Mem := va_up M 4 (fr (r0 (nearN D)) (M 4) 6 0)
theorem wayM_k {D : Nat → Int} {M : Mem} {a : Nat} (h : a ≠ 4) : wayM D M a = M a := nq_up_n h
theorem wayM_4 {D : Nat → Int} {M : Mem} {i j : Nat} (hi : i < 6) (hj : j < 6) : wayM D M 4 (i * 6 + j) = iI (YY (nearN D) i j) := by
  unfold wayM YY
  rw [nq_up_s, ← iI_nat]
  simp only [fr]
  rw [if_pos (by omega), if_neg (by omega)]
theorem findWays9 {M : Mem} {D : Nat → Int} (h0 : ∀ j, j < 1250 → M 1 j = iI (D j)) (hn : ∀ j, j < 36 → 0 ≤ D (20 + j) ∧ D (20 + j) ≤ 30) : fX9_findWays M = some (wayM D M) := by
  have hw : ∀ j, j < 36 → nearN D j ≤ 30 := fun j hj => by have := hn j hj; unfold nearN; omega
  have e := lp_rg (body := fun s : Int32 × Mem => fX9_findWays_B2 s.1 s.2) (M := M) 4 0 36 (fun j => nI (r0 (nearN D) j)) (by omega)
    (by
      intro k hk
      show fX9_findWays_B2 (iI k) _ = _
      have nk := hn k hk
      have ek : nearN D k = (D (20 + k)).toNat := rfl
      unfold fX9_findWays_B2
      rw [Nat.zero_add]
      by_cases c1 : k / 6 = k % 6
      · have : nI (r0 (nearN D) k) = iI 0 := by unfold r0; rw [if_pos c1]; rfl
        rw [this]
        simp (disch := omega) only [il_0, il_1, il_2, il_3, il_4, il_5, il_6, il_7, il_8, il_9, il_10, il_11, il_12, il_13, il_16, il_20, il_30, il_31, il_32, il_33, il_36, il_37, il_38, il_40, il_41, il_42, il_43, il_45, il_47, il_48, il_50, il_57, il_60, il_61, il_62, il_70, il_71, il_79, il_80, il_97, il_98, il_99, il_100, il_107, il_110, il_111, il_114, il_115, il_116, il_121, il_124, il_128, il_130, il_140, il_160, il_255, il_399, il_540, il_590, il_610, il_999, il_1000, il_1250, il_10000, il_12345, il_99999, il_1000000, il_1103515245, ll_0, ll_1, ll_2, ll_3, ll_4, ll_5, ll_6, ll_7, ll_8, ll_9, ll_30, ll_48, ll_50, ll_57, ll_99, ll_100, ll_255, ll_399, ll_999, ll_99999, nq_bs, nq_ltS, nq_b2S, b2_id, bi_id, iI_add, iI_sub, iI_mul, iI_neg, lI_neg, iI_64, iI_lt, iI_le, iI_eq, iI_ag, iI_as, iI_ar, iI_dv, iI_rem, isOut8, in9, bo_nz, bo_t, bo_f, wr_s, wr_n, wr_k, if_pos, if_neg, ↓reduceIte, Nat.reduceAdd, Nat.reduceMul, Nat.reduceSub, Nat.reduceEqDiff, Int.reduceToNat, Int.toNat_natCast, Int.reduceNeg, Int.reduceAdd, Int.reduceSub, Int.reduceMul]
        rfl
      · by_cases c2 : D (20 + k) ≤ 0
        · have : nI (r0 (nearN D) k) = iI 10000 := by unfold r0; rw [if_neg c1, if_pos (by omega)]; rfl
          rw [this]
          simp (disch := omega) only [il_0, il_1, il_2, il_3, il_4, il_5, il_6, il_7, il_8, il_9, il_10, il_11, il_12, il_13, il_16, il_20, il_30, il_31, il_32, il_33, il_36, il_37, il_38, il_40, il_41, il_42, il_43, il_45, il_47, il_48, il_50, il_57, il_60, il_61, il_62, il_70, il_71, il_79, il_80, il_97, il_98, il_99, il_100, il_107, il_110, il_111, il_114, il_115, il_116, il_121, il_124, il_128, il_130, il_140, il_160, il_255, il_399, il_540, il_590, il_610, il_999, il_1000, il_1250, il_10000, il_12345, il_99999, il_1000000, il_1103515245, ll_0, ll_1, ll_2, ll_3, ll_4, ll_5, ll_6, ll_7, ll_8, ll_9, ll_30, ll_48, ll_50, ll_57, ll_99, ll_100, ll_255, ll_399, ll_999, ll_99999, nq_bs, nq_ltS, nq_b2S, b2_id, bi_id, iI_add, iI_sub, iI_mul, iI_neg, lI_neg, iI_64, iI_lt, iI_le, iI_eq, iI_ag, iI_as, iI_ar, iI_dv, iI_rem, isOut8, in9, bo_nz, bo_t, bo_f, wr_s, wr_n, wr_k, if_pos, if_neg, ↓reduceIte, Nat.reduceAdd, Nat.reduceMul, Nat.reduceSub, Nat.reduceEqDiff, Int.reduceToNat, Int.toNat_natCast, Int.reduceNeg, Int.reduceAdd, Int.reduceSub, Int.reduceMul, rg_k, h0]
          rw [show (20 + (k : Int)).toNat = 20 + k by omega]
          simp (disch := omega) only [il_0, il_1, il_2, il_3, il_4, il_5, il_6, il_7, il_8, il_9, il_10, il_11, il_12, il_13, il_16, il_20, il_30, il_31, il_32, il_33, il_36, il_37, il_38, il_40, il_41, il_42, il_43, il_45, il_47, il_48, il_50, il_57, il_60, il_61, il_62, il_70, il_71, il_79, il_80, il_97, il_98, il_99, il_100, il_107, il_110, il_111, il_114, il_115, il_116, il_121, il_124, il_128, il_130, il_140, il_160, il_255, il_399, il_540, il_590, il_610, il_999, il_1000, il_1250, il_10000, il_12345, il_99999, il_1000000, il_1103515245, ll_0, ll_1, ll_2, ll_3, ll_4, ll_5, ll_6, ll_7, ll_8, ll_9, ll_30, ll_48, ll_50, ll_57, ll_99, ll_100, ll_255, ll_399, ll_999, ll_99999, nq_bs, nq_ltS, nq_b2S, b2_id, bi_id, iI_add, iI_sub, iI_mul, iI_neg, lI_neg, iI_64, iI_lt, iI_le, iI_eq, iI_ag, iI_as, iI_ar, iI_dv, iI_rem, isOut8, in9, bo_nz, bo_t, bo_f, wr_s, wr_n, wr_k, if_pos, if_neg, ↓reduceIte, Nat.reduceAdd, Nat.reduceMul, Nat.reduceSub, Nat.reduceEqDiff, Int.reduceToNat, Int.toNat_natCast, Int.reduceNeg, Int.reduceAdd, Int.reduceSub, Int.reduceMul]
          rfl
        · have : nI (r0 (nearN D) k) = iI (D (20 + k)) := by unfold r0; rw [if_neg c1, if_neg (by omega), iI_nat, ek, Int.toNat_of_nonneg nk.1]
          rw [this]
          simp (disch := omega) only [il_0, il_1, il_2, il_3, il_4, il_5, il_6, il_7, il_8, il_9, il_10, il_11, il_12, il_13, il_16, il_20, il_30, il_31, il_32, il_33, il_36, il_37, il_38, il_40, il_41, il_42, il_43, il_45, il_47, il_48, il_50, il_57, il_60, il_61, il_62, il_70, il_71, il_79, il_80, il_97, il_98, il_99, il_100, il_107, il_110, il_111, il_114, il_115, il_116, il_121, il_124, il_128, il_130, il_140, il_160, il_255, il_399, il_540, il_590, il_610, il_999, il_1000, il_1250, il_10000, il_12345, il_99999, il_1000000, il_1103515245, ll_0, ll_1, ll_2, ll_3, ll_4, ll_5, ll_6, ll_7, ll_8, ll_9, ll_30, ll_48, ll_50, ll_57, ll_99, ll_100, ll_255, ll_399, ll_999, ll_99999, nq_bs, nq_ltS, nq_b2S, b2_id, bi_id, iI_add, iI_sub, iI_mul, iI_neg, lI_neg, iI_64, iI_lt, iI_le, iI_eq, iI_ag, iI_as, iI_ar, iI_dv, iI_rem, isOut8, in9, bo_nz, bo_t, bo_f, wr_s, wr_n, wr_k, if_pos, if_neg, ↓reduceIte, Nat.reduceAdd, Nat.reduceMul, Nat.reduceSub, Nat.reduceEqDiff, Int.reduceToNat, Int.toNat_natCast, Int.reduceNeg, Int.reduceAdd, Int.reduceSub, Int.reduceMul, rg_k, h0]
          rw [show (20 + (k : Int)).toNat = 20 + k by omega]
          simp (disch := omega) only [il_0, il_1, il_2, il_3, il_4, il_5, il_6, il_7, il_8, il_9, il_10, il_11, il_12, il_13, il_16, il_20, il_30, il_31, il_32, il_33, il_36, il_37, il_38, il_40, il_41, il_42, il_43, il_45, il_47, il_48, il_50, il_57, il_60, il_61, il_62, il_70, il_71, il_79, il_80, il_97, il_98, il_99, il_100, il_107, il_110, il_111, il_114, il_115, il_116, il_121, il_124, il_128, il_130, il_140, il_160, il_255, il_399, il_540, il_590, il_610, il_999, il_1000, il_1250, il_10000, il_12345, il_99999, il_1000000, il_1103515245, ll_0, ll_1, ll_2, ll_3, ll_4, ll_5, ll_6, ll_7, ll_8, ll_9, ll_30, ll_48, ll_50, ll_57, ll_99, ll_100, ll_255, ll_399, ll_999, ll_99999, nq_bs, nq_ltS, nq_b2S, b2_id, bi_id, iI_add, iI_sub, iI_mul, iI_neg, lI_neg, iI_64, iI_lt, iI_le, iI_eq, iI_ag, iI_as, iI_ar, iI_dv, iI_rem, isOut8, in9, bo_nz, bo_t, bo_f, wr_s, wr_n, wr_k, if_pos, if_neg, ↓reduceIte, Nat.reduceAdd, Nat.reduceMul, Nat.reduceSub, Nat.reduceEqDiff, Int.reduceToNat, Int.toNat_natCast, Int.reduceNeg, Int.reduceAdd, Int.reduceSub, Int.reduceMul]
          rfl)
    (by
      show fX9_findWays_B2 (iI ((36 : Nat) : Int)) _ = _
      unfold fX9_findWays_B2
      rw [if_pos (by decide)])
  unfold fX9_findWays fX9_findWays_L2
  rw [il_0, e]
  simp only [nq_bs]
  unfold fX9_findWays_L62
  have e2 : rg M 4 0 36 (fun j => nI (r0 (nearN D) j)) = va_up M 4 (fr (r0 (nearN D)) (M 4) 0 0) := by
    unfold rg
    congr 1
    funext j
    simp only [fr, fw]
    by_cases h : j < 36
    · rw [if_pos (by omega), if_pos h, if_neg (by omega), Nat.sub_zero]
    · rw [if_neg (by omega), if_neg h]
  rw [e2]
  exact ways_out r0_d (r0_bd hw)
def wayI (D : Nat → Int) (i j : Int) : Int := if YY (nearN D) i.toNat j.toNat < 10000 then (YY (nearN D) i.toNat j.toNat : Int) else -1
theorem near_bd {M : Mem} {p : Nat} {D : Nat → Int} (hR : GR M p D) : ∀ j, j < 36 → nearN D j ≤ 30 := by
  intro j hj
  have := (hR.2.2.1 j hj).2
  unfold nearN; omega
theorem wayI_bd {M : Mem} {p : Nat} {D : Nat → Int} (hR : GR M p D) {i j : Int} (hi : 0 ≤ i ∧ i < 6) (hj : 0 ≤ j ∧ j < 6) : -1 ≤ wayI D i j ∧ wayI D i j ≤ 150 := by
  have := LY (near_bd hR) (i := i.toNat) (j := j.toNat) (by omega) (by omega)
  unfold wayI
  split <;> omega
theorem wayOf9 {M Mx : Mem} {p : Nat} {D : Nat → Int} {i j : Int} (h0 : ∀ j, j < 1250 → M 1 j = iI (D j)) (hR : GR Mx p D) (hi : 0 ≤ i ∧ i < 6) (hj : 0 ≤ j ∧ j < 6) : fX9_wayOf (iI i) (iI j) M = some (iI (wayI D i j), wayM D M) := by
  have hn : ∀ j, j < 36 → 0 ≤ D (20 + j) ∧ D (20 + j) ≤ 30 := fun j hj => (hR.2.2.1 j hj).2
  have e4 := wayM_4 (D := D) (M := M) (i := i.toNat) (j := j.toNat) (by omega) (by omega)
  have bd := LY (near_bd hR) (i := i.toNat) (j := j.toNat) (by omega) (by omega)
  have b2 : YY (nearN D) i.toNat j.toNat ≤ 1000000 := fw_bd (r0_bd (near_bd hR)) (by omega)
  unfold fX9_wayOf
  rw [findWays9 h0 hn]
  simp (disch := omega) only [nq_bs, il_0, il_1, il_2, il_3, il_4, il_5, il_6, il_7, il_8, il_9, il_10, il_11, il_12, il_13, il_16, il_20, il_30, il_31, il_32, il_33, il_36, il_37, il_38, il_40, il_41, il_42, il_43, il_45, il_47, il_48, il_50, il_57, il_60, il_61, il_62, il_70, il_71, il_79, il_80, il_97, il_98, il_99, il_100, il_107, il_110, il_111, il_114, il_115, il_116, il_121, il_124, il_128, il_130, il_140, il_160, il_255, il_399, il_540, il_590, il_610, il_999, il_1000, il_1250, il_10000, il_12345, il_99999, il_1000000, il_1103515245, ll_0, ll_1, ll_2, ll_3, ll_4, ll_5, ll_6, ll_7, ll_8, ll_9, ll_30, ll_48, ll_50, ll_57, ll_99, ll_100, ll_255, ll_399, ll_999, ll_99999, iI_mul, iI_add, iI_ag]
  rw [show (6 * i + j).toNat = i.toNat * 6 + j.toNat by omega, e4]
  unfold wayI
  by_cases c : YY (nearN D) i.toNat j.toNat < 10000
  · rw [if_pos c, if_neg (by rw [iI_le (by omega) (by omega)]; omega)]
  · rw [if_neg c, if_pos (by rw [iI_le (by omega) (by omega)]; omega)]; rfl
theorem years8 {M : Mem} {p : Nat} {D : Nat → Int} {i j : Int} (hR : GR M p D) (hi : 0 ≤ i ∧ i < 6) (hj : 0 ≤ j ∧ j < 6) : fX2_years p (iI i) (iI j) M = some (iI (wayI D i j)) := by
  have e : M (p + 2) (i.toNat * 6 + j.toNat) = iI (LL (nearN D) i.toNat j.toNat) := by
    rw [hR.2.2.2.2 _ (by omega), ml_fw, iI_nat]; rfl
  have bd := LY (near_bd hR) (i := i.toNat) (j := j.toNat) (by omega) (by omega)
  have b2 : LL (nearN D) i.toNat j.toNat ≤ 1000000 := by
    have := ml_le (near_bd hR) 6 (i.toNat * 6 + j.toNat) (by omega)
    rw [ml_fw] at this; exact this
  unfold fX2_years
  simp (disch := omega) only [nq_bs, il_0, il_1, il_2, il_3, il_4, il_5, il_6, il_7, il_8, il_9, il_10, il_11, il_12, il_13, il_16, il_20, il_30, il_31, il_32, il_33, il_36, il_37, il_38, il_40, il_41, il_42, il_43, il_45, il_47, il_48, il_50, il_57, il_60, il_61, il_62, il_70, il_71, il_79, il_80, il_97, il_98, il_99, il_100, il_107, il_110, il_111, il_114, il_115, il_116, il_121, il_124, il_128, il_130, il_140, il_160, il_255, il_399, il_540, il_590, il_610, il_999, il_1000, il_1250, il_10000, il_12345, il_99999, il_1000000, il_1103515245, ll_0, ll_1, ll_2, ll_3, ll_4, ll_5, ll_6, ll_7, ll_8, ll_9, ll_30, ll_48, ll_50, ll_57, ll_99, ll_100, ll_255, ll_399, ll_999, ll_99999, iI_mul, iI_add, iI_ag]
  rw [show (i * 6 + j).toNat = i.toNat * 6 + j.toNat by omega, e]
  unfold wayI
  by_cases c : YY (nearN D) i.toNat j.toNat < 10000
  · rw [if_pos c, if_pos (by rw [iI_lt (by omega) (by omega)]; omega)]
    simp (disch := omega) only [iI_dv, nq_bs]
    congr 2
    omega
  · rw [if_neg c, if_neg (by rw [iI_lt (by omega) (by omega)]; omega)]; rfl
theorem RR.wayM {Mx Mm : Mem} {D : Nat → Int} (h : RR Mx Mm) : RR Mx (wayM D Mm) :=
  h.scr (KeepX.refl _) (fun _ _ _ => rfl) ⟨fun k hk => wayM_k (by omega), by rw [wayM_k (by omega)], by rw [wayM_k (by omega)]⟩ (wayM_k (by omega))
