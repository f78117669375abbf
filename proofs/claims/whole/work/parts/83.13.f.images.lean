/-! 13.f: hops: images -/
theorem roadsB {M : Mem} {p a : Nat} (hd : a + 37 ≤ p + 1 ∨ p + 37 ≤ a + 1) : ∃ M', fX2_become p a M = some M' ∧ (∀ k, (k < p ∨ p + 3 ≤ k) → M' k = M k) ∧ M' p 0 = M a 0 ∧ (∀ j, j < 36 → M' (p + 1) j = M (a + 1) j) ∧ (∀ j, j < 36 → M' (p + 2) j = M (a + 2) j) := by
  refine ⟨?m0, ?e0, ?e1, ?e2, ?e3, ?e4⟩
  case e0 =>
    unfold fX2_become
    simp (disch := omega) only [nq_ltS, nq_bs, il_0, il_36, cp_all, Int.reduceToNat]
    rfl
  case e1 =>
    intro k hk; simp (disch := omega) only [rg_k, wr_k]
  case e2 =>
    simp (disch := omega) only [rg_k, wr_s]
  case e3 =>
    intro j hj; simp (disch := omega) only [rg_k, rg_s, wr_k, Nat.sub_zero]
  case e4 =>
    intro j hj; simp (disch := omega) only [rg_k, rg_s, wr_k, Nat.sub_zero]
theorem lettersB {M : Mem} {p a : Nat} (hd : a + 20 ≤ p ∨ p + 20 ≤ a) : ∃ M', fX0_become p a M = some M' ∧ (∀ k, (k < p ∨ p + 10 ≤ k) → M' k = M k) ∧ M' p 0 = M a 0 ∧ M' p 9 = M a 9 ∧ (∀ f, 1 ≤ f → f ≤ 9 → ∀ j, j < 80 → M' (p + f) j = M (a + f) j) := by
  refine ⟨?m0, ?e0, ?e1, ?e2, ?e3, ?e4⟩
  case e0 =>
    unfold fX0_become
    simp (disch := omega) only [nq_ltS, nq_bs, il_0, il_80, cp_all, Int.reduceToNat]
    rfl
  case e1 =>
    intro k hk; simp (disch := omega) only [rg_k, wr_k]
  case e2 =>
    simp (disch := omega) only [rg_k, wr_s, wr_n]
  case e3 =>
    simp (disch := omega) only [rg_k, wr_s, wr_k]
  case e4 =>
    intro f h1 h2 j hj
    have : f = 1 ∨ f = 2 ∨ f = 3 ∨ f = 4 ∨ f = 5 ∨ f = 6 ∨ f = 7 ∨ f = 8 ∨ f = 9 := by omega
    rcases this with rfl | rfl | rfl | rfl | rfl | rfl | rfl | rfl | rfl <;> simp (disch := omega) only [rg_k, rg_s, wr_k, Nat.sub_zero]
theorem restB {M : Mem} {p a : Nat} (hd : a + 37 ≤ p ∨ p + 37 ≤ a) : ∃ M', fX7_become_L63 p a M = some M' ∧ (∀ k, (k < p ∨ (p < k ∧ k < p + 15) ∨ p + 21 ≤ k) → M' k = M k) ∧ (∀ f, 9 ≤ f → f ≤ 16 → M' p f = M a f) ∧ (∀ j, j < 50 → M' (p + 15) j = M (a + 15) j) ∧ (∀ j, j < 6 → M' (p + 16) j = M (a + 16) j) ∧ (∀ j, j < 32 → M' (p + 17) j = M (a + 17) j) ∧ (∀ j, j < 8 → M' (p + 18) j = M (a + 18) j) ∧ (∀ j, j < 8 → M' (p + 19) j = M (a + 19) j) ∧ (∀ j, j < 20 → M' (p + 20) j = M (a + 20) j) := by
  refine ⟨?m0, ?e0, ?e1, ?e2, ?e3, ?e4, ?e5, ?e6, ?e7, ?e8⟩
  case e0 =>
    unfold fX7_become_L63
    simp (disch := omega) only [nq_ltS, nq_bs, il_0, il_50, il_6, il_32, il_8, il_20, cp_all, Int.reduceToNat]
    rfl
  case e1 =>
    intro k hk; simp (disch := omega) only [rg_k, wr_k]
  case e2 =>
    intro f h1 h2
    have : f = 9 ∨ f = 10 ∨ f = 11 ∨ f = 12 ∨ f = 13 ∨ f = 14 ∨ f = 15 ∨ f = 16 := by omega
    rcases this with rfl | rfl | rfl | rfl | rfl | rfl | rfl | rfl <;> simp (disch := omega) only [rg_k, wr_s, wr_n, wr_k]
  case e3 =>
    intro j hj; simp (disch := omega) only [rg_k, rg_s, wr_k, Nat.sub_zero]
  case e4 =>
    intro j hj; simp (disch := omega) only [rg_k, rg_s, wr_k, Nat.sub_zero]
  case e5 =>
    intro j hj; simp (disch := omega) only [rg_k, rg_s, wr_k, Nat.sub_zero]
  case e6 =>
    intro j hj; simp (disch := omega) only [rg_k, rg_s, wr_k, Nat.sub_zero]
  case e7 =>
    intro j hj; simp (disch := omega) only [rg_k, rg_s, wr_k, Nat.sub_zero]
  case e8 =>
    intro j hj; simp (disch := omega) only [rg_k, rg_s, wr_k, Nat.sub_zero]
/-- texts: those of the first k -/
def tB (p a k : Nat) (M M' : Mem) : Prop := (∀ c, (c < p + 21 ∨ p + 21 + 2 * k ≤ c) → M' c = M c) ∧ (∀ u, u < k → M' (p + 21 + 2 * u) 1 = M (a + 21 + 2 * u) 1 ∧ ∀ l, l ≤ 50 → M (a + 21 + 2 * u) 1 = nI l → ∀ i, i < l → M' (p + 21 + 2 * u + 1) i = M (a + 21 + 2 * u + 1) i)
theorem textsB {M : Mem} {p a : Nat} (hd : a + 37 ≤ p ∨ p + 37 ≤ a) (hl : ∀ u, u < 8 → ∃ l : Nat, l ≤ 50 ∧ M (a + 21 + 2 * u) 1 = nI l) : ∃ M', nq_lp (fun s : Int32 × Mem => fX7_become_B24 p a s.1 s.2) nq_fuel (0, M) = some M' ∧ tB p a 8 M M' := by
  have key := nq_for0 (body := fun s : Int32 × Mem => fX7_become_B24 p a s.1 s.2) 8 (fun k s => s.1 = iI k ∧ tB p a k M s.2) (fun r => tB p a 8 M r) (s := (0, M)) (by omega) ⟨rfl, fun _ _ => rfl, fun u hu => absurd hu (by omega)⟩
    (by
      rintro k ⟨i, M'⟩ hk ⟨h1, h2, h3⟩
      dsimp only at h1 h2 h3
      subst h1
      left
      obtain ⟨l, hl1, hl2⟩ := hl k hk
      have e1 : M' (a + 21 + 2 * k) = M (a + 21 + 2 * k) := h2 _ (by omega)
      have e2 : M' (a + 21 + 2 * k + 1) = M (a + 21 + 2 * k + 1) := h2 _ (by omega)
      refine ⟨(iI ((k + 1 : Nat) : Int), nq_wr (rg M' (p + 21 + 2 * k + 1) 0 l (M (a + 21 + 2 * k + 1))) (p + 21 + 2 * k) 1 (nI l)), ?_, rfl, ?_, ?_⟩
      · show fX7_become_B24 p a (iI k) M' = _
        unfold fX7_become_B24 fX5_become
        simp (disch := omega) only [il_8, iI_le, iI_ar, nq_bs, nq_ltS, if_neg, Int.toNat_natCast, e1, hl2, iI_nat, il_0, il_1, iI_add, cp_all, e2]
        rfl
      · intro c hc
        dsimp only
        rw [wr_k (by omega), rg_k (by omega)]
        exact h2 c (by omega)
      · intro u hu
        dsimp only
        by_cases e : u = k
        · subst e
          rw [wr_s ⟨rfl, rfl⟩, hl2]
          refine ⟨rfl, ?_⟩
          intro l' hl' e i hi
          have : l = l' := (nI_eq (by omega) (by omega)).mp e
          rw [wr_k (by omega), rg_s ⟨rfl, by omega, by omega⟩, Nat.sub_zero]
        · rw [wr_k (by omega), wr_k (by omega), rg_k (by omega), rg_k (by omega)]
          exact h3 u (by omega))
    (by
      rintro ⟨i, M'⟩ ⟨h1, h2⟩
      dsimp only at h1 h2
      subst h1
      refine ⟨M', ?_, h2⟩
      show fX7_become_B24 p a (iI ((8 : Nat) : Int)) M' = _
      unfold fX7_become_B24
      rw [if_pos (by decide)])
  exact key
theorem worldB {M : Mem} {p a : Nat} {row : Nat → Int32} {D : Nat → Int} (hd : a + 37 ≤ p ∨ p + 37 ≤ a) (hc : Cur a row M D) : ∃ M', fX7_become p a M = some M' ∧ (∀ k, (k < p ∨ p + 37 ≤ k) → M' k = M k) ∧ ∀ row' : Nat → Int32, (∀ j, j < 1250 → row' j = row j) → Cur p row' M' D := by
  obtain ⟨h0, hS, hR, hL, hA, hT⟩ := hc
  obtain ⟨M1, x1, f1, r1, r2, r3⟩ := roadsB (M := M) (p := p + 1) (a := a + 1) (by omega)
  obtain ⟨M2, x2, f2, l1, l2, l3⟩ := lettersB (M := M1) (p := p + 4) (a := a + 4) (by omega)
  have hl : ∀ u, u < 8 → ∃ l : Nat, l ≤ 50 ∧ M2 (a + 21 + 2 * u) 1 = nI l := by
    intro u hu
    rw [f2 _ (by omega), f1 _ (by omega)]
    exact (hT u hu).len
  obtain ⟨M3, x3, f3, t3⟩ := textsB (M := M2) (p := p) (a := a) hd hl
  obtain ⟨M4, x4, f4, s4, y1, y2, y3, y4, y5, y6⟩ := restB (M := M3) (p := p) (a := a) hd
  have fa : ∀ k, a ≤ k → k < a + 37 → M3 k = M k := by
    intro k h1 h2
    rw [f3 k (by omega), f2 k (by omega), f1 k (by omega)]
  refine ⟨M4, ?_, ?_, ?_⟩
  · unfold fX7_become fX7_become_L24
    rw [x1]
    simp only [nq_bs]
    rw [x2]
    simp only [nq_bs]
    rw [x3]
    simp only [nq_bs]
    exact x4
  · intro k hk
    rw [f4 k (by omega), f3 k (by omega), f2 k (by omega), f1 k (by omega)]
  · intro row' hrow
    refine ⟨fun j hj => (hrow j hj).trans (h0 j hj), ?_, ?_, ?_, ?_, ?_⟩
    · unfold GS at *
      rw [s4 9 (by omega) (by omega), s4 10 (by omega) (by omega), s4 11 (by omega) (by omega), s4 12 (by omega) (by omega), s4 13 (by omega) (by omega), s4 14 (by omega) (by omega), s4 15 (by omega) (by omega), s4 16 (by omega) (by omega), fa a (by omega) (by omega)]
      exact hS
    · obtain ⟨g1, g2, g3, g4, g5⟩ := hR
      have e : ∀ k, p + 1 ≤ k → k < p + 4 → M4 k = M1 k := by
        intro k h1 h2
        rw [f4 k (by omega), f3 k (by omega), f2 k (by omega)]
      refine ⟨?_, g2, ?_, g4, ?_⟩
      · rw [e _ (by omega) (by omega), r1]; exact g1
      · intro j hj; rw [e _ (by omega) (by omega), r2 j hj]; exact g3 j hj
      · intro j hj; rw [e _ (by omega) (by omega), r3 j hj]; exact g5 j hj
    · obtain ⟨g1, g2, g3, g4, g5, g6⟩ := hL
      have e : ∀ k, p + 4 ≤ k → k < p + 14 → M4 k = M2 k := by
        intro k h1 h2
        rw [f4 k (by omega), f3 k (by omega)]
      have l3' : ∀ f, 1 ≤ f → f ≤ 9 → ∀ j, j < 80 → M4 (p + 4 + f) j = M (a + 4 + f) j := by
        intro f h1 h2 j hj
        rw [e _ (by omega) (by omega), l3 f h1 h2 j hj, f1 _ (by omega)]
      have hlen : (arrL D).length ≤ 80 := arrL_len g2
      refine ⟨?_, g2, ?_, ?_, ?_, g6⟩
      · rw [e _ (by omega) (by omega), l1, f1 _ (by omega)]; exact g1
      · intro w hw f hf
        rw [show p + 4 + 1 + f = p + 4 + (1 + f) by omega, l3' (1 + f) (by omega) (by omega) w hw, show a + 4 + (1 + f) = a + 4 + 1 + f by omega]
        exact g3 w hw f hf
      · rw [e _ (by omega) (by omega), l2, f1 _ (by omega)]; exact g4
      · intro i hi
        rw [l3' 9 (by omega) (by omega) i (by omega)]
        exact g5 i hi
    · obtain ⟨q1, q2, q3, q4, q5⟩ := hA
      refine ⟨?_, ?_, ?_, ?_, ?_⟩
      · intro j hj; rw [y1 j hj, fa _ (by omega) (by omega)]; exact q1 j hj
      · intro j hj; rw [show p + 15 + 1 = p + 16 by omega, y2 j hj, fa _ (by omega) (by omega)]; exact q2 j hj
      · intro j hj; rw [show p + 15 + 2 = p + 17 by omega, y3 j hj, fa _ (by omega) (by omega)]; exact q3 j hj
      · intro j hj; rw [show p + 15 + 3 = p + 18 by omega, show p + 15 + 4 = p + 19 by omega, y4 j hj, y5 j hj, fa _ (by omega) (by omega), fa _ (by omega) (by omega)]; exact q4 j hj
      · intro j hj; rw [show p + 15 + 5 = p + 20 by omega, y6 j hj, fa _ (by omega) (by omega)]; exact q5 j hj
    · intro u hu
      obtain ⟨t1, t2⟩ := t3 u hu
      have e : ∀ k, p + 21 ≤ k → k < p + 37 → M4 k = M3 k := by
        intro k h1 h2
        rw [f4 k (by omega)]
      rw [e _ (by omega) (by omega), e _ (by omega) (by omega), t1, f2 _ (by omega), f1 _ (by omega)]
      refine TxR.frame (hT u hu) ?_ (fun i hi => rfl)
      intro l h1 h2 i hi
      rw [t2 l h1 (by rw [f2 _ (by omega), f1 _ (by omega)]; exact h2) i hi, f2 _ (by omega), f1 _ (by omega)]
theorem image9 {M : Mem} : nq_lp (fun s : Int32 × Mem => fX9_image_B2 s.1 s.2) nq_fuel (iI 0, M) = some (rg M 2 0 1250 (M 1)) := by
  refine lp_rg (body := fun s : Int32 × Mem => fX9_image_B2 s.1 s.2) (M := M) 2 0 1250 (M 1) (by omega) ?_ ?_
  · intro k hk
    show fX9_image_B2 (iI k) _ = _
    unfold fX9_image_B2
    simp (disch := omega) only [il_0, il_1, il_2, il_3, il_4, il_5, il_6, il_7, il_8, il_9, il_10, il_11, il_12, il_13, il_16, il_20, il_30, il_31, il_32, il_33, il_36, il_37, il_38, il_40, il_41, il_42, il_43, il_45, il_47, il_48, il_50, il_57, il_60, il_61, il_62, il_70, il_71, il_79, il_80, il_97, il_98, il_99, il_100, il_107, il_110, il_111, il_114, il_115, il_116, il_121, il_124, il_128, il_130, il_140, il_160, il_255, il_399, il_540, il_590, il_610, il_999, il_1000, il_1250, il_10000, il_12345, il_99999, il_1000000, il_1103515245, ll_0, ll_1, ll_2, ll_3, ll_4, ll_5, ll_6, ll_7, ll_8, ll_9, ll_30, ll_48, ll_50, ll_57, ll_99, ll_100, ll_255, ll_399, ll_999, ll_99999, nq_bs, nq_ltS, nq_b2S, b2_id, bi_id, iI_add, iI_sub, iI_mul, iI_neg, lI_neg, iI_64, iI_lt, iI_le, iI_eq, iI_ag, iI_as, iI_ar, iI_dv, iI_rem, isOut8, in9, bo_nz, bo_t, bo_f, wr_s, wr_n, wr_k, if_pos, if_neg, ↓reduceIte, Nat.reduceAdd, Nat.reduceMul, Nat.reduceSub, Nat.reduceEqDiff, Int.reduceToNat, Int.toNat_natCast, Int.reduceNeg, Int.reduceAdd, Int.reduceSub, Int.reduceMul, rg_k, Nat.zero_add]
    rfl
  · show fX9_image_B2 (iI ((1250 : Nat) : Int)) _ = _
    unfold fX9_image_B2
    rw [if_pos (by decide)]
theorem restore9 {M : Mem} : nq_lp (fun s : Int32 × Mem => fX9_restore_B15 s.1 s.2) nq_fuel (iI 0, M) = some (rg M 1 0 1250 (M 2)) := by
  refine lp_rg (body := fun s : Int32 × Mem => fX9_restore_B15 s.1 s.2) (M := M) 1 0 1250 (M 2) (by omega) ?_ ?_
  · intro k hk
    show fX9_restore_B15 (iI k) _ = _
    unfold fX9_restore_B15
    simp (disch := omega) only [il_0, il_1, il_2, il_3, il_4, il_5, il_6, il_7, il_8, il_9, il_10, il_11, il_12, il_13, il_16, il_20, il_30, il_31, il_32, il_33, il_36, il_37, il_38, il_40, il_41, il_42, il_43, il_45, il_47, il_48, il_50, il_57, il_60, il_61, il_62, il_70, il_71, il_79, il_80, il_97, il_98, il_99, il_100, il_107, il_110, il_111, il_114, il_115, il_116, il_121, il_124, il_128, il_130, il_140, il_160, il_255, il_399, il_540, il_590, il_610, il_999, il_1000, il_1250, il_10000, il_12345, il_99999, il_1000000, il_1103515245, ll_0, ll_1, ll_2, ll_3, ll_4, ll_5, ll_6, ll_7, ll_8, ll_9, ll_30, ll_48, ll_50, ll_57, ll_99, ll_100, ll_255, ll_399, ll_999, ll_99999, nq_bs, nq_ltS, nq_b2S, b2_id, bi_id, iI_add, iI_sub, iI_mul, iI_neg, lI_neg, iI_64, iI_lt, iI_le, iI_eq, iI_ag, iI_as, iI_ar, iI_dv, iI_rem, isOut8, in9, bo_nz, bo_t, bo_f, wr_s, wr_n, wr_k, if_pos, if_neg, ↓reduceIte, Nat.reduceAdd, Nat.reduceMul, Nat.reduceSub, Nat.reduceEqDiff, Int.reduceToNat, Int.toNat_natCast, Int.reduceNeg, Int.reduceAdd, Int.reduceSub, Int.reduceMul, rg_k, Nat.zero_add]
    rfl
  · show fX9_restore_B15 (iI ((1250 : Nat) : Int)) _ = _
    unfold fX9_restore_B15
    rw [if_pos (by decide)]
theorem hop_image (Mx Mm : Mem) (h : RR Mx Mm) : ∃ (r : Int32) (Mx1 Mm1 : Mem), fX8_image Mx = some (r, Mx1) ∧ fX9_image Mm = some (r, Mm1) ∧ RR Mx1 Mm1 := by
  obtain ⟨⟨D, hc⟩, h2, h3, o1, o2, o3, o4⟩ := h
  obtain ⟨M2, e8, f8, c8⟩ := worldB (p := 39) (by omega) hc
  refine ⟨Mm 0 2 + iI 1, nq_wr M2 0 3 (Mm 0 2 + iI 1), nq_wr (rg Mm 2 0 1250 (Mm 1)) 0 2 (Mm 0 2 + iI 1), ?_, ?_, ?_⟩
  · unfold fX8_image
    rw [e8]
    simp (disch := omega) only [nq_bs, nq_ltS, wr_s, il_1, f8 0 (by omega), h2]
  · unfold fX9_image fX9_image_L2 fX9_image_L27
    rw [il_0, image9]
    simp (disch := omega) only [nq_bs, nq_ltS, wr_s, il_1, rg_k]
  · refine ⟨⟨D, hc.frame ?_ ?_⟩, ?_, ?_, ?_, ?_, ?_, ?_⟩
    · intro j hj; simp (disch := omega) only [rg_k, wr_k]
    · intro k h1 h2; rw [wr_k (by omega), f8 k (by omega)]
    · simp (disch := omega) only [wr_s]
    · intro _
      refine ⟨D, (c8 (Mm 1) (fun _ _ => rfl)).frame ?_ ?_⟩
      · intro j hj; simp (disch := omega) only [wr_k, rg_s, Nat.sub_zero]
      · intro k h1 h2; rw [wr_k (by omega)]
    · intro j hj; simp (disch := omega) only [rg_k, wr_k, f8]; exact o1 j hj
    · simp (disch := omega) only [rg_k, wr_n, f8]; exact o2
    · intro j hj; simp (disch := omega) only [rg_k, wr_k, f8]; exact o3 j hj
    · intro i hi; simp (disch := omega) only [rg_k, wr_k, f8]; exact o4 i hi
theorem hop_restore (Mx Mm : Mem) (h : RR Mx Mm) : ∃ (r : Int32) (Mx1 Mm1 : Mem), fX8_restore Mx = some (r, Mx1) ∧ fX9_restore Mm = some (r, Mm1) ∧ RR Mx1 Mm1 := by
  have hh := h
  obtain ⟨_, h2, h3, o1, o2, o3, o4⟩ := hh
  by_cases g : Mx 0 3 = 0
  · refine h.ref 2 (by omega) (by omega) ?_ ?_
    · unfold fX8_restore
      rw [nq_ltS, if_pos g, b2_id]; rfl
    · unfold fX9_restore
      rw [nq_ltS, if_pos (by rw [← h2]; exact g), b2_id]; rfl
  · obtain ⟨D, hc⟩ := h3 g
    obtain ⟨M2, e8, f8, c8⟩ := worldB (p := 2) (by omega) hc
    have c2 := c8 (Mm 2) (fun _ _ => rfl)
    refine ⟨iI (D 0), M2, rg Mm 1 0 1250 (Mm 2), ?_, ?_, ?_⟩
    · unfold fX8_restore
      rw [nq_ltS, if_neg g, e8, nq_bs, nq_ltS, c2.2.1.1.1]
    · unfold fX9_restore fX9_restore_L15 fX9_restore_L40
      rw [nq_ltS, if_neg (by rw [← h2]; exact g), il_0, restore9]
      simp (disch := omega) only [nq_bs, iI_ag, rg_s, Int.reduceToNat, Nat.sub_zero]
      rw [c2.1 0 (by omega)]
    · refine h.upd (D := D) ?_ ?_ (c2.frame ?_ (fun _ _ _ => rfl))
      · intro k hk; exact f8 k (by omega)
      · refine ⟨fun k hk => ?_, ?_, ?_⟩
        · simp (disch := omega) only [rg_k]
        · simp (disch := omega) only [rg_k]
        · simp (disch := omega) only [rg_k]
      · intro j hj; simp (disch := omega) only [rg_s, Nat.sub_zero]
