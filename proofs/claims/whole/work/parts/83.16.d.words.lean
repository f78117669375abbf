/-! 16.d: two loops side by side; hop: words -/
theorem lp_two_aux {σ τ ρ ρ' : Type} {body : σ → Option (σ ⊕ ρ)} {body' : τ → Option (τ ⊕ ρ')} (n : Nat) (P : Nat → σ → τ → Prop) (Q : ρ → ρ' → Prop)
    (hstep : ∀ k s t, k < n → P k s t → (∃ s' t', body s = some (.inl s') ∧ body' t = some (.inl t') ∧ P (k + 1) s' t') ∨ ∃ r r', body s = some (.inr r) ∧ body' t = some (.inr r') ∧ Q r r')
    (hend : ∀ s t, P n s t → ∃ r r', body s = some (.inr r) ∧ body' t = some (.inr r') ∧ Q r r') : ∀ (m fuel k : Nat) (s : σ) (t : τ), k + m = n → m < fuel → P k s t → ∃ r r', nq_lp body fuel s = some r ∧ nq_lp body' fuel t = some r' ∧ Q r r' := by
  intro m
  induction m with
  | zero =>
    intro fuel k s t hk hf hP
    obtain ⟨f, rfl⟩ : ∃ f, fuel = f + 1 := ⟨fuel - 1, by omega⟩
    have : k = n := by omega
    subst this
    obtain ⟨r, r', h1, h2, h3⟩ := hend s t hP
    exact ⟨r, r', by unfold nq_lp; rw [h1], by unfold nq_lp; rw [h2], h3⟩
  | succ m ih =>
    intro fuel k s t hk hf hP
    obtain ⟨f, rfl⟩ : ∃ f, fuel = f + 1 := ⟨fuel - 1, by omega⟩
    rcases hstep k s t (by omega) hP with ⟨s', t', h1, h2, h3⟩ | ⟨r, r', h1, h2, h3⟩
    · obtain ⟨r, r', g1, g2, g3⟩ := ih f (k + 1) s' t' (by omega) (by omega) h3
      exact ⟨r, r', by unfold nq_lp; rw [h1]; exact g1, by unfold nq_lp; rw [h2]; exact g2, g3⟩
    · exact ⟨r, r', by unfold nq_lp; rw [h1], by unfold nq_lp; rw [h2], h3⟩
theorem lp_two {σ τ ρ ρ' : Type} {body : σ → Option (σ ⊕ ρ)} {body' : τ → Option (τ ⊕ ρ')} (n : Nat) (P : Nat → σ → τ → Prop) (Q : ρ → ρ' → Prop) {s : σ} {t : τ} (hn : n < 1000000) (h0 : P 0 s t)
    (hstep : ∀ k s t, k < n → P k s t → (∃ s' t', body s = some (.inl s') ∧ body' t = some (.inl t') ∧ P (k + 1) s' t') ∨ ∃ r r', body s = some (.inr r) ∧ body' t = some (.inr r') ∧ Q r r')
    (hend : ∀ s t, P n s t → ∃ r r', body s = some (.inr r) ∧ body' t = some (.inr r') ∧ Q r r') : ∃ r r', nq_lp body nq_fuel s = some r ∧ nq_lp body' nq_fuel t = some r' ∧ Q r r' :=
  lp_two_aux n P Q hstep hend n nq_fuel 0 s t (Nat.zero_add n) hn h0
theorem hop_words (a0 : Int32) (Mx Mm : Mem) (h : RR Mx Mm) : ∃ (r : Int32) (Mx1 Mm1 : Mem), fX8_words a0 Mx = some (r, Mx1) ∧ fX9_words a0 Mm = some (r, Mm1) ∧ RR Mx1 Mm1 := by
  obtain ⟨x, hx, rfl⟩ := iI_of a0
  by_cases gx : 0 ≤ x ∧ x < 4
  · obtain ⟨r1, ⟨s, hs, r2, r2'⟩, r3⟩ := h.2.2.2.2.2.2 x.toNat (by omega)
    by_cases g0 : Mm 11 x.toNat = iI 0
    · exact h.ref 2 (by omega) (by omega) (by unfold fX8_words; simp (disch := omega) only [il_0, il_1, il_2, il_3, il_4, il_5, il_6, il_7, il_8, il_9, il_10, il_11, il_12, il_13, il_16, il_20, il_30, il_31, il_32, il_33, il_36, il_37, il_38, il_40, il_41, il_42, il_43, il_45, il_47, il_48, il_50, il_57, il_60, il_61, il_62, il_70, il_71, il_79, il_80, il_97, il_98, il_99, il_100, il_107, il_110, il_111, il_114, il_115, il_116, il_121, il_124, il_128, il_130, il_140, il_160, il_255, il_399, il_540, il_590, il_610, il_999, il_1000, il_1250, il_10000, il_12345, il_99999, il_1000000, il_1103515245, ll_0, ll_1, ll_2, ll_3, ll_4, ll_5, ll_6, ll_7, ll_8, ll_9, ll_30, ll_48, ll_50, ll_57, ll_99, ll_100, ll_255, ll_399, ll_999, ll_99999, nq_bs, nq_ltS, nq_b2S, b2_id, bi_id, iI_add, iI_sub, iI_mul, iI_neg, lI_neg, iI_64, iI_lt, iI_le, iI_eq, iI_ag, iI_as, iI_ar, iI_dv, iI_rem, isOut8, in9, bo_nz, bo_t, bo_f, wr_s, wr_n, wr_k, if_pos, if_neg, ↓reduceIte, Nat.reduceAdd, Nat.reduceMul, Nat.reduceSub, Nat.reduceEqDiff, Int.reduceToNat, Int.toNat_natCast, Int.reduceNeg, Int.reduceAdd, Int.reduceSub, Int.reduceMul, isSheet8, r1, g0]) (by unfold fX9_words; simp (disch := omega) only [il_0, il_1, il_2, il_3, il_4, il_5, il_6, il_7, il_8, il_9, il_10, il_11, il_12, il_13, il_16, il_20, il_30, il_31, il_32, il_33, il_36, il_37, il_38, il_40, il_41, il_42, il_43, il_45, il_47, il_48, il_50, il_57, il_60, il_61, il_62, il_70, il_71, il_79, il_80, il_97, il_98, il_99, il_100, il_107, il_110, il_111, il_114, il_115, il_116, il_121, il_124, il_128, il_130, il_140, il_160, il_255, il_399, il_540, il_590, il_610, il_999, il_1000, il_1250, il_10000, il_12345, il_99999, il_1000000, il_1103515245, ll_0, ll_1, ll_2, ll_3, ll_4, ll_5, ll_6, ll_7, ll_8, ll_9, ll_30, ll_48, ll_50, ll_57, ll_99, ll_100, ll_255, ll_399, ll_999, ll_99999, nq_bs, nq_ltS, nq_b2S, b2_id, bi_id, iI_add, iI_sub, iI_mul, iI_neg, lI_neg, iI_64, iI_lt, iI_le, iI_eq, iI_ag, iI_as, iI_ar, iI_dv, iI_rem, isOut8, in9, bo_nz, bo_t, bo_f, wr_s, wr_n, wr_k, if_pos, if_neg, ↓reduceIte, Nat.reduceAdd, Nat.reduceMul, Nat.reduceSub, Nat.reduceEqDiff, Int.reduceToNat, Int.toNat_natCast, Int.reduceNeg, Int.reduceAdd, Int.reduceSub, Int.reduceMul, isSheet9, g0])
    · have key := lp_two (body := fun s : Int32 × Int32 × Mem => fX8_words_B38 (87 + 2 * x.toNat) s.1 s.2.1 s.2.2) (body' := fun s : Int32 × Int32 × Mem => fX9_words_B35 (iI x) s.1 s.2.1 s.2.2) 14
        (fun k t u => t.1 = iI k ∧ t.2.1 = iI (3 * k) ∧ u.1 = iI k ∧ u.2.1 = iI (40 * x + 3 * k) ∧ RR t.2.2 u.2.2 ∧ KeepX Mx t.2.2 ∧ KeepM Mm u.2.2)
        (fun r r' => r.1 = r'.1 ∧ RR r.2 r'.2) (s := (iI 0, iI 0, Mx)) (t := (iI 0, iI (40 * x), Mm)) (by omega)
        ⟨rfl, rfl, rfl, by simp, h, KeepX.refl _, KeepM.refl _⟩
        (by
          rintro k ⟨m, i, M8⟩ ⟨c, a, M9⟩ hk ⟨e1, e2, e3, e4, hRR, kX, kM⟩
          dsimp only at e1 e2 e3 e4 hRR kX kM
          subst e1; subst e2; subst e3; subst e4
          have u1 : M8 (87 + 2 * x.toNat) 1 = iI s := by rw [kX _ (by omega)]; exact r2
          have u2 : M9 12 x.toNat = iI s := by rw [kM.1 12 (by omega)]; exact r2'
          by_cases cs : s ≤ 3 * k + 2
          · right
            refine ⟨(iI k, M8), (iI k, M9), ?_, ?_, rfl, hRR⟩
            · show fX8_words_B38 _ (iI k) (iI (3 * k)) M8 = _
              unfold fX8_words_B38
              simp (disch := omega) only [il_0, il_1, il_2, il_3, il_4, il_5, il_6, il_7, il_8, il_9, il_10, il_11, il_12, il_13, il_16, il_20, il_30, il_31, il_32, il_33, il_36, il_37, il_38, il_40, il_41, il_42, il_43, il_45, il_47, il_48, il_50, il_57, il_60, il_61, il_62, il_70, il_71, il_79, il_80, il_97, il_98, il_99, il_100, il_107, il_110, il_111, il_114, il_115, il_116, il_121, il_124, il_128, il_130, il_140, il_160, il_255, il_399, il_540, il_590, il_610, il_999, il_1000, il_1250, il_10000, il_12345, il_99999, il_1000000, il_1103515245, ll_0, ll_1, ll_2, ll_3, ll_4, ll_5, ll_6, ll_7, ll_8, ll_9, ll_30, ll_48, ll_50, ll_57, ll_99, ll_100, ll_255, ll_399, ll_999, ll_99999, nq_bs, nq_ltS, nq_b2S, b2_id, bi_id, iI_add, iI_sub, iI_mul, iI_neg, lI_neg, iI_64, iI_lt, iI_le, iI_eq, iI_ag, iI_as, iI_ar, iI_dv, iI_rem, isOut8, in9, bo_nz, bo_t, bo_f, wr_s, wr_n, wr_k, if_pos, if_neg, ↓reduceIte, Nat.reduceAdd, Nat.reduceMul, Nat.reduceSub, Nat.reduceEqDiff, Int.reduceToNat, Int.toNat_natCast, Int.reduceNeg, Int.reduceAdd, Int.reduceSub, Int.reduceMul, u1]
            · show fX9_words_B35 (iI x) (iI k) (iI (40 * x + 3 * k)) M9 = _
              unfold fX9_words_B35
              simp (disch := omega) only [il_0, il_1, il_2, il_3, il_4, il_5, il_6, il_7, il_8, il_9, il_10, il_11, il_12, il_13, il_16, il_20, il_30, il_31, il_32, il_33, il_36, il_37, il_38, il_40, il_41, il_42, il_43, il_45, il_47, il_48, il_50, il_57, il_60, il_61, il_62, il_70, il_71, il_79, il_80, il_97, il_98, il_99, il_100, il_107, il_110, il_111, il_114, il_115, il_116, il_121, il_124, il_128, il_130, il_140, il_160, il_255, il_399, il_540, il_590, il_610, il_999, il_1000, il_1250, il_10000, il_12345, il_99999, il_1000000, il_1103515245, ll_0, ll_1, ll_2, ll_3, ll_4, ll_5, ll_6, ll_7, ll_8, ll_9, ll_30, ll_48, ll_50, ll_57, ll_99, ll_100, ll_255, ll_399, ll_999, ll_99999, nq_bs, nq_ltS, nq_b2S, b2_id, bi_id, iI_add, iI_sub, iI_mul, iI_neg, lI_neg, iI_64, iI_lt, iI_le, iI_eq, iI_ag, iI_as, iI_ar, iI_dv, iI_rem, isOut8, in9, bo_nz, bo_t, bo_f, wr_s, wr_n, wr_k, if_pos, if_neg, ↓reduceIte, Nat.reduceAdd, Nat.reduceMul, Nat.reduceSub, Nat.reduceEqDiff, Int.reduceToNat, Int.toNat_natCast, Int.reduceNeg, Int.reduceAdd, Int.reduceSub, Int.reduceMul, u2]
          · have v : ∀ d, d < 3 → M8 (87 + 2 * x.toNat + 1) (3 * k + d) = M9 13 (40 * x.toNat + (3 * k + d)) := by
              intro d hd
              rw [kX _ (by omega), kM.1 13 (by omega), show 87 + 2 * x.toNat + 1 = 88 + 2 * x.toNat by omega]
              exact r3 (3 * k + d) (by omega)
            have v1 := v 1 (by omega)
            have v2 := v 2 (by omega)
            obtain ⟨K, hK, eK⟩ := iI_of (M9 13 (40 * x.toNat + (3 * k + 0)))
            obtain ⟨F, hF, eF⟩ := iI_of (M9 13 (40 * x.toNat + (3 * k + 1)))
            obtain ⟨Q, hQ, eQ⟩ := iI_of (M9 13 (40 * x.toNat + (3 * k + 2)))
            have v0 : M8 (87 + 2 * x.toNat + 1) (3 * k) = iI K := by
              have := v 0 (by omega)
              rw [eK] at this; exact this
            rw [eF] at v1
            rw [eQ] at v2
            rw [Nat.add_zero] at eK
            have z0 : (3 * (k : Int)).toNat = 3 * k := by omega
            have z1 : (3 * (k : Int) + 1).toNat = 3 * k + 1 := by omega
            have z2 : (3 * (k : Int) + 2).toNat = 3 * k + 2 := by omega
            have y0 : (40 * x + 3 * (k : Int)).toNat = 40 * x.toNat + 3 * k := by omega
            have y1 : (40 * x + 3 * (k : Int) + 1).toNat = 40 * x.toNat + (3 * k + 1) := by omega
            have y2 : (40 * x + 3 * (k : Int) + 2).toNat = 40 * x.toNat + (3 * k + 2) := by omega
            obtain ⟨D, hc⟩ := hRR.1
            obtain ⟨f8, Mm1, f9, k1, h1, hc1, snd⟩ := hRR.ask hc hK hF hQ
            have bd := flt_bd D K F Q
            by_cases cz : flt D K F Q = 0
            · left
              obtain ⟨Mx2, Mm2, q1, q2, q3, q4, q5, _⟩ := snd cz
              obtain ⟨_, g2, _⟩ := flt_0 cz
              have p1 := hc.2.2.1.2.1
              have m13 : Mm1 13 = M9 13 := k1.1 13 (by omega)
              refine ⟨(iI ((k + 1 : Nat) : Int), iI (3 * ((k + 1 : Nat) : Int)), Mx2), (iI ((k + 1 : Nat) : Int), iI (40 * x + 3 * ((k + 1 : Nat) : Int)), Mm2), ?_, ?_, rfl, rfl, rfl, rfl, q5, kX.trans q3, kM.trans q4⟩
              · show fX8_words_B38 _ (iI k) (iI (3 * k)) M8 = _
                unfold fX8_words_B38
                simp (disch := omega) only [il_0, il_1, il_2, il_3, il_4, il_5, il_6, il_7, il_8, il_9, il_10, il_11, il_12, il_13, il_16, il_20, il_30, il_31, il_32, il_33, il_36, il_37, il_38, il_40, il_41, il_42, il_43, il_45, il_47, il_48, il_50, il_57, il_60, il_61, il_62, il_70, il_71, il_79, il_80, il_97, il_98, il_99, il_100, il_107, il_110, il_111, il_114, il_115, il_116, il_121, il_124, il_128, il_130, il_140, il_160, il_255, il_399, il_540, il_590, il_610, il_999, il_1000, il_1250, il_10000, il_12345, il_99999, il_1000000, il_1103515245, ll_0, ll_1, ll_2, ll_3, ll_4, ll_5, ll_6, ll_7, ll_8, ll_9, ll_30, ll_48, ll_50, ll_57, ll_99, ll_100, ll_255, ll_399, ll_999, ll_99999, nq_bs, nq_ltS, nq_b2S, b2_id, bi_id, iI_add, iI_sub, iI_mul, iI_neg, lI_neg, iI_64, iI_lt, iI_le, iI_eq, iI_ag, iI_as, iI_ar, iI_dv, iI_rem, isOut8, in9, bo_nz, bo_t, bo_f, wr_s, wr_n, wr_k, if_pos, if_neg, ↓reduceIte, Nat.reduceAdd, Nat.reduceMul, Nat.reduceSub, Nat.reduceEqDiff, Int.reduceToNat, Int.toNat_natCast, Int.reduceNeg, Int.reduceAdd, Int.reduceSub, Int.reduceMul, u1, z0, z1, z2, v0, v1, v2, f8, cz, q1]
                rw [show 3 * (k : Int) + 3 = 3 * ((k + 1 : Nat) : Int) by omega]
                rfl
              · show fX9_words_B35 (iI x) (iI k) (iI (40 * x + 3 * k)) M9 = _
                unfold fX9_words_B35
                simp (disch := omega) only [il_0, il_1, il_2, il_3, il_4, il_5, il_6, il_7, il_8, il_9, il_10, il_11, il_12, il_13, il_16, il_20, il_30, il_31, il_32, il_33, il_36, il_37, il_38, il_40, il_41, il_42, il_43, il_45, il_47, il_48, il_50, il_57, il_60, il_61, il_62, il_70, il_71, il_79, il_80, il_97, il_98, il_99, il_100, il_107, il_110, il_111, il_114, il_115, il_116, il_121, il_124, il_128, il_130, il_140, il_160, il_255, il_399, il_540, il_590, il_610, il_999, il_1000, il_1250, il_10000, il_12345, il_99999, il_1000000, il_1103515245, ll_0, ll_1, ll_2, ll_3, ll_4, ll_5, ll_6, ll_7, ll_8, ll_9, ll_30, ll_48, ll_50, ll_57, ll_99, ll_100, ll_255, ll_399, ll_999, ll_99999, nq_bs, nq_ltS, nq_b2S, b2_id, bi_id, iI_add, iI_sub, iI_mul, iI_neg, lI_neg, iI_64, iI_lt, iI_le, iI_eq, iI_ag, iI_as, iI_ar, iI_dv, iI_rem, isOut8, in9, bo_nz, bo_t, bo_f, wr_s, wr_n, wr_k, if_pos, if_neg, ↓reduceIte, Nat.reduceAdd, Nat.reduceMul, Nat.reduceSub, Nat.reduceEqDiff, Int.reduceToNat, Int.toNat_natCast, Int.reduceNeg, Int.reduceAdd, Int.reduceSub, Int.reduceMul, u2, y0, y1, y2, eK, eF, eQ, f9, cz, m13, q2]
                rw [show 40 * x + 3 * (k : Int) + 3 = 40 * x + 3 * ((k + 1 : Nat) : Int) by omega]
                rfl
            · right
              refine ⟨(iI k, M8), (iI k, Mm1), ?_, ?_, rfl, h1⟩
              · show fX8_words_B38 _ (iI k) (iI (3 * k)) M8 = _
                unfold fX8_words_B38
                simp (disch := omega) only [il_0, il_1, il_2, il_3, il_4, il_5, il_6, il_7, il_8, il_9, il_10, il_11, il_12, il_13, il_16, il_20, il_30, il_31, il_32, il_33, il_36, il_37, il_38, il_40, il_41, il_42, il_43, il_45, il_47, il_48, il_50, il_57, il_60, il_61, il_62, il_70, il_71, il_79, il_80, il_97, il_98, il_99, il_100, il_107, il_110, il_111, il_114, il_115, il_116, il_121, il_124, il_128, il_130, il_140, il_160, il_255, il_399, il_540, il_590, il_610, il_999, il_1000, il_1250, il_10000, il_12345, il_99999, il_1000000, il_1103515245, ll_0, ll_1, ll_2, ll_3, ll_4, ll_5, ll_6, ll_7, ll_8, ll_9, ll_30, ll_48, ll_50, ll_57, ll_99, ll_100, ll_255, ll_399, ll_999, ll_99999, nq_bs, nq_ltS, nq_b2S, b2_id, bi_id, iI_add, iI_sub, iI_mul, iI_neg, lI_neg, iI_64, iI_lt, iI_le, iI_eq, iI_ag, iI_as, iI_ar, iI_dv, iI_rem, isOut8, in9, bo_nz, bo_t, bo_f, wr_s, wr_n, wr_k, if_pos, if_neg, ↓reduceIte, Nat.reduceAdd, Nat.reduceMul, Nat.reduceSub, Nat.reduceEqDiff, Int.reduceToNat, Int.toNat_natCast, Int.reduceNeg, Int.reduceAdd, Int.reduceSub, Int.reduceMul, u1, z0, z1, z2, v0, v1, v2, f8]
              · show fX9_words_B35 (iI x) (iI k) (iI (40 * x + 3 * k)) M9 = _
                unfold fX9_words_B35
                simp (disch := omega) only [il_0, il_1, il_2, il_3, il_4, il_5, il_6, il_7, il_8, il_9, il_10, il_11, il_12, il_13, il_16, il_20, il_30, il_31, il_32, il_33, il_36, il_37, il_38, il_40, il_41, il_42, il_43, il_45, il_47, il_48, il_50, il_57, il_60, il_61, il_62, il_70, il_71, il_79, il_80, il_97, il_98, il_99, il_100, il_107, il_110, il_111, il_114, il_115, il_116, il_121, il_124, il_128, il_130, il_140, il_160, il_255, il_399, il_540, il_590, il_610, il_999, il_1000, il_1250, il_10000, il_12345, il_99999, il_1000000, il_1103515245, ll_0, ll_1, ll_2, ll_3, ll_4, ll_5, ll_6, ll_7, ll_8, ll_9, ll_30, ll_48, ll_50, ll_57, ll_99, ll_100, ll_255, ll_399, ll_999, ll_99999, nq_bs, nq_ltS, nq_b2S, b2_id, bi_id, iI_add, iI_sub, iI_mul, iI_neg, lI_neg, iI_64, iI_lt, iI_le, iI_eq, iI_ag, iI_as, iI_ar, iI_dv, iI_rem, isOut8, in9, bo_nz, bo_t, bo_f, wr_s, wr_n, wr_k, if_pos, if_neg, ↓reduceIte, Nat.reduceAdd, Nat.reduceMul, Nat.reduceSub, Nat.reduceEqDiff, Int.reduceToNat, Int.toNat_natCast, Int.reduceNeg, Int.reduceAdd, Int.reduceSub, Int.reduceMul, u2, y0, y1, y2, eK, eF, eQ, f9])
        (by
          rintro ⟨m, i, M8⟩ ⟨c, a, M9⟩ ⟨e1, e2, e3, e4, hRR, kX, kM⟩
          dsimp only at e1 e2 e3 e4 hRR kX kM
          subst e1; subst e2; subst e3; subst e4
          have u1 : M8 (87 + 2 * x.toNat) 1 = iI s := by rw [kX _ (by omega)]; exact r2
          have u2 : M9 12 x.toNat = iI s := by rw [kM.1 12 (by omega)]; exact r2'
          refine ⟨(iI ((14 : Nat) : Int), M8), (iI ((14 : Nat) : Int), M9), ?_, ?_, rfl, hRR⟩
          · show fX8_words_B38 _ (iI ((14 : Nat) : Int)) (iI (3 * ((14 : Nat) : Int))) M8 = _
            unfold fX8_words_B38
            simp (disch := omega) only [il_0, il_1, il_2, il_3, il_4, il_5, il_6, il_7, il_8, il_9, il_10, il_11, il_12, il_13, il_16, il_20, il_30, il_31, il_32, il_33, il_36, il_37, il_38, il_40, il_41, il_42, il_43, il_45, il_47, il_48, il_50, il_57, il_60, il_61, il_62, il_70, il_71, il_79, il_80, il_97, il_98, il_99, il_100, il_107, il_110, il_111, il_114, il_115, il_116, il_121, il_124, il_128, il_130, il_140, il_160, il_255, il_399, il_540, il_590, il_610, il_999, il_1000, il_1250, il_10000, il_12345, il_99999, il_1000000, il_1103515245, ll_0, ll_1, ll_2, ll_3, ll_4, ll_5, ll_6, ll_7, ll_8, ll_9, ll_30, ll_48, ll_50, ll_57, ll_99, ll_100, ll_255, ll_399, ll_999, ll_99999, nq_bs, nq_ltS, nq_b2S, b2_id, bi_id, iI_add, iI_sub, iI_mul, iI_neg, lI_neg, iI_64, iI_lt, iI_le, iI_eq, iI_ag, iI_as, iI_ar, iI_dv, iI_rem, isOut8, in9, bo_nz, bo_t, bo_f, wr_s, wr_n, wr_k, if_pos, if_neg, ↓reduceIte, Nat.reduceAdd, Nat.reduceMul, Nat.reduceSub, Nat.reduceEqDiff, Int.reduceToNat, Int.toNat_natCast, Int.reduceNeg, Int.reduceAdd, Int.reduceSub, Int.reduceMul, u1]
          · show fX9_words_B35 (iI x) (iI ((14 : Nat) : Int)) (iI (40 * x + 3 * ((14 : Nat) : Int))) M9 = _
            unfold fX9_words_B35
            simp (disch := omega) only [il_0, il_1, il_2, il_3, il_4, il_5, il_6, il_7, il_8, il_9, il_10, il_11, il_12, il_13, il_16, il_20, il_30, il_31, il_32, il_33, il_36, il_37, il_38, il_40, il_41, il_42, il_43, il_45, il_47, il_48, il_50, il_57, il_60, il_61, il_62, il_70, il_71, il_79, il_80, il_97, il_98, il_99, il_100, il_107, il_110, il_111, il_114, il_115, il_116, il_121, il_124, il_128, il_130, il_140, il_160, il_255, il_399, il_540, il_590, il_610, il_999, il_1000, il_1250, il_10000, il_12345, il_99999, il_1000000, il_1103515245, ll_0, ll_1, ll_2, ll_3, ll_4, ll_5, ll_6, ll_7, ll_8, ll_9, ll_30, ll_48, ll_50, ll_57, ll_99, ll_100, ll_255, ll_399, ll_999, ll_99999, nq_bs, nq_ltS, nq_b2S, b2_id, bi_id, iI_add, iI_sub, iI_mul, iI_neg, lI_neg, iI_64, iI_lt, iI_le, iI_eq, iI_ag, iI_as, iI_ar, iI_dv, iI_rem, isOut8, in9, bo_nz, bo_t, bo_f, wr_s, wr_n, wr_k, if_pos, if_neg, ↓reduceIte, Nat.reduceAdd, Nat.reduceMul, Nat.reduceSub, Nat.reduceEqDiff, Int.reduceToNat, Int.toNat_natCast, Int.reduceNeg, Int.reduceAdd, Int.reduceSub, Int.reduceMul, u2])
      obtain ⟨⟨m, M8⟩, ⟨c, M9⟩, x1, x2, x3, x4⟩ := key
      dsimp only at x3 x4
      subst x3
      refine ⟨m, M8, M9, ?_, ?_, x4⟩
      · unfold fX8_words
        simp (disch := omega) only [il_0, il_1, il_2, il_3, il_4, il_5, il_6, il_7, il_8, il_9, il_10, il_11, il_12, il_13, il_16, il_20, il_30, il_31, il_32, il_33, il_36, il_37, il_38, il_40, il_41, il_42, il_43, il_45, il_47, il_48, il_50, il_57, il_60, il_61, il_62, il_70, il_71, il_79, il_80, il_97, il_98, il_99, il_100, il_107, il_110, il_111, il_114, il_115, il_116, il_121, il_124, il_128, il_130, il_140, il_160, il_255, il_399, il_540, il_590, il_610, il_999, il_1000, il_1250, il_10000, il_12345, il_99999, il_1000000, il_1103515245, ll_0, ll_1, ll_2, ll_3, ll_4, ll_5, ll_6, ll_7, ll_8, ll_9, ll_30, ll_48, ll_50, ll_57, ll_99, ll_100, ll_255, ll_399, ll_999, ll_99999, nq_bs, nq_ltS, nq_b2S, b2_id, bi_id, iI_add, iI_sub, iI_mul, iI_neg, lI_neg, iI_64, iI_lt, iI_le, iI_eq, iI_ag, iI_as, iI_ar, iI_dv, iI_rem, isOut8, in9, bo_nz, bo_t, bo_f, wr_s, wr_n, wr_k, if_pos, if_neg, ↓reduceIte, Nat.reduceAdd, Nat.reduceMul, Nat.reduceSub, Nat.reduceEqDiff, Int.reduceToNat, Int.toNat_natCast, Int.reduceNeg, Int.reduceAdd, Int.reduceSub, Int.reduceMul, isSheet8, r1, g0]
        unfold fX8_words_L38 fX8_words_L127
        rw [x1]; rfl
      · unfold fX9_words
        simp (disch := omega) only [il_0, il_1, il_2, il_3, il_4, il_5, il_6, il_7, il_8, il_9, il_10, il_11, il_12, il_13, il_16, il_20, il_30, il_31, il_32, il_33, il_36, il_37, il_38, il_40, il_41, il_42, il_43, il_45, il_47, il_48, il_50, il_57, il_60, il_61, il_62, il_70, il_71, il_79, il_80, il_97, il_98, il_99, il_100, il_107, il_110, il_111, il_114, il_115, il_116, il_121, il_124, il_128, il_130, il_140, il_160, il_255, il_399, il_540, il_590, il_610, il_999, il_1000, il_1250, il_10000, il_12345, il_99999, il_1000000, il_1103515245, ll_0, ll_1, ll_2, ll_3, ll_4, ll_5, ll_6, ll_7, ll_8, ll_9, ll_30, ll_48, ll_50, ll_57, ll_99, ll_100, ll_255, ll_399, ll_999, ll_99999, nq_bs, nq_ltS, nq_b2S, b2_id, bi_id, iI_add, iI_sub, iI_mul, iI_neg, lI_neg, iI_64, iI_lt, iI_le, iI_eq, iI_ag, iI_as, iI_ar, iI_dv, iI_rem, isOut8, in9, bo_nz, bo_t, bo_f, wr_s, wr_n, wr_k, if_pos, if_neg, ↓reduceIte, Nat.reduceAdd, Nat.reduceMul, Nat.reduceSub, Nat.reduceEqDiff, Int.reduceToNat, Int.toNat_natCast, Int.reduceNeg, Int.reduceAdd, Int.reduceSub, Int.reduceMul, isSheet9, g0]
        unfold fX9_words_L35 fX9_words_L113
        rw [x2]; rfl
  · exact h.ref 1 (by omega) (by omega) (by unfold fX8_words; simp (disch := omega) only [il_0, il_1, il_2, il_3, il_4, il_5, il_6, il_7, il_8, il_9, il_10, il_11, il_12, il_13, il_16, il_20, il_30, il_31, il_32, il_33, il_36, il_37, il_38, il_40, il_41, il_42, il_43, il_45, il_47, il_48, il_50, il_57, il_60, il_61, il_62, il_70, il_71, il_79, il_80, il_97, il_98, il_99, il_100, il_107, il_110, il_111, il_114, il_115, il_116, il_121, il_124, il_128, il_130, il_140, il_160, il_255, il_399, il_540, il_590, il_610, il_999, il_1000, il_1250, il_10000, il_12345, il_99999, il_1000000, il_1103515245, ll_0, ll_1, ll_2, ll_3, ll_4, ll_5, ll_6, ll_7, ll_8, ll_9, ll_30, ll_48, ll_50, ll_57, ll_99, ll_100, ll_255, ll_399, ll_999, ll_99999, nq_bs, nq_ltS, nq_b2S, b2_id, bi_id, iI_add, iI_sub, iI_mul, iI_neg, lI_neg, iI_64, iI_lt, iI_le, iI_eq, iI_ag, iI_as, iI_ar, iI_dv, iI_rem, isOut8, in9, bo_nz, bo_t, bo_f, wr_s, wr_n, wr_k, if_pos, if_neg, ↓reduceIte, Nat.reduceAdd, Nat.reduceMul, Nat.reduceSub, Nat.reduceEqDiff, Int.reduceToNat, Int.toNat_natCast, Int.reduceNeg, Int.reduceAdd, Int.reduceSub, Int.reduceMul, isSheet8]) (by unfold fX9_words; simp (disch := omega) only [il_0, il_1, il_2, il_3, il_4, il_5, il_6, il_7, il_8, il_9, il_10, il_11, il_12, il_13, il_16, il_20, il_30, il_31, il_32, il_33, il_36, il_37, il_38, il_40, il_41, il_42, il_43, il_45, il_47, il_48, il_50, il_57, il_60, il_61, il_62, il_70, il_71, il_79, il_80, il_97, il_98, il_99, il_100, il_107, il_110, il_111, il_114, il_115, il_116, il_121, il_124, il_128, il_130, il_140, il_160, il_255, il_399, il_540, il_590, il_610, il_999, il_1000, il_1250, il_10000, il_12345, il_99999, il_1000000, il_1103515245, ll_0, ll_1, ll_2, ll_3, ll_4, ll_5, ll_6, ll_7, ll_8, ll_9, ll_30, ll_48, ll_50, ll_57, ll_99, ll_100, ll_255, ll_399, ll_999, ll_99999, nq_bs, nq_ltS, nq_b2S, b2_id, bi_id, iI_add, iI_sub, iI_mul, iI_neg, lI_neg, iI_64, iI_lt, iI_le, iI_eq, iI_ag, iI_as, iI_ar, iI_dv, iI_rem, isOut8, in9, bo_nz, bo_t, bo_f, wr_s, wr_n, wr_k, if_pos, if_neg, ↓reduceIte, Nat.reduceAdd, Nat.reduceMul, Nat.reduceSub, Nat.reduceEqDiff, Int.reduceToNat, Int.toNat_natCast, Int.reduceNeg, Int.reduceAdd, Int.reduceSub, Int.reduceMul, isSheet9])
