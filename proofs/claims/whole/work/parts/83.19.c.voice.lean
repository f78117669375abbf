/-! 19.c: voice -/
def VR (M0 N0 : Mem) (ow w tm : Int) (M N : Mem) : Prop := (∃ t : Nat, t ≤ 40 ∧ M 84 1 = iI t ∧ N 0 17 = iI t) ∧ (∀ j, j < 40 → M 85 j = N 10 j) ∧ M 84 2 = iI ow ∧ M 84 3 = iI w ∧ M 84 4 = iI tm ∧ N 0 18 = iI w ∧ fX9_own N = some (iI ow) ∧ fX9_wo (iI w) (iI 6) N = some (iI tm) ∧ (∀ k, k ≠ 84 → k ≠ 85 → M k = M0 k) ∧ (∀ k, k ≠ 0 → k ≠ 10 → N k = N0 k) ∧ (∀ j, j ≠ 17 → j ≠ 18 → N 0 j = N0 0 j)
theorem own_f {N N' : Mem} (h1 : N' 1 = N 1) (h2 : N' 0 18 = N 0 18) : fX9_own N' = fX9_own N := by
  unfold fX9_own fX9_wo
  rw [h1, h2]
theorem wo_f {N N' : Mem} {a b : Int32} (h1 : N' 1 = N 1) : fX9_wo a b N' = fX9_wo a b N := by
  unfold fX9_wo
  rw [h1]
theorem body8M {k a : Int32} {M : Mem} : fX6_bodyOf k a M = fX6_bodyOf k a (fun _ _ => 0) := rfl
/-- a body runs: both traces know it -/
theorem vSay8 {M0 N0 M N : Mem} {ow w tm b dep : Int} {k act x : Int32} {d : Nat} (hb : fX6_bodyOf k act (fun _ _ => 0) = some (iI b)) (hd : 0 ≤ dep ∧ dep ≤ 30) (hV : VR M0 N0 ow w tm M N) : ∃ M1 N1, (gVo_all (d + 2)).1 84 k act x (iI dep) M = fX6_follow (gVo_all d).1 84 (iI b) x (iI (dep + 1)) M1 ∧ fX9_ran (iI b) N = some N1 ∧ VR M0 N0 ow w tm M1 N1 := by
  obtain ⟨⟨t, t1, t2, t3⟩, v2, v3, v4, v5, v6, v7, v8, v9, v10, v11⟩ := hV
  have e0 : (gVo_all (d + 2)).1 84 k act x (iI dep) M = fX6_say (fX6_follow (gVo_all d).1) 84 k act x (iI dep) M := rfl
  rw [e0]
  unfold fX6_say fX6_say_L46 fX9_ran
  rw [body8M (M := M), hb]
  by_cases c : (40 : Int) ≤ t
  · refine ⟨M, N, ?_, ?_, ⟨t, t1, t2, t3⟩, v2, v3, v4, v5, v6, v7, v8, v9, v10, v11⟩
    · simp (disch := omega) only [il_0, il_1, il_2, il_3, il_4, il_5, il_6, il_7, il_8, il_9, il_10, il_11, il_12, il_13, il_16, il_20, il_30, il_31, il_32, il_33, il_36, il_37, il_38, il_40, il_41, il_42, il_43, il_45, il_47, il_48, il_50, il_57, il_60, il_61, il_62, il_70, il_71, il_79, il_80, il_97, il_98, il_99, il_100, il_107, il_110, il_111, il_114, il_115, il_116, il_121, il_124, il_128, il_130, il_140, il_160, il_255, il_399, il_540, il_590, il_610, il_999, il_1000, il_1250, il_10000, il_12345, il_99999, il_1000000, il_1103515245, ll_0, ll_1, ll_2, ll_3, ll_4, ll_5, ll_6, ll_7, ll_8, ll_9, ll_30, ll_48, ll_50, ll_57, ll_99, ll_100, ll_255, ll_399, ll_999, ll_99999, nq_bs, nq_ltS, nq_b2S, b2_id, bi_id, iI_add, iI_sub, iI_mul, iI_neg, lI_neg, iI_64, iI_lt, iI_le, iI_eq, iI_ag, iI_as, iI_ar, iI_dv, iI_rem, isOut8, in9, bo_nz, bo_t, bo_f, wr_s, wr_n, wr_k, if_pos, if_neg, ↓reduceIte, Nat.reduceAdd, Nat.reduceMul, Nat.reduceSub, Nat.reduceEqDiff, Int.reduceToNat, Int.toNat_natCast, Int.reduceNeg, Int.reduceAdd, Int.reduceSub, Int.reduceMul, t2]
    · simp (disch := omega) only [il_0, il_1, il_2, il_3, il_4, il_5, il_6, il_7, il_8, il_9, il_10, il_11, il_12, il_13, il_16, il_20, il_30, il_31, il_32, il_33, il_36, il_37, il_38, il_40, il_41, il_42, il_43, il_45, il_47, il_48, il_50, il_57, il_60, il_61, il_62, il_70, il_71, il_79, il_80, il_97, il_98, il_99, il_100, il_107, il_110, il_111, il_114, il_115, il_116, il_121, il_124, il_128, il_130, il_140, il_160, il_255, il_399, il_540, il_590, il_610, il_999, il_1000, il_1250, il_10000, il_12345, il_99999, il_1000000, il_1103515245, ll_0, ll_1, ll_2, ll_3, ll_4, ll_5, ll_6, ll_7, ll_8, ll_9, ll_30, ll_48, ll_50, ll_57, ll_99, ll_100, ll_255, ll_399, ll_999, ll_99999, nq_bs, nq_ltS, nq_b2S, b2_id, bi_id, iI_add, iI_sub, iI_mul, iI_neg, lI_neg, iI_64, iI_lt, iI_le, iI_eq, iI_ag, iI_as, iI_ar, iI_dv, iI_rem, isOut8, in9, bo_nz, bo_t, bo_f, wr_s, wr_n, wr_k, if_pos, if_neg, ↓reduceIte, Nat.reduceAdd, Nat.reduceMul, Nat.reduceSub, Nat.reduceEqDiff, Int.reduceToNat, Int.toNat_natCast, Int.reduceNeg, Int.reduceAdd, Int.reduceSub, Int.reduceMul, t3]
  · refine ⟨nq_wr (nq_wr M 85 t (iI b)) 84 1 (iI ((t + 1 : Nat) : Int)), nq_wr (nq_wr N 10 t (iI b)) 0 17 (iI ((t + 1 : Nat) : Int)), ?_, ?_, ⟨t + 1, by omega, ?_, ?_⟩, ?_, ?_, ?_, ?_, ?_, ?_, ?_, ?_, ?_, ?_⟩
    · simp (disch := omega) only [il_0, il_1, il_2, il_3, il_4, il_5, il_6, il_7, il_8, il_9, il_10, il_11, il_12, il_13, il_16, il_20, il_30, il_31, il_32, il_33, il_36, il_37, il_38, il_40, il_41, il_42, il_43, il_45, il_47, il_48, il_50, il_57, il_60, il_61, il_62, il_70, il_71, il_79, il_80, il_97, il_98, il_99, il_100, il_107, il_110, il_111, il_114, il_115, il_116, il_121, il_124, il_128, il_130, il_140, il_160, il_255, il_399, il_540, il_590, il_610, il_999, il_1000, il_1250, il_10000, il_12345, il_99999, il_1000000, il_1103515245, ll_0, ll_1, ll_2, ll_3, ll_4, ll_5, ll_6, ll_7, ll_8, ll_9, ll_30, ll_48, ll_50, ll_57, ll_99, ll_100, ll_255, ll_399, ll_999, ll_99999, nq_bs, nq_ltS, nq_b2S, b2_id, bi_id, iI_add, iI_sub, iI_mul, iI_neg, lI_neg, iI_64, iI_lt, iI_le, iI_eq, iI_ag, iI_as, iI_ar, iI_dv, iI_rem, isOut8, in9, bo_nz, bo_t, bo_f, wr_s, wr_n, wr_k, if_pos, if_neg, ↓reduceIte, Nat.reduceAdd, Nat.reduceMul, Nat.reduceSub, Nat.reduceEqDiff, Int.reduceToNat, Int.toNat_natCast, Int.reduceNeg, Int.reduceAdd, Int.reduceSub, Int.reduceMul, t2]
      rfl
    · simp (disch := omega) only [il_0, il_1, il_2, il_3, il_4, il_5, il_6, il_7, il_8, il_9, il_10, il_11, il_12, il_13, il_16, il_20, il_30, il_31, il_32, il_33, il_36, il_37, il_38, il_40, il_41, il_42, il_43, il_45, il_47, il_48, il_50, il_57, il_60, il_61, il_62, il_70, il_71, il_79, il_80, il_97, il_98, il_99, il_100, il_107, il_110, il_111, il_114, il_115, il_116, il_121, il_124, il_128, il_130, il_140, il_160, il_255, il_399, il_540, il_590, il_610, il_999, il_1000, il_1250, il_10000, il_12345, il_99999, il_1000000, il_1103515245, ll_0, ll_1, ll_2, ll_3, ll_4, ll_5, ll_6, ll_7, ll_8, ll_9, ll_30, ll_48, ll_50, ll_57, ll_99, ll_100, ll_255, ll_399, ll_999, ll_99999, nq_bs, nq_ltS, nq_b2S, b2_id, bi_id, iI_add, iI_sub, iI_mul, iI_neg, lI_neg, iI_64, iI_lt, iI_le, iI_eq, iI_ag, iI_as, iI_ar, iI_dv, iI_rem, isOut8, in9, bo_nz, bo_t, bo_f, wr_s, wr_n, wr_k, if_pos, if_neg, ↓reduceIte, Nat.reduceAdd, Nat.reduceMul, Nat.reduceSub, Nat.reduceEqDiff, Int.reduceToNat, Int.toNat_natCast, Int.reduceNeg, Int.reduceAdd, Int.reduceSub, Int.reduceMul, t3]
      rfl
    · rw [wr_s ⟨rfl, rfl⟩]
    · rw [wr_s ⟨rfl, rfl⟩]
    · intro j hj
      simp (disch := omega) only [wr_k]
      by_cases e : j = t
      · rw [wr_s ⟨rfl, e⟩, wr_s ⟨rfl, e⟩]
      · rw [wr_n (Or.inr e), wr_n (Or.inr e)]; exact v2 j hj
    · simp (disch := omega) only [wr_n]; exact v3
    · simp (disch := omega) only [wr_n]; exact v4
    · simp (disch := omega) only [wr_n]; exact v5
    · simp (disch := omega) only [wr_n]; exact v6
    · rw [own_f (N := N) (by simp (disch := omega) only [wr_k]) (by simp (disch := omega) only [wr_n])]; exact v7
    · rw [wo_f (N := N) (by simp (disch := omega) only [wr_k])]; exact v8
    · intro k h1 h2; simp (disch := omega) only [wr_k]; exact v9 k h1 h2
    · intro k h1 h2; simp (disch := omega) only [wr_k]; exact v10 k h1 h2
    · intro j h1 h2; simp (disch := omega) only [wr_n]; exact v11 j h1 h2
/-- the class's word says the same where the body is the same -/
theorem vSayE {M : Mem} {k k' act x dep : Int32} {d : Nat} (hb : fX6_bodyOf k act (fun _ _ => 0) = fX6_bodyOf k' act (fun _ _ => 0)) : (gVo_all d).1 84 k act x dep M = (gVo_all d).1 84 k' act x dep M := by
  cases d with
  | zero => rfl
  | succ d =>
    show fX6_say (gVo_all d).2 84 k act x dep M = fX6_say (gVo_all d).2 84 k' act x dep M
    unfold fX6_say
    rw [body8M (M := M), body8M (k := k') (M := M), hb]
/-- both sides of an act of a kind -/
def VT' (M0 N0 : Mem) (ow w tm : Int) (g : Nat → Int32 → Int32 → Mem → Option (Int32 × Mem)) (act : Int32) (L : Int) (E : Nat) (k : Int) : Prop := ∀ (d e : Nat) (dep : Int) (x : Int32) (M N : Mem), 2 * L ≤ d → E ≤ e → 0 ≤ dep → dep + L ≤ 31 → VR M0 N0 ow w tm M N → ∃ r M' N', (gVo_all d).1 84 (iI k) act x (iI dep) M = some (r, M') ∧ g e (iI k) x N = some (r, N') ∧ VR M0 N0 ow w tm M' N'
theorem VT'.mono {M0 N0 : Mem} {ow w tm : Int} {g : Nat → Int32 → Int32 → Mem → Option (Int32 × Mem)} {act : Int32} {L L' : Int} {E E' : Nat} {k : Int} (h : VT' M0 N0 ow w tm g act L E k) (hL : L ≤ L') (hE : E ≤ E') : VT' M0 N0 ow w tm g act L' E' k :=
  fun d e dep x M N h1 h2 h3 h4 hV => h d e dep x M N (by omega) (by omega) h3 (by omega) hV
/-- a kind without a body of its own -/
theorem VT'.up {M0 N0 : Mem} {ow w tm : Int} {g : Nat → Int32 → Int32 → Mem → Option (Int32 × Mem)} {act : Int32} {L : Int} {E : Nat} {k k' : Int} (h : VT' M0 N0 ow w tm g act L E k) (hb : fX6_bodyOf (iI k') act (fun _ _ => 0) = fX6_bodyOf (iI k) act (fun _ _ => 0)) (hg : ∀ e x N, g (e + 1) (iI k') x N = g e (iI k) x N) : VT' M0 N0 ow w tm g act L (E + 1) k' := by
  intro d e dep x M N h1 h2 h3 h4 hV
  obtain ⟨e', rfl⟩ : ∃ e', e = e' + 1 := ⟨e - 1, by omega⟩
  rw [vSayE hb, hg]
  exact h d e' dep x M N h1 (by omega) h3 h4 hV
theorem b2S' {o : Option (Int32 × Mem)} {v : Int32} {M : Mem} {f : Int32 → Mem → Option (Int32 × Mem)} (h : o = some (v, M)) : nq_b2 o f = f v M := by rw [h, nq_b2S]
theorem ab1 {N : Mem} : fX9_above 1 N = some (iI 0) := rfl
theorem ab2 {N : Mem} : fX9_above 2 N = some (iI 1) := rfl
theorem ab3 {N : Mem} : fX9_above 3 N = some (iI 0) := rfl
theorem ab4 {N : Mem} : fX9_above 4 N = some (iI 0) := rfl
theorem ab5 {N : Mem} : fX9_above 5 N = some (iI 3) := rfl
theorem ab6 {N : Mem} : fX9_above 6 N = some (iI 0) := rfl
theorem vB0 {M0 N0 : Mem} {ow w tm : Int} : VT' M0 N0 ow w tm gBi_all 0 1 1 0 := by
  intro d e dep x M N h1 h2 h3 h4 hV
  obtain ⟨d', rfl⟩ : ∃ d', d = d' + 2 := ⟨d - 2, by omega⟩
  obtain ⟨e', rfl⟩ : ∃ e', e = e' + 1 := ⟨e - 1, by omega⟩
  obtain ⟨M1, N1, e1, e2, V1⟩ := vSay8 (k := iI 0) (act := 0) (x := x) (d := d') (b := 10) (dep := dep) (by decide +kernel) (by omega) hV
  have q3 := V1.2.2.2.1
  have q18 := V1.2.2.2.2.2.1
  refine ⟨x + iI w, M1, N1, ?_, ?_, V1⟩
  · rw [e1]
    unfold fX6_follow
    rw [if_pos (by decide), nq_ltS, q3]
  · show fX9_binds (gBi_all e') (iI 0) x N = _
    unfold fX9_binds
    rw [if_pos (by decide), show (10 : Int32) = iI 10 from rfl, e2, nq_bs, nq_ltS, q18]
theorem vB1 {M0 N0 : Mem} {ow w tm : Int} : VT' M0 N0 ow w tm gBi_all 0 2 2 1 := by
  intro d e dep x M N h1 h2 h3 h4 hV
  obtain ⟨d', rfl⟩ : ∃ d', d = d' + 2 := ⟨d - 2, by omega⟩
  obtain ⟨e', rfl⟩ : ∃ e', e = e' + 1 := ⟨e - 1, by omega⟩
  obtain ⟨M1, N1, e1, e2, V1⟩ := vSay8 (k := iI 1) (act := 0) (x := x) (d := d') (b := 20) (dep := dep) (by decide +kernel) (by omega) hV
  obtain ⟨r, M2, N2, f1, f2, V2⟩ := vB0 d' e' (dep + 1) x M1 N1 (by omega) (by omega) (by omega) (by omega) V1
  refine ⟨r - 2, M2, N2, ?_, ?_, V2⟩
  · rw [e1]
    unfold fX6_follow
    rw [if_neg (by decide), if_neg (by decide), if_neg (by decide), if_neg (by decide), if_pos (by decide)]
    exact b2S' f1
  · show fX9_binds (gBi_all e') (iI 1) x N = _
    unfold fX9_binds
    rw [if_neg (by decide), if_pos (by decide), show (20 : Int32) = iI 20 from rfl, e2, nq_bs, ab1, nq_bs]
    exact b2S' f2
theorem vB2 {M0 N0 : Mem} {ow w tm : Int} : VT' M0 N0 ow w tm gBi_all 0 3 3 2 := by
  intro d e dep x M N h1 h2 h3 h4 hV
  obtain ⟨d', rfl⟩ : ∃ d', d = d' + 2 := ⟨d - 2, by omega⟩
  obtain ⟨e', rfl⟩ : ∃ e', e = e' + 1 := ⟨e - 1, by omega⟩
  obtain ⟨M1, N1, e1, e2, V1⟩ := vSay8 (k := iI 2) (act := 0) (x := x) (d := d') (b := 31) (dep := dep) (by decide +kernel) (by omega) hV
  obtain ⟨r, M2, N2, f1, f2, V2⟩ := vB1 d' e' (dep + 1) x M1 N1 (by omega) (by omega) (by omega) (by omega) V1
  refine ⟨r * 3, M2, N2, ?_, ?_, V2⟩
  · rw [e1]
    unfold fX6_follow
    rw [if_neg (by decide), if_neg (by decide), if_neg (by decide), if_neg (by decide), if_neg (by decide), if_neg (by decide), if_pos (by decide)]
    exact b2S' f1
  · show fX9_binds (gBi_all e') (iI 2) x N = _
    unfold fX9_binds
    rw [if_neg (by decide), if_neg (by decide), if_pos (by decide), show (31 : Int32) = iI 31 from rfl, e2, nq_bs, ab2, nq_bs]
    exact b2S' f2
theorem vB6 {M0 N0 : Mem} {ow w tm : Int} : VT' M0 N0 ow w tm gBi_all 0 2 2 6 := by
  intro d e dep x M N h1 h2 h3 h4 hV
  obtain ⟨d', rfl⟩ : ∃ d', d = d' + 2 := ⟨d - 2, by omega⟩
  obtain ⟨e', rfl⟩ : ∃ e', e = e' + 1 := ⟨e - 1, by omega⟩
  obtain ⟨M1, N1, e1, e2, V1⟩ := vSay8 (k := iI 6) (act := 0) (x := x) (d := d') (b := 70) (dep := dep) (by decide +kernel) (by omega) hV
  obtain ⟨r, M2, N2, f1, f2, V2⟩ := vB0 d' e' (dep + 1) x M1 N1 (by omega) (by omega) (by omega) (by omega) V1
  have q4 := V2.2.2.2.2.1
  have q18 := V2.2.2.2.2.2.1
  have qt := V2.2.2.2.2.2.2.2.1
  refine ⟨r + iI tm, M2, N2, ?_, ?_, V2⟩
  · rw [e1]
    unfold fX6_follow
    iterate 11 rw [if_neg (by decide)]
    rw [if_pos (by decide)]
    refine (b2S' f1).trans ?_
    rw [nq_ltS, q4]
  · show fX9_binds (gBi_all e') (iI 6) x N = _
    unfold fX9_binds
    rw [if_neg (by decide), if_neg (by decide), if_neg (by decide), if_pos (by decide), show (70 : Int32) = iI 70 from rfl, e2, nq_bs, ab6, nq_bs]
    refine (b2S' f2).trans ?_
    rw [nq_ltS, q18, show (6 : Int32) = iI 6 from rfl, qt, nq_bs]
theorem vB {M0 N0 : Mem} {ow w tm k : Int} (hk : 0 ≤ k ∧ k ≤ 6) : VT' M0 N0 ow w tm gBi_all 0 3 4 k := by
  have h3 : VT' M0 N0 ow w tm gBi_all 0 1 2 3 := vB0.up (by decide +kernel) (fun e x N => b2_id)
  have hc : k = 0 ∨ k = 1 ∨ k = 2 ∨ k = 3 ∨ k = 4 ∨ k = 5 ∨ k = 6 := by omega
  rcases hc with rfl | rfl | rfl | rfl | rfl | rfl | rfl
  · exact vB0.mono (by omega) (by omega)
  · exact vB1.mono (by omega) (by omega)
  · exact vB2.mono (by omega) (by omega)
  · exact h3.mono (by omega) (by omega)
  · exact (vB0.up (k' := 4) (by decide +kernel) (fun e x N => b2_id)).mono (by omega) (by omega)
  · exact (h3.up (k' := 5) (by decide +kernel) (fun e x N => b2_id)).mono (by omega) (by omega)
  · exact vB6.mono (by omega) (by omega)
theorem vF0 {M0 N0 : Mem} {ow w tm : Int} : VT' M0 N0 ow w tm gFr_all 2 1 1 0 := by
  intro d e dep x M N h1 h2 h3 h4 hV
  obtain ⟨d', rfl⟩ : ∃ d', d = d' + 2 := ⟨d - 2, by omega⟩
  obtain ⟨e', rfl⟩ : ∃ e', e = e' + 1 := ⟨e - 1, by omega⟩
  obtain ⟨M1, N1, e1, e2, V1⟩ := vSay8 (k := iI 0) (act := 2) (x := x) (d := d') (b := 12) (dep := dep) (by decide +kernel) (by omega) hV
  have q4 := V1.2.2.2.2.1
  have q18 := V1.2.2.2.2.2.1
  have qt := V1.2.2.2.2.2.2.2.1
  refine ⟨x - iI tm, M1, N1, ?_, ?_, V1⟩
  · rw [e1]
    unfold fX6_follow
    rw [if_neg (by decide), if_neg (by decide), if_pos (by decide), nq_ltS, q4]
  · show fX9_from (gFr_all e') (iI 0) x N = _
    unfold fX9_from
    rw [if_pos (by decide), show (12 : Int32) = iI 12 from rfl, e2, nq_bs, nq_ltS, q18, show (6 : Int32) = iI 6 from rfl, qt, nq_bs]
theorem vF3 {M0 N0 : Mem} {ow w tm : Int} : VT' M0 N0 ow w tm gFr_all 2 2 2 3 := by
  intro d e dep x M N h1 h2 h3 h4 hV
  obtain ⟨d', rfl⟩ : ∃ d', d = d' + 2 := ⟨d - 2, by omega⟩
  obtain ⟨e', rfl⟩ : ∃ e', e = e' + 1 := ⟨e - 1, by omega⟩
  obtain ⟨M1, N1, e1, e2, V1⟩ := vSay8 (k := iI 3) (act := 2) (x := x) (d := d') (b := 40) (dep := dep) (by decide +kernel) (by omega) hV
  obtain ⟨r, M2, N2, f1, f2, V2⟩ := vF0 d' e' (dep + 1) x M1 N1 (by omega) (by omega) (by omega) (by omega) V1
  refine ⟨-r, M2, N2, ?_, ?_, V2⟩
  · rw [e1]
    unfold fX6_follow
    iterate 7 rw [if_neg (by decide)]
    rw [if_pos (by decide)]
    exact b2S' f1
  · show fX9_from (gFr_all e') (iI 3) x N = _
    unfold fX9_from
    rw [if_neg (by decide), if_pos (by decide), show (40 : Int32) = iI 40 from rfl, e2, nq_bs, ab3, nq_bs]
    exact b2S' f2
theorem vF5 {M0 N0 : Mem} {ow w tm : Int} : VT' M0 N0 ow w tm gFr_all 2 3 3 5 := by
  intro d e dep x M N h1 h2 h3 h4 hV
  obtain ⟨d', rfl⟩ : ∃ d', d = d' + 2 := ⟨d - 2, by omega⟩
  obtain ⟨e', rfl⟩ : ∃ e', e = e' + 1 := ⟨e - 1, by omega⟩
  obtain ⟨M1, N1, e1, e2, V1⟩ := vSay8 (k := iI 5) (act := 2) (x := x) (d := d') (b := 60) (dep := dep) (by decide +kernel) (by omega) hV
  obtain ⟨r, M2, N2, f1, f2, V2⟩ := vF3 d' e' (dep + 1) (x + 1) M1 N1 (by omega) (by omega) (by omega) (by omega) V1
  refine ⟨r, M2, N2, ?_, ?_, V2⟩
  · rw [e1]
    unfold fX6_follow
    iterate 9 rw [if_neg (by decide)]
    rw [if_pos (by decide)]
    exact b2S' f1
  · show fX9_from (gFr_all e') (iI 5) x N = _
    unfold fX9_from
    rw [if_neg (by decide), if_neg (by decide), if_pos (by decide), show (60 : Int32) = iI 60 from rfl, e2, nq_bs, ab5, nq_bs]
    exact b2S' f2
theorem vFr {M0 N0 : Mem} {ow w tm k : Int} (hk : 0 ≤ k ∧ k ≤ 6) : VT' M0 N0 ow w tm gFr_all 2 3 4 k := by
  have h1 : VT' M0 N0 ow w tm gFr_all 2 1 2 1 := vF0.up (by decide +kernel) (fun e x N => b2_id)
  have hc : k = 0 ∨ k = 1 ∨ k = 2 ∨ k = 3 ∨ k = 4 ∨ k = 5 ∨ k = 6 := by omega
  rcases hc with rfl | rfl | rfl | rfl | rfl | rfl | rfl
  · exact vF0.mono (by omega) (by omega)
  · exact h1.mono (by omega) (by omega)
  · exact (h1.up (k' := 2) (by decide +kernel) (fun e x N => b2_id)).mono (by omega) (by omega)
  · exact vF3.mono (by omega) (by omega)
  · exact (vF0.up (k' := 4) (by decide +kernel) (fun e x N => b2_id)).mono (by omega) (by omega)
  · exact vF5.mono (by omega) (by omega)
  · exact (vF0.up (k' := 6) (by decide +kernel) (fun e x N => b2_id)).mono (by omega) (by omega)
theorem vW0 {M0 N0 : Mem} {ow w tm : Int} (ho : 0 ≤ ow ∧ ow ≤ 6) : VT' M0 N0 ow w tm gWh_all 1 4 1 0 := by
  intro d e dep x M N h1 h2 h3 h4 hV
  obtain ⟨d', rfl⟩ : ∃ d', d = d' + 2 := ⟨d - 2, by omega⟩
  obtain ⟨e', rfl⟩ : ∃ e', e = e' + 1 := ⟨e - 1, by omega⟩
  obtain ⟨M1, N1, e1, e2, V1⟩ := vSay8 (k := iI 0) (act := 1) (x := x) (d := d') (b := 11) (dep := dep) (by decide +kernel) (by omega) hV
  obtain ⟨r, M2, N2, f1, f2, V2⟩ := vB ho d' 12 (dep + 1) x M1 N1 (by omega) (by omega) (by omega) (by omega) V1
  have q2 := V1.2.2.1
  have qo := V1.2.2.2.2.2.2.1
  refine ⟨r * 2, M2, N2, ?_, ?_, V2⟩
  · rw [e1]
    unfold fX6_follow
    rw [if_neg (by decide), if_pos (by decide), nq_ltS, q2]
    exact b2S' f1
  · show fX9_whom (gWh_all e') (iI 0) x N = _
    unfold fX9_whom
    rw [if_pos (by decide), show (11 : Int32) = iI 11 from rfl, e2, nq_bs, qo, nq_bs]
    exact b2S' f2
theorem vW2 {M0 N0 : Mem} {ow w tm : Int} (ho : 0 ≤ ow ∧ ow ≤ 6) : VT' M0 N0 ow w tm gWh_all 1 5 3 2 := by
  have h1' : VT' M0 N0 ow w tm gWh_all 1 4 2 1 := (vW0 ho).up (by decide +kernel) (fun e x N => b2_id)
  intro d e dep x M N h1 h2 h3 h4 hV
  obtain ⟨d', rfl⟩ : ∃ d', d = d' + 2 := ⟨d - 2, by omega⟩
  obtain ⟨e', rfl⟩ : ∃ e', e = e' + 1 := ⟨e - 1, by omega⟩
  obtain ⟨M1, N1, e1, e2, V1⟩ := vSay8 (k := iI 2) (act := 1) (x := x) (d := d') (b := 30) (dep := dep) (by decide +kernel) (by omega) hV
  obtain ⟨r, M2, N2, f1, f2, V2⟩ := h1' d' e' (dep + 1) x M1 N1 (by omega) (by omega) (by omega) (by omega) V1
  have q2 := V2.2.2.1
  have qo := V2.2.2.2.2.2.2.1
  obtain ⟨r3, M3, N3, f3, f4, V3⟩ := vFr ho d' 12 (dep + 1) 1 M2 N2 (by omega) (by omega) (by omega) (by omega) V2
  refine ⟨r + r3, M3, N3, ?_, ?_, V3⟩
  · rw [e1]
    unfold fX6_follow
    iterate 5 rw [if_neg (by decide)]
    rw [if_pos (by decide)]
    refine (b2S' f1).trans ?_
    rw [nq_ltS, q2]
    exact b2S' f3
  · show fX9_whom (gWh_all e') (iI 2) x N = _
    unfold fX9_whom
    rw [if_neg (by decide), if_pos (by decide), show (30 : Int32) = iI 30 from rfl, e2, nq_bs, ab2, nq_bs]
    refine (b2S' f2).trans ?_
    rw [qo, nq_bs]
    exact b2S' f4
theorem vW5 {M0 N0 : Mem} {ow w tm : Int} (ho : 0 ≤ ow ∧ ow ≤ 6) : VT' M0 N0 ow w tm gWh_all 1 5 3 5 := by
  have h1' : VT' M0 N0 ow w tm gWh_all 1 4 2 3 := (vW0 ho).up (by decide +kernel) (fun e x N => b2_id)
  intro d e dep x M N h1 h2 h3 h4 hV
  obtain ⟨d', rfl⟩ : ∃ d', d = d' + 2 := ⟨d - 2, by omega⟩
  obtain ⟨e', rfl⟩ : ∃ e', e = e' + 1 := ⟨e - 1, by omega⟩
  obtain ⟨M1, N1, e1, e2, V1⟩ := vSay8 (k := iI 5) (act := 1) (x := x) (d := d') (b := 61) (dep := dep) (by decide +kernel) (by omega) hV
  obtain ⟨r, M2, N2, f1, f2, V2⟩ := h1' d' e' (dep + 1) x M1 N1 (by omega) (by omega) (by omega) (by omega) V1
  have q3 := V2.2.2.2.1
  have q18 := V2.2.2.2.2.2.1
  refine ⟨r ^^^ iI w, M2, N2, ?_, ?_, V2⟩
  · rw [e1]
    unfold fX6_follow
    iterate 10 rw [if_neg (by decide)]
    rw [if_pos (by decide)]
    refine (b2S' f1).trans ?_
    rw [nq_ltS, q3]
  · show fX9_whom (gWh_all e') (iI 5) x N = _
    unfold fX9_whom
    rw [if_neg (by decide), if_neg (by decide), if_pos (by decide), show (61 : Int32) = iI 61 from rfl, e2, nq_bs, ab5, nq_bs]
    refine (b2S' f2).trans ?_
    rw [nq_ltS, q18]
theorem vW {M0 N0 : Mem} {ow w tm k : Int} (ho : 0 ≤ ow ∧ ow ≤ 6) (hk : 0 ≤ k ∧ k ≤ 6) : VT' M0 N0 ow w tm gWh_all 1 5 4 k := by
  have hc : k = 0 ∨ k = 1 ∨ k = 2 ∨ k = 3 ∨ k = 4 ∨ k = 5 ∨ k = 6 := by omega
  rcases hc with rfl | rfl | rfl | rfl | rfl | rfl | rfl
  · exact (vW0 ho).mono (by omega) (by omega)
  · exact ((vW0 ho).up (k' := 1) (by decide +kernel) (fun e x N => b2_id)).mono (by omega) (by omega)
  · exact (vW2 ho).mono (by omega) (by omega)
  · exact ((vW0 ho).up (k' := 3) (by decide +kernel) (fun e x N => b2_id)).mono (by omega) (by omega)
  · exact ((vW0 ho).up (k' := 4) (by decide +kernel) (fun e x N => b2_id)).mono (by omega) (by omega)
  · exact (vW5 ho).mono (by omega) (by omega)
  · exact ((vW0 ho).up (k' := 6) (by decide +kernel) (fun e x N => b2_id)).mono (by omega) (by omega)
theorem vT0 {M0 N0 : Mem} {ow w tm : Int} (ho : 0 ≤ ow ∧ ow ≤ 6) : VT' M0 N0 ow w tm gTe_all 3 6 1 0 := by
  intro d e dep x M N h1 h2 h3 h4 hV
  obtain ⟨d', rfl⟩ : ∃ d', d = d' + 2 := ⟨d - 2, by omega⟩
  obtain ⟨e', rfl⟩ : ∃ e', e = e' + 1 := ⟨e - 1, by omega⟩
  obtain ⟨M1, N1, e1, e2, V1⟩ := vSay8 (k := iI 0) (act := 3) (x := x) (d := d') (b := 13) (dep := dep) (by decide +kernel) (by omega) hV
  obtain ⟨r, M2, N2, f1, f2, V2⟩ := vW ho ho d' 12 (dep + 1) x M1 N1 (by omega) (by omega) (by omega) (by omega) V1
  obtain ⟨r3, M3, N3, f3, f4, V3⟩ := vFr ho d' 12 (dep + 1) x M2 N2 (by omega) (by omega) (by omega) (by omega) V2
  have q2 := V1.2.2.1
  have qo := V1.2.2.2.2.2.2.1
  have p2 := V2.2.2.1
  have po := V2.2.2.2.2.2.2.1
  refine ⟨r ^^^ r3, M3, N3, ?_, ?_, V3⟩
  · rw [e1]
    unfold fX6_follow
    iterate 3 rw [if_neg (by decide)]
    rw [if_pos (by decide), nq_ltS, q2]
    refine (b2S' f1).trans ?_
    rw [nq_ltS, p2]
    exact b2S' f3
  · show fX9_tells (gTe_all e') (iI 0) x N = _
    unfold fX9_tells
    rw [if_pos (by decide), show (13 : Int32) = iI 13 from rfl, e2, nq_bs, qo, nq_bs]
    refine (b2S' f2).trans ?_
    rw [po, nq_bs]
    exact b2S' f4
theorem vT4 {M0 N0 : Mem} {ow w tm : Int} (ho : 0 ≤ ow ∧ ow ≤ 6) : VT' M0 N0 ow w tm gTe_all 3 7 2 4 := by
  intro d e dep x M N h1 h2 h3 h4 hV
  obtain ⟨d', rfl⟩ : ∃ d', d = d' + 2 := ⟨d - 2, by omega⟩
  obtain ⟨e', rfl⟩ : ∃ e', e = e' + 1 := ⟨e - 1, by omega⟩
  obtain ⟨M1, N1, e1, e2, V1⟩ := vSay8 (k := iI 4) (act := 3) (x := x) (d := d') (b := 50) (dep := dep) (by decide +kernel) (by omega) hV
  obtain ⟨r, M2, N2, f1, f2, V2⟩ := vB ho d' 12 (dep + 1) 2 M1 N1 (by omega) (by omega) (by omega) (by omega) V1
  obtain ⟨r3, M3, N3, f3, f4, V3⟩ := vT0 ho d' e' (dep + 1) x M2 N2 (by omega) (by omega) (by omega) (by omega) V2
  have q2 := V1.2.2.1
  have qo := V1.2.2.2.2.2.2.1
  refine ⟨r - r3, M3, N3, ?_, ?_, V3⟩
  · rw [e1]
    unfold fX6_follow
    iterate 8 rw [if_neg (by decide)]
    rw [if_pos (by decide), nq_ltS, q2]
    refine (b2S' f1).trans ?_
    exact b2S' f3
  · show fX9_tells (gTe_all e') (iI 4) x N = _
    unfold fX9_tells
    rw [if_neg (by decide), if_pos (by decide), show (50 : Int32) = iI 50 from rfl, e2, nq_bs, qo, nq_bs]
    refine (b2S' f2).trans ?_
    rw [ab4, nq_bs]
    exact b2S' f4
theorem vT6 {M0 N0 : Mem} {ow w tm : Int} (ho : 0 ≤ ow ∧ ow ≤ 6) : VT' M0 N0 ow w tm gTe_all 3 7 2 6 := by
  intro d e dep x M N h1 h2 h3 h4 hV
  obtain ⟨d', rfl⟩ : ∃ d', d = d' + 2 := ⟨d - 2, by omega⟩
  obtain ⟨e', rfl⟩ : ∃ e', e = e' + 1 := ⟨e - 1, by omega⟩
  obtain ⟨M1, N1, e1, e2, V1⟩ := vSay8 (k := iI 6) (act := 3) (x := x) (d := d') (b := 71) (dep := dep) (by decide +kernel) (by omega) hV
  obtain ⟨r3, M3, N3, f3, f4, V3⟩ := vT0 ho d' e' (dep + 1) x M1 N1 (by omega) (by omega) (by omega) (by omega) V1
  refine ⟨r3 * 5, M3, N3, ?_, ?_, V3⟩
  · rw [e1]
    unfold fX6_follow
    iterate 12 rw [if_neg (by decide)]
    rw [if_pos (by decide)]
    exact b2S' f3
  · show fX9_tells (gTe_all e') (iI 6) x N = _
    unfold fX9_tells
    rw [if_neg (by decide), if_neg (by decide), if_pos (by decide), show (71 : Int32) = iI 71 from rfl, e2, nq_bs, ab6, nq_bs]
    exact b2S' f4
theorem vT {M0 N0 : Mem} {ow w tm k : Int} (ho : 0 ≤ ow ∧ ow ≤ 6) (hk : 0 ≤ k ∧ k ≤ 6) : VT' M0 N0 ow w tm gTe_all 3 7 4 k := by
  have h1 : VT' M0 N0 ow w tm gTe_all 3 6 2 1 := (vT0 ho).up (by decide +kernel) (fun e x N => b2_id)
  have h3 : VT' M0 N0 ow w tm gTe_all 3 6 2 3 := (vT0 ho).up (by decide +kernel) (fun e x N => b2_id)
  have hc : k = 0 ∨ k = 1 ∨ k = 2 ∨ k = 3 ∨ k = 4 ∨ k = 5 ∨ k = 6 := by omega
  rcases hc with rfl | rfl | rfl | rfl | rfl | rfl | rfl
  · exact (vT0 ho).mono (by omega) (by omega)
  · exact h1.mono (by omega) (by omega)
  · exact (h1.up (k' := 2) (by decide +kernel) (fun e x N => b2_id)).mono (by omega) (by omega)
  · exact h3.mono (by omega) (by omega)
  · exact (vT4 ho).mono (by omega) (by omega)
  · exact (h3.up (k' := 5) (by decide +kernel) (fun e x N => b2_id)).mono (by omega) (by omega)
  · exact (vT6 ho).mono (by omega) (by omega)
theorem hop_voice (a0 a1 a2 : Int32) (Mx Mm : Mem) (h : RR Mx Mm) : ∃ (r : Int32) (Mx1 Mm1 : Mem), fX8_voice a0 a1 a2 Mx = some (r, Mx1) ∧ fX9_voice a0 a1 a2 Mm = some (r, Mm1) ∧ RR Mx1 Mm1 := by
  obtain ⟨D, hc⟩ := h.1
  have hc' := hc
  obtain ⟨h0, hS, hR, hL, hA, hT⟩ := hc'
  have p0 : Mx 3 0 = iI (D 1) := hR.1
  have p1 := hR.2.1
  have p0m : Mm 1 1 = iI (D 1) := h0 1 (by omega)
  have w0m : Mm 1 2 = iI (D 2) := h0 2 (by omega)
  have w0 : Mx 6 0 = iI (D 2) := hL.1
  have w1 := hL.2.1
  obtain ⟨⟨s0, s5, s6, s7, s4, s9, s3, s10⟩, s0', s4', s5', s6', s7', s8', s9', s3', s10'⟩ := hS
  have hS := hc.2.1
  obtain ⟨x, hx, rfl⟩ := iI_of a0
  obtain ⟨y, hy, rfl⟩ := iI_of a1
  by_cases gx : 0 ≤ x ∧ x < D 2
  · by_cases gy : 0 ≤ y ∧ y ≤ 3
    · obtain ⟨w, rfl⟩ := Int.eq_ofNat_of_zero_le gx.1
      have k0 : Mx 7 w = iI (D (610 + 8 * w)) := hL.2.2.1 w (by omega) 0 (by omega)
      have k6 : Mx 13 w = iI (D (616 + 8 * w)) := by
        have := hL.2.2.1 w (by omega) 6 (by omega)
        rw [show 610 + 8 * w + 6 = 616 + 8 * w by omega] at this
        exact this
      have hw := hL.2.2.2.2.2 w (by omega)
      have ho := hw.1
      obtain ⟨o1, o2, o3, o4⟩ := h.2.2.2
      have hV : VR Mx Mm (D (610 + 8 * w)) w (D (616 + 8 * w)) (nq_wr (nq_wr (nq_wr (nq_wr Mx 84 2 (iI (D (610 + 8 * w)))) 84 3 (iI w)) 84 4 (iI (D (616 + 8 * w)))) 84 1 (iI 0)) (nq_wr (nq_wr Mm 0 17 (iI 0)) 0 18 (iI w)) := by
        refine ⟨⟨0, by omega, ?_, ?_⟩, ?_, ?_, ?_, ?_, ?_, ?_, ?_, ?_, ?_, ?_⟩
        · simp (disch := omega) only [wr_s]; rfl
        · simp (disch := omega) only [wr_n, wr_s]; rfl
        · intro j hj; simp (disch := omega) only [wr_k]; exact o3 j hj
        · simp (disch := omega) only [wr_n, wr_s]
        · simp (disch := omega) only [wr_n, wr_s]
        · simp (disch := omega) only [wr_n, wr_s]
        · simp (disch := omega) only [wr_s]
        · unfold fX9_own fX9_wo
          have t : (610 + 8 * (w : Int) + 0).toNat = 610 + 8 * w := by omega
          have q := h0 (610 + 8 * w) (by omega)
          simp (disch := omega) only [il_0, il_1, il_2, il_3, il_4, il_5, il_6, il_7, il_8, il_9, il_10, il_11, il_12, il_13, il_16, il_20, il_30, il_31, il_32, il_33, il_36, il_37, il_38, il_40, il_41, il_42, il_43, il_45, il_47, il_48, il_50, il_57, il_60, il_61, il_62, il_70, il_71, il_79, il_80, il_97, il_98, il_99, il_100, il_107, il_110, il_111, il_114, il_115, il_116, il_121, il_124, il_128, il_130, il_140, il_160, il_255, il_399, il_540, il_590, il_610, il_999, il_1000, il_1250, il_10000, il_12345, il_99999, il_1000000, il_1103515245, ll_0, ll_1, ll_2, ll_3, ll_4, ll_5, ll_6, ll_7, ll_8, ll_9, ll_30, ll_48, ll_50, ll_57, ll_99, ll_100, ll_255, ll_399, ll_999, ll_99999, nq_bs, nq_ltS, nq_b2S, b2_id, bi_id, iI_add, iI_sub, iI_mul, iI_neg, lI_neg, iI_64, iI_lt, iI_le, iI_eq, iI_ag, iI_as, iI_ar, iI_dv, iI_rem, isOut8, in9, bo_nz, bo_t, bo_f, wr_s, wr_n, wr_k, if_pos, if_neg, ↓reduceIte, Nat.reduceAdd, Nat.reduceMul, Nat.reduceSub, Nat.reduceEqDiff, Int.reduceToNat, Int.toNat_natCast, Int.reduceNeg, Int.reduceAdd, Int.reduceSub, Int.reduceMul, t, q]
        · unfold fX9_wo
          have t : (610 + 8 * (w : Int) + 6).toNat = 616 + 8 * w := by omega
          have q := h0 (616 + 8 * w) (by omega)
          simp (disch := omega) only [il_0, il_1, il_2, il_3, il_4, il_5, il_6, il_7, il_8, il_9, il_10, il_11, il_12, il_13, il_16, il_20, il_30, il_31, il_32, il_33, il_36, il_37, il_38, il_40, il_41, il_42, il_43, il_45, il_47, il_48, il_50, il_57, il_60, il_61, il_62, il_70, il_71, il_79, il_80, il_97, il_98, il_99, il_100, il_107, il_110, il_111, il_114, il_115, il_116, il_121, il_124, il_128, il_130, il_140, il_160, il_255, il_399, il_540, il_590, il_610, il_999, il_1000, il_1250, il_10000, il_12345, il_99999, il_1000000, il_1103515245, ll_0, ll_1, ll_2, ll_3, ll_4, ll_5, ll_6, ll_7, ll_8, ll_9, ll_30, ll_48, ll_50, ll_57, ll_99, ll_100, ll_255, ll_399, ll_999, ll_99999, nq_bs, nq_ltS, nq_b2S, b2_id, bi_id, iI_add, iI_sub, iI_mul, iI_neg, lI_neg, iI_64, iI_lt, iI_le, iI_eq, iI_ag, iI_as, iI_ar, iI_dv, iI_rem, isOut8, in9, bo_nz, bo_t, bo_f, wr_s, wr_n, wr_k, if_pos, if_neg, ↓reduceIte, Nat.reduceAdd, Nat.reduceMul, Nat.reduceSub, Nat.reduceEqDiff, Int.reduceToNat, Int.toNat_natCast, Int.reduceNeg, Int.reduceAdd, Int.reduceSub, Int.reduceMul, t, q]
        · intro k h1 h2; simp (disch := omega) only [wr_k]
        · intro k h1 h2; simp (disch := omega) only [wr_k]
        · intro j h1 h2; simp (disch := omega) only [wr_n]
      have e8 : fX8_voice (iI w) (iI y) a2 Mx = (gVo_all 80).1 84 (iI (D (610 + 8 * w))) (iI y) a2 (iI 0) (nq_wr (nq_wr (nq_wr (nq_wr Mx 84 2 (iI (D (610 + 8 * w)))) 84 3 (iI w)) 84 4 (iI (D (616 + 8 * w)))) 84 1 (iI 0)) := by
        unfold fX8_voice fX6_begin
        simp (disch := omega) only [il_0, il_1, il_2, il_3, il_4, il_5, il_6, il_7, il_8, il_9, il_10, il_11, il_12, il_13, il_16, il_20, il_30, il_31, il_32, il_33, il_36, il_37, il_38, il_40, il_41, il_42, il_43, il_45, il_47, il_48, il_50, il_57, il_60, il_61, il_62, il_70, il_71, il_79, il_80, il_97, il_98, il_99, il_100, il_107, il_110, il_111, il_114, il_115, il_116, il_121, il_124, il_128, il_130, il_140, il_160, il_255, il_399, il_540, il_590, il_610, il_999, il_1000, il_1250, il_10000, il_12345, il_99999, il_1000000, il_1103515245, ll_0, ll_1, ll_2, ll_3, ll_4, ll_5, ll_6, ll_7, ll_8, ll_9, ll_30, ll_48, ll_50, ll_57, ll_99, ll_100, ll_255, ll_399, ll_999, ll_99999, nq_bs, nq_ltS, nq_b2S, b2_id, bi_id, iI_add, iI_sub, iI_mul, iI_neg, lI_neg, iI_64, iI_lt, iI_le, iI_eq, iI_ag, iI_as, iI_ar, iI_dv, iI_rem, isOut8, in9, bo_nz, bo_t, bo_f, wr_s, wr_n, wr_k, if_pos, if_neg, ↓reduceIte, Nat.reduceAdd, Nat.reduceMul, Nat.reduceSub, Nat.reduceEqDiff, Int.reduceToNat, Int.toNat_natCast, Int.reduceNeg, Int.reduceAdd, Int.reduceSub, Int.reduceMul, isPlace8 p0 p1, isPlace9 p0m p1, areTwo8 p0 p1, areTwo9 p0m p1, isPair8 p0 p1, areFt9 p0m p1, isPact8, isPact9, isWord8 w0 w1, isWord9 w0m w1, isSheet8, isSheet9, isPart8, isPart9, k0, k6]
        rfl
      have fin : ∀ (r : Int32) (M' N' : Mem), fX8_voice (iI w) (iI y) a2 Mx = some (r, M') → fX9_voice (iI w) (iI y) a2 Mm = some (r, N') → VR Mx Mm (D (610 + 8 * w)) w (D (616 + 8 * w)) M' N' → ∃ (r : Int32) (Mx1 Mm1 : Mem), fX8_voice (iI w) (iI y) a2 Mx = some (r, Mx1) ∧ fX9_voice (iI w) (iI y) a2 Mm = some (r, Mm1) ∧ RR Mx1 Mm1 := by
        intro r M' N' q1 q2 ⟨v1, v2, v3, v4, v5, v6, v7, v8, v9, v10, v11⟩
        refine ⟨r, M', N', q1, q2, h.out (fun k hk => v9 k (by omega) (by omega)) ⟨v10 1 (by omega) (by omega), v10 2 (by omega) (by omega), v11 2 (by omega) (by omega)⟩ ⟨?_, v1, v2, ?_⟩⟩
        · intro j hj; rw [v9 1 (by omega) (by omega), v10 3 (by omega) (by omega)]; exact o1 j hj
        · intro i hi
          rw [v9 _ (by omega) (by omega), v9 _ (by omega) (by omega), v10 11 (by omega) (by omega), v10 12 (by omega) (by omega), v10 13 (by omega) (by omega)]
          exact o4 i hi
      have own1 := hV.2.2.2.2.2.2.1
      have hc : y = 0 ∨ y = 1 ∨ y = 2 ∨ y = 3 := by omega
      rcases hc with rfl | rfl | rfl | rfl
      · obtain ⟨r, M', N', f1, f2, V'⟩ := vB ho 80 12 0 a2 _ _ (by omega) (by omega) (by omega) (by omega) hV
        refine fin r M' N' (e8.trans f1) ?_ V'
        have f2' : fX9_bindsC (iI (D (610 + 8 * w))) a2 (nq_wr (nq_wr Mm 0 17 (iI 0)) 0 18 (iI w)) = some (r, N') := f2
        unfold fX9_voice
        simp (disch := omega) only [il_0, il_1, il_2, il_3, il_4, il_5, il_6, il_7, il_8, il_9, il_10, il_11, il_12, il_13, il_16, il_20, il_30, il_31, il_32, il_33, il_36, il_37, il_38, il_40, il_41, il_42, il_43, il_45, il_47, il_48, il_50, il_57, il_60, il_61, il_62, il_70, il_71, il_79, il_80, il_97, il_98, il_99, il_100, il_107, il_110, il_111, il_114, il_115, il_116, il_121, il_124, il_128, il_130, il_140, il_160, il_255, il_399, il_540, il_590, il_610, il_999, il_1000, il_1250, il_10000, il_12345, il_99999, il_1000000, il_1103515245, ll_0, ll_1, ll_2, ll_3, ll_4, ll_5, ll_6, ll_7, ll_8, ll_9, ll_30, ll_48, ll_50, ll_57, ll_99, ll_100, ll_255, ll_399, ll_999, ll_99999, nq_bs, nq_ltS, nq_b2S, b2_id, bi_id, iI_add, iI_sub, iI_mul, iI_neg, lI_neg, iI_64, iI_lt, iI_le, iI_eq, iI_ag, iI_as, iI_ar, iI_dv, iI_rem, isOut8, in9, bo_nz, bo_t, bo_f, wr_s, wr_n, wr_k, if_pos, if_neg, ↓reduceIte, Nat.reduceAdd, Nat.reduceMul, Nat.reduceSub, Nat.reduceEqDiff, Int.reduceToNat, Int.toNat_natCast, Int.reduceNeg, Int.reduceAdd, Int.reduceSub, Int.reduceMul, isPlace8 p0 p1, isPlace9 p0m p1, areTwo8 p0 p1, areTwo9 p0m p1, isPair8 p0 p1, areFt9 p0m p1, isPact8, isPact9, isWord8 w0 w1, isWord9 w0m w1, isSheet8, isSheet9, isPart8, isPart9, own1, f2']
      · obtain ⟨r, M', N', f1, f2, V'⟩ := vW ho ho 80 12 0 a2 _ _ (by omega) (by omega) (by omega) (by omega) hV
        refine fin r M' N' (e8.trans f1) ?_ V'
        have f2' : fX9_whomC (iI (D (610 + 8 * w))) a2 (nq_wr (nq_wr Mm 0 17 (iI 0)) 0 18 (iI w)) = some (r, N') := f2
        unfold fX9_voice
        simp (disch := omega) only [il_0, il_1, il_2, il_3, il_4, il_5, il_6, il_7, il_8, il_9, il_10, il_11, il_12, il_13, il_16, il_20, il_30, il_31, il_32, il_33, il_36, il_37, il_38, il_40, il_41, il_42, il_43, il_45, il_47, il_48, il_50, il_57, il_60, il_61, il_62, il_70, il_71, il_79, il_80, il_97, il_98, il_99, il_100, il_107, il_110, il_111, il_114, il_115, il_116, il_121, il_124, il_128, il_130, il_140, il_160, il_255, il_399, il_540, il_590, il_610, il_999, il_1000, il_1250, il_10000, il_12345, il_99999, il_1000000, il_1103515245, ll_0, ll_1, ll_2, ll_3, ll_4, ll_5, ll_6, ll_7, ll_8, ll_9, ll_30, ll_48, ll_50, ll_57, ll_99, ll_100, ll_255, ll_399, ll_999, ll_99999, nq_bs, nq_ltS, nq_b2S, b2_id, bi_id, iI_add, iI_sub, iI_mul, iI_neg, lI_neg, iI_64, iI_lt, iI_le, iI_eq, iI_ag, iI_as, iI_ar, iI_dv, iI_rem, isOut8, in9, bo_nz, bo_t, bo_f, wr_s, wr_n, wr_k, if_pos, if_neg, ↓reduceIte, Nat.reduceAdd, Nat.reduceMul, Nat.reduceSub, Nat.reduceEqDiff, Int.reduceToNat, Int.toNat_natCast, Int.reduceNeg, Int.reduceAdd, Int.reduceSub, Int.reduceMul, isPlace8 p0 p1, isPlace9 p0m p1, areTwo8 p0 p1, areTwo9 p0m p1, isPair8 p0 p1, areFt9 p0m p1, isPact8, isPact9, isWord8 w0 w1, isWord9 w0m w1, isSheet8, isSheet9, isPart8, isPart9, own1, f2']
      · obtain ⟨r, M', N', f1, f2, V'⟩ := vFr ho 80 12 0 a2 _ _ (by omega) (by omega) (by omega) (by omega) hV
        refine fin r M' N' (e8.trans f1) ?_ V'
        have f2' : fX9_fromC (iI (D (610 + 8 * w))) a2 (nq_wr (nq_wr Mm 0 17 (iI 0)) 0 18 (iI w)) = some (r, N') := f2
        unfold fX9_voice
        simp (disch := omega) only [il_0, il_1, il_2, il_3, il_4, il_5, il_6, il_7, il_8, il_9, il_10, il_11, il_12, il_13, il_16, il_20, il_30, il_31, il_32, il_33, il_36, il_37, il_38, il_40, il_41, il_42, il_43, il_45, il_47, il_48, il_50, il_57, il_60, il_61, il_62, il_70, il_71, il_79, il_80, il_97, il_98, il_99, il_100, il_107, il_110, il_111, il_114, il_115, il_116, il_121, il_124, il_128, il_130, il_140, il_160, il_255, il_399, il_540, il_590, il_610, il_999, il_1000, il_1250, il_10000, il_12345, il_99999, il_1000000, il_1103515245, ll_0, ll_1, ll_2, ll_3, ll_4, ll_5, ll_6, ll_7, ll_8, ll_9, ll_30, ll_48, ll_50, ll_57, ll_99, ll_100, ll_255, ll_399, ll_999, ll_99999, nq_bs, nq_ltS, nq_b2S, b2_id, bi_id, iI_add, iI_sub, iI_mul, iI_neg, lI_neg, iI_64, iI_lt, iI_le, iI_eq, iI_ag, iI_as, iI_ar, iI_dv, iI_rem, isOut8, in9, bo_nz, bo_t, bo_f, wr_s, wr_n, wr_k, if_pos, if_neg, ↓reduceIte, Nat.reduceAdd, Nat.reduceMul, Nat.reduceSub, Nat.reduceEqDiff, Int.reduceToNat, Int.toNat_natCast, Int.reduceNeg, Int.reduceAdd, Int.reduceSub, Int.reduceMul, isPlace8 p0 p1, isPlace9 p0m p1, areTwo8 p0 p1, areTwo9 p0m p1, isPair8 p0 p1, areFt9 p0m p1, isPact8, isPact9, isWord8 w0 w1, isWord9 w0m w1, isSheet8, isSheet9, isPart8, isPart9, own1, f2']
      · obtain ⟨r, M', N', f1, f2, V'⟩ := vT ho ho 80 12 0 a2 _ _ (by omega) (by omega) (by omega) (by omega) hV
        refine fin r M' N' (e8.trans f1) ?_ V'
        have f2' : fX9_tellsC (iI (D (610 + 8 * w))) a2 (nq_wr (nq_wr Mm 0 17 (iI 0)) 0 18 (iI w)) = some (r, N') := f2
        unfold fX9_voice
        simp (disch := omega) only [il_0, il_1, il_2, il_3, il_4, il_5, il_6, il_7, il_8, il_9, il_10, il_11, il_12, il_13, il_16, il_20, il_30, il_31, il_32, il_33, il_36, il_37, il_38, il_40, il_41, il_42, il_43, il_45, il_47, il_48, il_50, il_57, il_60, il_61, il_62, il_70, il_71, il_79, il_80, il_97, il_98, il_99, il_100, il_107, il_110, il_111, il_114, il_115, il_116, il_121, il_124, il_128, il_130, il_140, il_160, il_255, il_399, il_540, il_590, il_610, il_999, il_1000, il_1250, il_10000, il_12345, il_99999, il_1000000, il_1103515245, ll_0, ll_1, ll_2, ll_3, ll_4, ll_5, ll_6, ll_7, ll_8, ll_9, ll_30, ll_48, ll_50, ll_57, ll_99, ll_100, ll_255, ll_399, ll_999, ll_99999, nq_bs, nq_ltS, nq_b2S, b2_id, bi_id, iI_add, iI_sub, iI_mul, iI_neg, lI_neg, iI_64, iI_lt, iI_le, iI_eq, iI_ag, iI_as, iI_ar, iI_dv, iI_rem, isOut8, in9, bo_nz, bo_t, bo_f, wr_s, wr_n, wr_k, if_pos, if_neg, ↓reduceIte, Nat.reduceAdd, Nat.reduceMul, Nat.reduceSub, Nat.reduceEqDiff, Int.reduceToNat, Int.toNat_natCast, Int.reduceNeg, Int.reduceAdd, Int.reduceSub, Int.reduceMul, isPlace8 p0 p1, isPlace9 p0m p1, areTwo8 p0 p1, areTwo9 p0m p1, isPair8 p0 p1, areFt9 p0m p1, isPact8, isPact9, isWord8 w0 w1, isWord9 w0m w1, isSheet8, isSheet9, isPart8, isPart9, own1, f2']
    · exact h.ref 1 (by omega) (by omega) (by unfold fX8_voice; simp (disch := omega) only [il_0, il_1, il_2, il_3, il_4, il_5, il_6, il_7, il_8, il_9, il_10, il_11, il_12, il_13, il_16, il_20, il_30, il_31, il_32, il_33, il_36, il_37, il_38, il_40, il_41, il_42, il_43, il_45, il_47, il_48, il_50, il_57, il_60, il_61, il_62, il_70, il_71, il_79, il_80, il_97, il_98, il_99, il_100, il_107, il_110, il_111, il_114, il_115, il_116, il_121, il_124, il_128, il_130, il_140, il_160, il_255, il_399, il_540, il_590, il_610, il_999, il_1000, il_1250, il_10000, il_12345, il_99999, il_1000000, il_1103515245, ll_0, ll_1, ll_2, ll_3, ll_4, ll_5, ll_6, ll_7, ll_8, ll_9, ll_30, ll_48, ll_50, ll_57, ll_99, ll_100, ll_255, ll_399, ll_999, ll_99999, nq_bs, nq_ltS, nq_b2S, b2_id, bi_id, iI_add, iI_sub, iI_mul, iI_neg, lI_neg, iI_64, iI_lt, iI_le, iI_eq, iI_ag, iI_as, iI_ar, iI_dv, iI_rem, isOut8, in9, bo_nz, bo_t, bo_f, wr_s, wr_n, wr_k, if_pos, if_neg, ↓reduceIte, Nat.reduceAdd, Nat.reduceMul, Nat.reduceSub, Nat.reduceEqDiff, Int.reduceToNat, Int.toNat_natCast, Int.reduceNeg, Int.reduceAdd, Int.reduceSub, Int.reduceMul, isPlace8 p0 p1, isPlace9 p0m p1, areTwo8 p0 p1, areTwo9 p0m p1, isPair8 p0 p1, areFt9 p0m p1, isPact8, isPact9, isWord8 w0 w1, isWord9 w0m w1, isSheet8, isSheet9, isPart8, isPart9, h0]) (by unfold fX9_voice; simp (disch := omega) only [il_0, il_1, il_2, il_3, il_4, il_5, il_6, il_7, il_8, il_9, il_10, il_11, il_12, il_13, il_16, il_20, il_30, il_31, il_32, il_33, il_36, il_37, il_38, il_40, il_41, il_42, il_43, il_45, il_47, il_48, il_50, il_57, il_60, il_61, il_62, il_70, il_71, il_79, il_80, il_97, il_98, il_99, il_100, il_107, il_110, il_111, il_114, il_115, il_116, il_121, il_124, il_128, il_130, il_140, il_160, il_255, il_399, il_540, il_590, il_610, il_999, il_1000, il_1250, il_10000, il_12345, il_99999, il_1000000, il_1103515245, ll_0, ll_1, ll_2, ll_3, ll_4, ll_5, ll_6, ll_7, ll_8, ll_9, ll_30, ll_48, ll_50, ll_57, ll_99, ll_100, ll_255, ll_399, ll_999, ll_99999, nq_bs, nq_ltS, nq_b2S, b2_id, bi_id, iI_add, iI_sub, iI_mul, iI_neg, lI_neg, iI_64, iI_lt, iI_le, iI_eq, iI_ag, iI_as, iI_ar, iI_dv, iI_rem, isOut8, in9, bo_nz, bo_t, bo_f, wr_s, wr_n, wr_k, if_pos, if_neg, ↓reduceIte, Nat.reduceAdd, Nat.reduceMul, Nat.reduceSub, Nat.reduceEqDiff, Int.reduceToNat, Int.toNat_natCast, Int.reduceNeg, Int.reduceAdd, Int.reduceSub, Int.reduceMul, isPlace8 p0 p1, isPlace9 p0m p1, areTwo8 p0 p1, areTwo9 p0m p1, isPair8 p0 p1, areFt9 p0m p1, isPact8, isPact9, isWord8 w0 w1, isWord9 w0m w1, isSheet8, isSheet9, isPart8, isPart9, h0])
  · exact h.ref 1 (by omega) (by omega) (by unfold fX8_voice; simp (disch := omega) only [il_0, il_1, il_2, il_3, il_4, il_5, il_6, il_7, il_8, il_9, il_10, il_11, il_12, il_13, il_16, il_20, il_30, il_31, il_32, il_33, il_36, il_37, il_38, il_40, il_41, il_42, il_43, il_45, il_47, il_48, il_50, il_57, il_60, il_61, il_62, il_70, il_71, il_79, il_80, il_97, il_98, il_99, il_100, il_107, il_110, il_111, il_114, il_115, il_116, il_121, il_124, il_128, il_130, il_140, il_160, il_255, il_399, il_540, il_590, il_610, il_999, il_1000, il_1250, il_10000, il_12345, il_99999, il_1000000, il_1103515245, ll_0, ll_1, ll_2, ll_3, ll_4, ll_5, ll_6, ll_7, ll_8, ll_9, ll_30, ll_48, ll_50, ll_57, ll_99, ll_100, ll_255, ll_399, ll_999, ll_99999, nq_bs, nq_ltS, nq_b2S, b2_id, bi_id, iI_add, iI_sub, iI_mul, iI_neg, lI_neg, iI_64, iI_lt, iI_le, iI_eq, iI_ag, iI_as, iI_ar, iI_dv, iI_rem, isOut8, in9, bo_nz, bo_t, bo_f, wr_s, wr_n, wr_k, if_pos, if_neg, ↓reduceIte, Nat.reduceAdd, Nat.reduceMul, Nat.reduceSub, Nat.reduceEqDiff, Int.reduceToNat, Int.toNat_natCast, Int.reduceNeg, Int.reduceAdd, Int.reduceSub, Int.reduceMul, isPlace8 p0 p1, isPlace9 p0m p1, areTwo8 p0 p1, areTwo9 p0m p1, isPair8 p0 p1, areFt9 p0m p1, isPact8, isPact9, isWord8 w0 w1, isWord9 w0m w1, isSheet8, isSheet9, isPart8, isPart9, h0]) (by unfold fX9_voice; simp (disch := omega) only [il_0, il_1, il_2, il_3, il_4, il_5, il_6, il_7, il_8, il_9, il_10, il_11, il_12, il_13, il_16, il_20, il_30, il_31, il_32, il_33, il_36, il_37, il_38, il_40, il_41, il_42, il_43, il_45, il_47, il_48, il_50, il_57, il_60, il_61, il_62, il_70, il_71, il_79, il_80, il_97, il_98, il_99, il_100, il_107, il_110, il_111, il_114, il_115, il_116, il_121, il_124, il_128, il_130, il_140, il_160, il_255, il_399, il_540, il_590, il_610, il_999, il_1000, il_1250, il_10000, il_12345, il_99999, il_1000000, il_1103515245, ll_0, ll_1, ll_2, ll_3, ll_4, ll_5, ll_6, ll_7, ll_8, ll_9, ll_30, ll_48, ll_50, ll_57, ll_99, ll_100, ll_255, ll_399, ll_999, ll_99999, nq_bs, nq_ltS, nq_b2S, b2_id, bi_id, iI_add, iI_sub, iI_mul, iI_neg, lI_neg, iI_64, iI_lt, iI_le, iI_eq, iI_ag, iI_as, iI_ar, iI_dv, iI_rem, isOut8, in9, bo_nz, bo_t, bo_f, wr_s, wr_n, wr_k, if_pos, if_neg, ↓reduceIte, Nat.reduceAdd, Nat.reduceMul, Nat.reduceSub, Nat.reduceEqDiff, Int.reduceToNat, Int.toNat_natCast, Int.reduceNeg, Int.reduceAdd, Int.reduceSub, Int.reduceMul, isPlace8 p0 p1, isPlace9 p0m p1, areTwo8 p0 p1, areTwo9 p0m p1, isPair8 p0 p1, areFt9 p0m p1, isPact8, isPact9, isWord8 w0 w1, isWord9 w0m w1, isSheet8, isSheet9, isPart8, isPart9, h0])
