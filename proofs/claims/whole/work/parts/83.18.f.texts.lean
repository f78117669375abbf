/-! 18.f: texts are read, and worked out -/
theorem pLoop_nm {h : Nat → Int} {lv : Nat} {g : Nat → PR} {nm nm' : Nat → Int32} (hg : ∀ a, (g a).2.2.2 nm = (g a).2.2.2 nm') : ∀ k a cs v, v nm = v nm' → (pLoop h lv g k a cs v).2.2.2 nm = (pLoop h lv g k a cs v).2.2.2 nm' := by
  intro k
  induction k with
  | zero => intro a cs v hv; exact hv
  | succ k ih =>
    intro a cs v hv
    simp only [pLoop]
    split
    · split
      · apply ih
        show jn (h a) (v nm) ((g (a + 1)).2.2.2 nm) = jn (h a) (v nm') ((g (a + 1)).2.2.2 nm')
        rw [hv, hg]
      · rfl
    · exact hv
theorem pr_nm {h : Nat → Int} {o : Bool} {nm nm' : Nat → Int32} (e : ∀ i, i < 5 → nm i = nm' i) : ∀ f lv op a, (pr h o f lv op a).2.2.2 nm = (pr h o f lv op a).2.2.2 nm' := by
  intro f
  induction f with
  | zero => intro lv op a; rfl
  | succ f ih =>
    intro lv op a
    simp only [pr]
    split
    · split
      · exact pLoop_nm (fun a => ih (lv + 1) op a) _ _ _ _ (ih (lv + 1) op a)
      · rfl
    · split
      · rfl
      · split
        · rename_i c
          have := nm_in c
          exact e _ (by omega)
        · split
          · split
            · dsimp only; rw [ih]
            · rfl
          · split
            · split
              · split
                · exact ih 0 (op + 1) (a + 1)
                · rfl
              · rfl
            · rfl
def CRg (cs : List Int32) : Prop := ∀ c, c ∈ cs → ∃ z : Int, -255 ≤ z ∧ z ≤ 10004 ∧ c = iI z
theorem CRg.app {c1 c2 : List Int32} (h1 : CRg c1) (h2 : CRg c2) : CRg (c1 ++ c2) := by
  intro c hc
  rcases List.mem_append.mp hc with h | h
  · exact h1 c h
  · exact h2 c h
theorem CRg.one {z : Int} (h1 : -255 ≤ z) (h2 : z ≤ 10004) : CRg [iI z] := by
  intro c hc
  rw [List.mem_singleton] at hc
  exact ⟨z, h1, h2, hc⟩
theorem CRg.nil : CRg [] := fun c hc => by cases hc
theorem pLoop_cr {h : Nat → Int} {lv : Nat} {g : Nat → PR} (hg : ∀ a, CRg (g a).2.2.1) : ∀ k a cs v, CRg cs → CRg (pLoop h lv g k a cs v).2.2.1 := by
  intro k
  induction k with
  | zero => intro a cs v hv; exact hv
  | succ k ih =>
    intro a cs v hv
    simp only [pLoop]
    split
    · rename_i c
      have := sgn_in c
      split
      · exact ih _ _ _ ((hv.app (hg _)).app (CRg.one (by omega) (by omega)))
      · exact CRg.nil
    · exact hv
theorem pr_cr {h : Nat → Int} {o : Bool} : ∀ f lv op a, CRg (pr h o f lv op a).2.2.1 := by
  intro f
  induction f with
  | zero => intro lv op a; exact CRg.nil
  | succ f ih =>
    intro lv op a
    simp only [pr]
    split
    · split
      · exact pLoop_cr (fun a => ih (lv + 1) op a) _ _ _ _ (ih (lv + 1) op a)
      · exact CRg.nil
    · split
      · have := pN_v (h := h) (a := a)
        exact CRg.one (by omega) (by omega)
      · split
        · rename_i c
          have := nm_in c
          exact CRg.one (by omega) (by omega)
        · split
          · split
            · exact (ih _ _ _).app (CRg.one (by omega) (by omega))
            · exact CRg.nil
          · split
            · split
              · split
                · exact ih _ _ _
                · exact CRg.nil
              · exact CRg.nil
            · exact CRg.nil
/-- what a text gives by names -/
def tV (D : Nat → Int) (u : Nat) : (Nat → Int32) → Int32 := if D (130 + u) = 0 then fun _ => 0 else (pr (hB (fun i => D (140 + 50 * u + i)) (D (130 + u)).toNat) (decide (u < 6)) 41 0 0 0).2.2.2
theorem tV_nm {D : Nat → Int} {u : Nat} {nm nm' : Nat → Int32} (e : ∀ i, i < 5 → nm i = nm' i) : tV D u nm = tV D u nm' := by
  unfold tV
  split
  · rfl
  · exact pr_nm e _ _ _ _
theorem reckonT {M : Mem} {D : Nat → Int} {u p : Nat} (hp : p + 1 < 82) (h : TxR u (M p 1) (M (p + 1)) (D (130 + u)) (fun i => D (140 + 50 * u + i))) : ∃ M', fX5_reckon p 82 83 M = some (tV D u (M 82), M') ∧ ∀ k, k ≠ 83 → M' k = M k := by
  unfold tV
  rcases h with ⟨h1, h2⟩ | ⟨h1, h2, h3, h4, h5, h6⟩
  · rw [if_pos h1]
    exact reckon8 (cs := []) (v := fun _ => 0) hp (by rw [h2]; rfl) (by simp) (fun i hi => absurd hi (by simp)) (fun i hi => absurd hi (by simp)) (Or.inl ⟨rfl, fun _ => rfl⟩)
  · rw [if_neg (by omega)]
    have hk := (pr_ok (h := hB (fun i => D (140 + 50 * u + i)) (D (130 + u)).toNat) (o := decide (u < 6)) hB_z 41 0 0 0 (Nat.zero_le _)).1 h3
    have hev := pr_ev (h := hB (fun i => D (140 + 50 * u + i)) (D (130 + u)).toNat) (o := decide (u < 6)) 41 0 0 0 h3
    have hcr := pr_cr (h := hB (fun i => D (140 + 50 * u + i)) (D (130 + u)).toNat) (o := decide (u < 6)) 41 0 0 0
    generalize pr (hB (fun i => D (140 + 50 * u + i)) (D (130 + u)).toNat) (decide (u < 6)) 41 0 0 0 = r at *
    refine reckon8 (cs := r.2.2.1) (v := r.2.2.2) hp (by rw [h5, iI_nat]) (by omega) h6 ?_ (Or.inr hev)
    intro i hi
    rw [List.getD_eq_getElem?_getD, List.getElem?_eq_getElem hi, Option.getD_some]
    exact hcr _ (List.getElem_mem hi)
theorem worked9 {B : Nat → Int} {n base u : Nat} {M : Mem} (hu : u < 8) (hn : n ≤ 50) (hb : base ≤ 1000) (hB1 : ∀ i, i < n → M 1 (base + i) = iI (B i) ∧ 0 ≤ B i ∧ B i ≤ 255) :
    ∃ v M', fX9_worked (iI base) (iI n) (iI u) M = some (v, M') ∧ (∀ k, k ≠ 0 → M' k = M k) ∧ (∀ j, (j < 9 ∨ 14 < j) → M' 0 j = M 0 j) ∧
      ((pr (hB B n) (decide (u < 6)) 41 0 0 0).1 = true ∧ (pr (hB B n) (decide (u < 6)) 41 0 0 0).2.1 = n → v = (pr (hB B n) (decide (u < 6)) 41 0 0 0).2.2.2 (M 9) ∧ M' 0 12 = iI (-1)) ∧
      (¬ ((pr (hB B n) (decide (u < 6)) 41 0 0 0).1 = true ∧ (pr (hB B n) (decide (u < 6)) 41 0 0 0).2.1 = n) → M' 0 12 = iI (pr (hB B n) (decide (u < 6)) 41 0 0 0).2.1) := by
  have e0 : ∃ M8, fX9_worked (iI base) (iI n) (iI u) M = (nq_b2 (fX9_eitherC M8) fun v10 M11 => nq_lt (M11 0 12) fun v12 => if 0 ≤ v12 then (some (v10, M11)) else (nq_lt (M11 0 10) fun v14 => nq_lt (M11 0 11) fun v15 => if v15 ≤ v14 then (some (v10, M11)) else (nq_b2 (fX9_wrong M11) fun v18 M19 => some (v18, M19)))) ∧ ES B n (decide (u < 6)) base M8 0 0 ∧ (∀ k, k ≠ 0 → M8 k = M k) ∧ (∀ j, (j < 9 ∨ 14 < j) → M8 0 j = M 0 j) := by
    refine ⟨nq_wr (nq_wr (nq_wr (nq_wr (nq_wr (nq_wr M 0 9 (iI base)) 0 10 (iI 0)) 0 11 (iI n)) 0 12 (iI (-1))) 0 13 (iI 0)) 0 14 (iI (if decide (u < 6) = true then 1 else 0)), ?_, ⟨?_, ?_, ?_, ?_, ?_, ?_, ?_, hn, hb⟩, ?_, ?_⟩
    · unfold fX9_worked fX9_worked_L37
      by_cases c : u < 6
      · have l6 : ¬ (6 : Int32) ≤ iI u := by rw [il_6, iI_le (by omega) (by omega)]; omega
        simp only [nq_ltS, if_neg l6, or_true, decide_true, gdT]
        rw [if_pos (decide_eq_true c)]
        rfl
      · have l6 : (6 : Int32) ≤ iI u := by rw [il_6, iI_le (by omega) (by omega)]; omega
        simp only [nq_ltS, if_pos l6, true_or, decide_true, gdT]
        rw [if_neg (by rw [decide_eq_true_eq]; exact c)]
        rfl
    · simp (disch := omega) only [wr_n, wr_s]
    · simp (disch := omega) only [wr_n, wr_s]; rfl
    · simp (disch := omega) only [wr_n, wr_s]
    · simp (disch := omega) only [wr_n, wr_s]
    · simp (disch := omega) only [wr_n, wr_s]; rfl
    · simp (disch := omega) only [wr_s]
    · intro i hi; simp (disch := omega) only [wr_k]; exact hB1 i hi
    · intro k hk; simp (disch := omega) only [wr_k]
    · intro j hj; simp (disch := omega) only [wr_n]
  obtain ⟨M8, e1, hS, k1, k2⟩ := e0
  rw [e1]
  obtain ⟨v, M1, e2, F1, o1, o2⟩ := simEAll 41 0 0 100 (by omega) (by omega) (by omega) (by omega) M8 0 hS (Nat.zero_le _)
  have hok := pr_ok (h := hB B n) (o := decide (u < 6)) hB_z 41 0 0 0 (Nat.zero_le _)
  have e2' : fX9_eitherC M8 = some (v, M1) := e2
  rw [e2', nq_b2S]
  generalize pr (hB B n) (decide (u < 6)) 41 0 0 0 = r at *
  cases hr : r.1 with
  | true =>
    obtain ⟨y1, y2⟩ := o1 hr
    obtain ⟨b1, b2, b3⟩ := hok.1 hr
    have z12 := y2.2.2.2.1
    have z10 := y2.2.1
    have z11 := y2.2.2.1
    have hw := wrong9 y2
    by_cases c : r.2.1 = n
    · refine ⟨v, M1, ?_, fun k hk => (F1.1 k hk).trans (k1 k hk), fun j hj => (F1.2 j (by omega) (by omega) (by omega)).trans (k2 j hj), fun _ => ⟨by rw [y1, k1 9 (by omega)], z12⟩, fun q => absurd ⟨rfl, c⟩ q⟩
      rw [c] at z10
      simp (disch := omega) only [il_0, il_1, il_2, il_3, il_4, il_5, il_6, il_7, il_8, il_9, il_10, il_11, il_12, il_13, il_16, il_20, il_30, il_31, il_32, il_33, il_36, il_37, il_38, il_40, il_41, il_42, il_43, il_45, il_47, il_48, il_50, il_57, il_60, il_61, il_62, il_70, il_71, il_79, il_80, il_97, il_98, il_99, il_100, il_107, il_110, il_111, il_114, il_115, il_116, il_121, il_124, il_128, il_130, il_140, il_160, il_255, il_399, il_540, il_590, il_610, il_999, il_1000, il_1250, il_10000, il_12345, il_99999, il_1000000, il_1103515245, ll_0, ll_1, ll_2, ll_3, ll_4, ll_5, ll_6, ll_7, ll_8, ll_9, ll_30, ll_48, ll_50, ll_57, ll_99, ll_100, ll_255, ll_399, ll_999, ll_99999, nq_bs, nq_ltS, nq_b2S, b2_id, bi_id, iI_add, iI_sub, iI_mul, iI_neg, lI_neg, iI_64, iI_lt, iI_le, iI_eq, iI_ag, iI_as, iI_ar, iI_dv, iI_rem, isOut8, in9, bo_nz, bo_t, bo_f, wr_s, wr_n, wr_k, if_pos, if_neg, ↓reduceIte, Nat.reduceAdd, Nat.reduceMul, Nat.reduceSub, Nat.reduceEqDiff, Int.reduceToNat, Int.toNat_natCast, Int.reduceNeg, Int.reduceAdd, Int.reduceSub, Int.reduceMul, z10, z11, z12]
    · have F2 : FE M8 (nq_wr M1 0 12 (iI r.2.1)) := F1.wr (Or.inr (Or.inl rfl))
      refine ⟨iI 0, nq_wr M1 0 12 (iI r.2.1), ?_, fun k hk => (F2.1 k hk).trans (k1 k hk), fun j hj => (F2.2 j (by omega) (by omega) (by omega)).trans (k2 j hj), fun q => absurd q.2 c, fun _ => wr_s ⟨rfl, rfl⟩⟩
      simp (disch := omega) only [il_0, il_1, il_2, il_3, il_4, il_5, il_6, il_7, il_8, il_9, il_10, il_11, il_12, il_13, il_16, il_20, il_30, il_31, il_32, il_33, il_36, il_37, il_38, il_40, il_41, il_42, il_43, il_45, il_47, il_48, il_50, il_57, il_60, il_61, il_62, il_70, il_71, il_79, il_80, il_97, il_98, il_99, il_100, il_107, il_110, il_111, il_114, il_115, il_116, il_121, il_124, il_128, il_130, il_140, il_160, il_255, il_399, il_540, il_590, il_610, il_999, il_1000, il_1250, il_10000, il_12345, il_99999, il_1000000, il_1103515245, ll_0, ll_1, ll_2, ll_3, ll_4, ll_5, ll_6, ll_7, ll_8, ll_9, ll_30, ll_48, ll_50, ll_57, ll_99, ll_100, ll_255, ll_399, ll_999, ll_99999, nq_bs, nq_ltS, nq_b2S, b2_id, bi_id, iI_add, iI_sub, iI_mul, iI_neg, lI_neg, iI_64, iI_lt, iI_le, iI_eq, iI_ag, iI_as, iI_ar, iI_dv, iI_rem, isOut8, in9, bo_nz, bo_t, bo_f, wr_s, wr_n, wr_k, if_pos, if_neg, ↓reduceIte, Nat.reduceAdd, Nat.reduceMul, Nat.reduceSub, Nat.reduceEqDiff, Int.reduceToNat, Int.toNat_natCast, Int.reduceNeg, Int.reduceAdd, Int.reduceSub, Int.reduceMul, z10, z11, z12, hw]
  | false =>
    have b1 := hok.2 hr
    have q12 := o2 hr
    refine ⟨v, M1, ?_, fun k hk => (F1.1 k hk).trans (k1 k hk), fun j hj => (F1.2 j (by omega) (by omega) (by omega)).trans (k2 j hj), fun q => (by cases q.1), fun _ => q12⟩
    simp (disch := omega) only [il_0, il_1, il_2, il_3, il_4, il_5, il_6, il_7, il_8, il_9, il_10, il_11, il_12, il_13, il_16, il_20, il_30, il_31, il_32, il_33, il_36, il_37, il_38, il_40, il_41, il_42, il_43, il_45, il_47, il_48, il_50, il_57, il_60, il_61, il_62, il_70, il_71, il_79, il_80, il_97, il_98, il_99, il_100, il_107, il_110, il_111, il_114, il_115, il_116, il_121, il_124, il_128, il_130, il_140, il_160, il_255, il_399, il_540, il_590, il_610, il_999, il_1000, il_1250, il_10000, il_12345, il_99999, il_1000000, il_1103515245, ll_0, ll_1, ll_2, ll_3, ll_4, ll_5, ll_6, ll_7, ll_8, ll_9, ll_30, ll_48, ll_50, ll_57, ll_99, ll_100, ll_255, ll_399, ll_999, ll_99999, nq_bs, nq_ltS, nq_b2S, b2_id, bi_id, iI_add, iI_sub, iI_mul, iI_neg, lI_neg, iI_64, iI_lt, iI_le, iI_eq, iI_ag, iI_as, iI_ar, iI_dv, iI_rem, isOut8, in9, bo_nz, bo_t, bo_f, wr_s, wr_n, wr_k, if_pos, if_neg, ↓reduceIte, Nat.reduceAdd, Nat.reduceMul, Nat.reduceSub, Nat.reduceEqDiff, Int.reduceToNat, Int.toNat_natCast, Int.reduceNeg, Int.reduceAdd, Int.reduceSub, Int.reduceMul, q12]
theorem givesT {M : Mem} {D : Nat → Int} {u : Nat} {len : Int32} {codes : Nat → Int32} (hu : u < 8) (h0 : ∀ j, j < 1250 → M 1 j = iI (D j)) (h : TxR u len codes (D (130 + u)) (fun i => D (140 + 50 * u + i))) : ∃ M', fX9_gives (iI u) M = some (tV D u (M 9), M') ∧ (∀ k, k ≠ 0 → M' k = M k) ∧ ∀ j, (j < 9 ∨ 14 < j) → M' 0 j = M 0 j := by
  unfold tV
  have q := h0 (130 + u) (by omega)
  have t : (130 + (u : Int)).toNat = 130 + u := by omega
  rcases h with ⟨h1, h2⟩ | ⟨h1, h2, h3, h4, h5, h6⟩
  · rw [if_pos h1]
    refine ⟨M, ?_, fun _ _ => rfl, fun _ _ => rfl⟩
    rw [h1] at q
    unfold fX9_gives
    simp (disch := omega) only [il_0, il_1, il_2, il_3, il_4, il_5, il_6, il_7, il_8, il_9, il_10, il_11, il_12, il_13, il_16, il_20, il_30, il_31, il_32, il_33, il_36, il_37, il_38, il_40, il_41, il_42, il_43, il_45, il_47, il_48, il_50, il_57, il_60, il_61, il_62, il_70, il_71, il_79, il_80, il_97, il_98, il_99, il_100, il_107, il_110, il_111, il_114, il_115, il_116, il_121, il_124, il_128, il_130, il_140, il_160, il_255, il_399, il_540, il_590, il_610, il_999, il_1000, il_1250, il_10000, il_12345, il_99999, il_1000000, il_1103515245, ll_0, ll_1, ll_2, ll_3, ll_4, ll_5, ll_6, ll_7, ll_8, ll_9, ll_30, ll_48, ll_50, ll_57, ll_99, ll_100, ll_255, ll_399, ll_999, ll_99999, nq_bs, nq_ltS, nq_b2S, b2_id, bi_id, iI_add, iI_sub, iI_mul, iI_neg, lI_neg, iI_64, iI_lt, iI_le, iI_eq, iI_ag, iI_as, iI_ar, iI_dv, iI_rem, isOut8, in9, bo_nz, bo_t, bo_f, wr_s, wr_n, wr_k, if_pos, if_neg, ↓reduceIte, Nat.reduceAdd, Nat.reduceMul, Nat.reduceSub, Nat.reduceEqDiff, Int.reduceToNat, Int.toNat_natCast, Int.reduceNeg, Int.reduceAdd, Int.reduceSub, Int.reduceMul, t, q]
  · rw [if_neg (by omega)]
    obtain ⟨n, hn⟩ : ∃ n : Nat, D (130 + u) = n := ⟨(D (130 + u)).toNat, by omega⟩
    rw [hn] at h1 h2 h3 h4 h5 h6 q ⊢
    rw [Int.toNat_natCast] at h2 h3 h4 h5 h6 ⊢
    obtain ⟨v, M', e1, k1, k2, o1, o2⟩ := worked9 (M := M) (base := 140 + 50 * u) (u := u) (B := fun i => D (140 + 50 * u + i)) (n := n) hu (by omega) (by omega) (fun i hi => ⟨h0 _ (by omega), h2 i hi⟩)
    obtain ⟨y1, y2⟩ := o1 ⟨h3, h4⟩
    refine ⟨M', ?_, k1, k2⟩
    have t2 : (140 : Int) + 50 * (u : Int) = ((140 + 50 * u : Nat) : Int) := by omega
    unfold fX9_gives
    simp (disch := omega) only [il_0, il_1, il_2, il_3, il_4, il_5, il_6, il_7, il_8, il_9, il_10, il_11, il_12, il_13, il_16, il_20, il_30, il_31, il_32, il_33, il_36, il_37, il_38, il_40, il_41, il_42, il_43, il_45, il_47, il_48, il_50, il_57, il_60, il_61, il_62, il_70, il_71, il_79, il_80, il_97, il_98, il_99, il_100, il_107, il_110, il_111, il_114, il_115, il_116, il_121, il_124, il_128, il_130, il_140, il_160, il_255, il_399, il_540, il_590, il_610, il_999, il_1000, il_1250, il_10000, il_12345, il_99999, il_1000000, il_1103515245, ll_0, ll_1, ll_2, ll_3, ll_4, ll_5, ll_6, ll_7, ll_8, ll_9, ll_30, ll_48, ll_50, ll_57, ll_99, ll_100, ll_255, ll_399, ll_999, ll_99999, nq_bs, nq_ltS, nq_b2S, b2_id, bi_id, iI_add, iI_sub, iI_mul, iI_neg, lI_neg, iI_64, iI_lt, iI_le, iI_eq, iI_ag, iI_as, iI_ar, iI_dv, iI_rem, isOut8, in9, bo_nz, bo_t, bo_f, wr_s, wr_n, wr_k, if_pos, if_neg, ↓reduceIte, Nat.reduceAdd, Nat.reduceMul, Nat.reduceSub, Nat.reduceEqDiff, Int.reduceToNat, Int.toNat_natCast, Int.reduceNeg, Int.reduceAdd, Int.reduceSub, Int.reduceMul, t, q, t2, e1, y1]
theorem isUse9 {x : Int} {M : Mem} (hx : inR x) : fX9_isUse (iI x) M = some (bo (0 ≤ x ∧ x ≤ 7)) := by
  unfold fX9_isUse
  simp (disch := omega) only [il_0, il_1, il_2, il_3, il_4, il_5, il_6, il_7, il_8, il_9, il_10, il_11, il_12, il_13, il_16, il_20, il_30, il_31, il_32, il_33, il_36, il_37, il_38, il_40, il_41, il_42, il_43, il_45, il_47, il_48, il_50, il_57, il_60, il_61, il_62, il_70, il_71, il_79, il_80, il_97, il_98, il_99, il_100, il_107, il_110, il_111, il_114, il_115, il_116, il_121, il_124, il_128, il_130, il_140, il_160, il_255, il_399, il_540, il_590, il_610, il_999, il_1000, il_1250, il_10000, il_12345, il_99999, il_1000000, il_1103515245, ll_0, ll_1, ll_2, ll_3, ll_4, ll_5, ll_6, ll_7, ll_8, ll_9, ll_30, ll_48, ll_50, ll_57, ll_99, ll_100, ll_255, ll_399, ll_999, ll_99999, nq_bs, nq_ltS, nq_b2S, b2_id, bi_id, iI_add, iI_sub, iI_mul, iI_neg, lI_neg, iI_64, iI_lt, iI_le, iI_eq, iI_ag, iI_as, iI_ar, iI_dv, iI_rem, isOut8, in9, bo_nz, bo_t, bo_f, wr_s, wr_n, wr_k, if_pos, if_neg, ↓reduceIte, Nat.reduceAdd, Nat.reduceMul, Nat.reduceSub, Nat.reduceEqDiff, Int.reduceToNat, Int.toNat_natCast, Int.reduceNeg, Int.reduceAdd, Int.reduceSub, Int.reduceMul]
theorem hop_law (a0 a1 a2 : Int32) (Mx Mm : Mem) (h : RR Mx Mm) : ∃ (r : Int32) (Mx1 Mm1 : Mem), fX8_law a0 a1 a2 Mx = some (r, Mx1) ∧ fX9_law a0 a1 a2 Mm = some (r, Mm1) ∧ RR Mx1 Mm1 := by
  obtain ⟨D, hc⟩ := h.1
  have hc' := hc
  obtain ⟨h0, hS, hR, hL, hA, hT⟩ := hc'
  have p0 : Mx 3 0 = iI (D 1) := hR.1
  have p1 := hR.2.1
  have p0m : Mm 1 1 = iI (D 1) := h0 1 (by omega)
  have w0m : Mm 1 2 = iI (D 2) := h0 2 (by omega)
  have w0 : Mx 6 0 = iI (D 2) := hL.1
  have w1 := hL.2.1
  obtain ⟨⟨s0, s5, s6, s7, s4, s9, s3, s10⟩, s0', s4', s5', s6', s7', s8', s9', s3', s10'⟩ := hS
  have hS := hc.2.1
  obtain ⟨x, hx, rfl⟩ := iI_of a0
  by_cases g : 0 ≤ x ∧ x ≤ 7
  · obtain ⟨u, rfl⟩ := Int.eq_ofNat_of_zero_le g.1
    have e5 : ∃ M5, fX8_nameAll a1 a2 (iI 0) (iI 0) (iI 0) Mx = some M5 ∧ (∀ k, k ≠ 82 → M5 k = Mx k) ∧ M5 82 0 = a1 ∧ M5 82 1 = a2 ∧ M5 82 2 = iI 0 ∧ M5 82 3 = iI 0 ∧ M5 82 4 = iI 0 := by
      refine ⟨nq_wr (nq_wr (nq_wr (nq_wr (nq_wr Mx 82 0 a1) 82 1 a2) 82 2 (iI 0)) 82 3 (iI 0)) 82 4 (iI 0), ?_, ?_, ?_, ?_, ?_, ?_, ?_⟩
      · unfold fX8_nameAll
        simp (disch := omega) only [il_0, il_1, il_2, il_3, il_4, il_5, il_6, il_7, il_8, il_9, il_10, il_11, il_12, il_13, il_16, il_20, il_30, il_31, il_32, il_33, il_36, il_37, il_38, il_40, il_41, il_42, il_43, il_45, il_47, il_48, il_50, il_57, il_60, il_61, il_62, il_70, il_71, il_79, il_80, il_97, il_98, il_99, il_100, il_107, il_110, il_111, il_114, il_115, il_116, il_121, il_124, il_128, il_130, il_140, il_160, il_255, il_399, il_540, il_590, il_610, il_999, il_1000, il_1250, il_10000, il_12345, il_99999, il_1000000, il_1103515245, ll_0, ll_1, ll_2, ll_3, ll_4, ll_5, ll_6, ll_7, ll_8, ll_9, ll_30, ll_48, ll_50, ll_57, ll_99, ll_100, ll_255, ll_399, ll_999, ll_99999, nq_bs, nq_ltS, nq_b2S, b2_id, bi_id, iI_add, iI_sub, iI_mul, iI_neg, lI_neg, iI_64, iI_lt, iI_le, iI_eq, iI_ag, iI_as, iI_ar, iI_dv, iI_rem, isOut8, in9, bo_nz, bo_t, bo_f, wr_s, wr_n, wr_k, if_pos, if_neg, ↓reduceIte, Nat.reduceAdd, Nat.reduceMul, Nat.reduceSub, Nat.reduceEqDiff, Int.reduceToNat, Int.toNat_natCast, Int.reduceNeg, Int.reduceAdd, Int.reduceSub, Int.reduceMul]
      · intro k hk; simp (disch := omega) only [wr_k]
      all_goals simp (disch := omega) only [wr_s, wr_n]
    obtain ⟨M5, n8, k5, v0, v1, v2, v3, v4⟩ := e5
    have e6 : ∃ M6, ((nq_as Mm 9 5 (iI 0) a1).bind fun M7 => (nq_as M7 9 5 (iI 1) a2).bind fun M8 => (nq_as M8 9 5 (iI 2) (iI 0)).bind fun M9 => (nq_as M9 9 5 (iI 3) (iI 0)).bind fun M10 => (nq_as M10 9 5 (iI 4) (iI 0))) = some M6 ∧ (∀ k, k ≠ 9 → M6 k = Mm k) ∧ M6 9 0 = a1 ∧ M6 9 1 = a2 ∧ M6 9 2 = iI 0 ∧ M6 9 3 = iI 0 ∧ M6 9 4 = iI 0 := by
      refine ⟨nq_wr (nq_wr (nq_wr (nq_wr (nq_wr Mm 9 0 a1) 9 1 a2) 9 2 (iI 0)) 9 3 (iI 0)) 9 4 (iI 0), ?_, ?_, ?_, ?_, ?_, ?_, ?_⟩
      · simp (disch := omega) only [il_0, il_1, il_2, il_3, il_4, il_5, il_6, il_7, il_8, il_9, il_10, il_11, il_12, il_13, il_16, il_20, il_30, il_31, il_32, il_33, il_36, il_37, il_38, il_40, il_41, il_42, il_43, il_45, il_47, il_48, il_50, il_57, il_60, il_61, il_62, il_70, il_71, il_79, il_80, il_97, il_98, il_99, il_100, il_107, il_110, il_111, il_114, il_115, il_116, il_121, il_124, il_128, il_130, il_140, il_160, il_255, il_399, il_540, il_590, il_610, il_999, il_1000, il_1250, il_10000, il_12345, il_99999, il_1000000, il_1103515245, ll_0, ll_1, ll_2, ll_3, ll_4, ll_5, ll_6, ll_7, ll_8, ll_9, ll_30, ll_48, ll_50, ll_57, ll_99, ll_100, ll_255, ll_399, ll_999, ll_99999, nq_bs, nq_ltS, nq_b2S, b2_id, bi_id, iI_add, iI_sub, iI_mul, iI_neg, lI_neg, iI_64, iI_lt, iI_le, iI_eq, iI_ag, iI_as, iI_ar, iI_dv, iI_rem, isOut8, in9, bo_nz, bo_t, bo_f, wr_s, wr_n, wr_k, if_pos, if_neg, ↓reduceIte, Nat.reduceAdd, Nat.reduceMul, Nat.reduceSub, Nat.reduceEqDiff, Int.reduceToNat, Int.toNat_natCast, Int.reduceNeg, Int.reduceAdd, Int.reduceSub, Int.reduceMul]
      · intro k hk; simp (disch := omega) only [wr_k]
      all_goals simp (disch := omega) only [wr_s, wr_n]
    obtain ⟨M6, n9, k6, y0, y1, y2, y3, y4⟩ := e6
    have hTu := hT u (by omega)
    obtain ⟨M7, r8, k7⟩ := reckonT (M := M5) (D := D) (u := u) (p := 23 + 2 * u) (by omega) (by rw [k5 _ (by omega), k5 _ (by omega)]; exact hTu)
    obtain ⟨M8, r9, k8, k9⟩ := givesT (M := M6) (D := D) (u := u) (by omega) (by rw [k6 1 (by omega)]; exact h0) hTu
    have hnm : tV D u (M6 9) = tV D u (M5 82) := tV_nm (fun i hi => by
      have hc : i = 0 ∨ i = 1 ∨ i = 2 ∨ i = 3 ∨ i = 4 := by omega
      rcases hc with rfl | rfl | rfl | rfl | rfl
      · rw [v0, y0]
      · rw [v1, y1]
      · rw [v2, y2]
      · rw [v3, y3]
      · rw [v4, y4])
    rw [hnm] at r9
    refine ⟨tV D u (M5 82), M7, M8, ?_, ?_, h.scr ?_ ?_ ⟨?_, ?_, ?_⟩ ?_⟩
    · unfold fX8_law
      have t : (u : Int).toNat = u := by omega
      simp (disch := omega) only [il_0, il_1, il_2, il_3, il_4, il_5, il_6, il_7, il_8, il_9, il_10, il_11, il_12, il_13, il_16, il_20, il_30, il_31, il_32, il_33, il_36, il_37, il_38, il_40, il_41, il_42, il_43, il_45, il_47, il_48, il_50, il_57, il_60, il_61, il_62, il_70, il_71, il_79, il_80, il_97, il_98, il_99, il_100, il_107, il_110, il_111, il_114, il_115, il_116, il_121, il_124, il_128, il_130, il_140, il_160, il_255, il_399, il_540, il_590, il_610, il_999, il_1000, il_1250, il_10000, il_12345, il_99999, il_1000000, il_1103515245, ll_0, ll_1, ll_2, ll_3, ll_4, ll_5, ll_6, ll_7, ll_8, ll_9, ll_30, ll_48, ll_50, ll_57, ll_99, ll_100, ll_255, ll_399, ll_999, ll_99999, nq_bs, nq_ltS, nq_b2S, b2_id, bi_id, iI_add, iI_sub, iI_mul, iI_neg, lI_neg, iI_64, iI_lt, iI_le, iI_eq, iI_ag, iI_as, iI_ar, iI_dv, iI_rem, isOut8, in9, bo_nz, bo_t, bo_f, wr_s, wr_n, wr_k, if_pos, if_neg, ↓reduceIte, Nat.reduceAdd, Nat.reduceMul, Nat.reduceSub, Nat.reduceEqDiff, Int.reduceToNat, Int.toNat_natCast, Int.reduceNeg, Int.reduceAdd, Int.reduceSub, Int.reduceMul, n8, r8]
    · have n9' := n9
      unfold fX9_law
      simp (disch := omega) only [il_0, il_1, il_2, il_3, il_4, il_5, il_6, il_7, il_8, il_9, il_10, il_11, il_12, il_13, il_16, il_20, il_30, il_31, il_32, il_33, il_36, il_37, il_38, il_40, il_41, il_42, il_43, il_45, il_47, il_48, il_50, il_57, il_60, il_61, il_62, il_70, il_71, il_79, il_80, il_97, il_98, il_99, il_100, il_107, il_110, il_111, il_114, il_115, il_116, il_121, il_124, il_128, il_130, il_140, il_160, il_255, il_399, il_540, il_590, il_610, il_999, il_1000, il_1250, il_10000, il_12345, il_99999, il_1000000, il_1103515245, ll_0, ll_1, ll_2, ll_3, ll_4, ll_5, ll_6, ll_7, ll_8, ll_9, ll_30, ll_48, ll_50, ll_57, ll_99, ll_100, ll_255, ll_399, ll_999, ll_99999, nq_bs, nq_ltS, nq_b2S, b2_id, bi_id, iI_add, iI_sub, iI_mul, iI_neg, lI_neg, iI_64, iI_lt, iI_le, iI_eq, iI_ag, iI_as, iI_ar, iI_dv, iI_rem, isOut8, in9, bo_nz, bo_t, bo_f, wr_s, wr_n, wr_k, if_pos, if_neg, ↓reduceIte, Nat.reduceAdd, Nat.reduceMul, Nat.reduceSub, Nat.reduceEqDiff, Int.reduceToNat, Int.toNat_natCast, Int.reduceNeg, Int.reduceAdd, Int.reduceSub, Int.reduceMul, isUse9] at n9' ⊢
      rw [Option.some.inj n9', r9]
    · intro k hk; rw [k7 k (by omega), k5 k (by omega)]
    · intro k h1 h2; rw [k7 k (by omega), k5 k (by omega)]
    · intro k hk; rw [k8 k (by omega), k6 k (by omega)]
    · rw [k9 2 (by omega), k6 0 (by omega)]
    · rw [k9 17 (by omega), k6 0 (by omega)]
    · rw [k8 1 (by omega), k6 1 (by omega)]
  · exact h.ref 1 (by omega) (by omega) (by unfold fX8_law; simp (disch := omega) only [il_0, il_1, il_2, il_3, il_4, il_5, il_6, il_7, il_8, il_9, il_10, il_11, il_12, il_13, il_16, il_20, il_30, il_31, il_32, il_33, il_36, il_37, il_38, il_40, il_41, il_42, il_43, il_45, il_47, il_48, il_50, il_57, il_60, il_61, il_62, il_70, il_71, il_79, il_80, il_97, il_98, il_99, il_100, il_107, il_110, il_111, il_114, il_115, il_116, il_121, il_124, il_128, il_130, il_140, il_160, il_255, il_399, il_540, il_590, il_610, il_999, il_1000, il_1250, il_10000, il_12345, il_99999, il_1000000, il_1103515245, ll_0, ll_1, ll_2, ll_3, ll_4, ll_5, ll_6, ll_7, ll_8, ll_9, ll_30, ll_48, ll_50, ll_57, ll_99, ll_100, ll_255, ll_399, ll_999, ll_99999, nq_bs, nq_ltS, nq_b2S, b2_id, bi_id, iI_add, iI_sub, iI_mul, iI_neg, lI_neg, iI_64, iI_lt, iI_le, iI_eq, iI_ag, iI_as, iI_ar, iI_dv, iI_rem, isOut8, in9, bo_nz, bo_t, bo_f, wr_s, wr_n, wr_k, if_pos, if_neg, ↓reduceIte, Nat.reduceAdd, Nat.reduceMul, Nat.reduceSub, Nat.reduceEqDiff, Int.reduceToNat, Int.toNat_natCast, Int.reduceNeg, Int.reduceAdd, Int.reduceSub, Int.reduceMul]) (by unfold fX9_law; simp (disch := omega) only [il_0, il_1, il_2, il_3, il_4, il_5, il_6, il_7, il_8, il_9, il_10, il_11, il_12, il_13, il_16, il_20, il_30, il_31, il_32, il_33, il_36, il_37, il_38, il_40, il_41, il_42, il_43, il_45, il_47, il_48, il_50, il_57, il_60, il_61, il_62, il_70, il_71, il_79, il_80, il_97, il_98, il_99, il_100, il_107, il_110, il_111, il_114, il_115, il_116, il_121, il_124, il_128, il_130, il_140, il_160, il_255, il_399, il_540, il_590, il_610, il_999, il_1000, il_1250, il_10000, il_12345, il_99999, il_1000000, il_1103515245, ll_0, ll_1, ll_2, ll_3, ll_4, ll_5, ll_6, ll_7, ll_8, ll_9, ll_30, ll_48, ll_50, ll_57, ll_99, ll_100, ll_255, ll_399, ll_999, ll_99999, nq_bs, nq_ltS, nq_b2S, b2_id, bi_id, iI_add, iI_sub, iI_mul, iI_neg, lI_neg, iI_64, iI_lt, iI_le, iI_eq, iI_ag, iI_as, iI_ar, iI_dv, iI_rem, isOut8, in9, bo_nz, bo_t, bo_f, wr_s, wr_n, wr_k, if_pos, if_neg, ↓reduceIte, Nat.reduceAdd, Nat.reduceMul, Nat.reduceSub, Nat.reduceEqDiff, Int.reduceToNat, Int.toNat_natCast, Int.reduceNeg, Int.reduceAdd, Int.reduceSub, Int.reduceMul, isUse9])
