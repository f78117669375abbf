/-! 17.j: hop: made -/
theorem RS.frame {D : Nat → Int} {M M' : Mem} {sd sd' : Nat} {t : Int × Int} (h : RS D M sd t) (hF : F9 sd' M M') (hne : sd ≠ sd') : RS D M' sd t := by
  obtain ⟨a, b⟩ := hF.2 sd hne
  unfold RS at *
  rw [a, b]; exact h
theorem made9 {M : Mem} {D : Nat → Int} {x y pc : Int} (hW : W9 D M) (s0 : 0 ≤ D 0 ∧ D 0 ≤ 399) (hx : inR x) (hy : inR y) (hp : inR pc) : ∃ M', (∀ k, k ≠ 6 → k ≠ 7 → k ≠ 8 → M' k = M k) ∧ ((fX9_begins M).bind fun M14 => (fX9_marksYears (iI x) (iI pc) M14).bind fun M16 => (fX9_marksYears (iI y) (iI pc) M16).bind fun M18 => fX9_made_L41 (iI x) (iI y) (iI pc) (iI 0) M18) = (if mdY D x y pc (D 0 + 1).toNat < 0 then fX9_made_L109 M' else some (iI (mdY D x y pc (D 0 + 1).toNat), M')) := by
  generalize hM0 : nq_wr (nq_wr (rg M 8 0 400 (fun _ => iI 0)) 6 0 (iI 0)) 6 1 (iI 0) = M0
  have b0 := begins9 (M := M)
  rw [hM0] at b0
  have f0 : ∀ k, k ≠ 6 → k ≠ 8 → M0 k = M k := by
    intro k h1 h2; rw [← hM0, wr_k h1, wr_k h1, rg_k h2]
  have W0 : W9 D M0 := ⟨fun j hj => by rw [f0 1 (by omega) (by omega)]; exact hW.1 j hj, hW.2⟩
  have y0 : Yb M0 (fun _ => false) := by
    intro y hy
    rw [← hM0, wr_k (by omega), wr_k (by omega), rg_s ⟨rfl, by omega, by omega⟩]
    rfl
  obtain ⟨M1, e1, F1, B1⟩ := marks9 W0 hx hp y0
  have W1 : W9 D M1 := ⟨fun j hj => by rw [F1 1 (by omega)]; exact W0.1 j hj, hW.2⟩
  obtain ⟨M2, e2, F2, B2⟩ := marks9 W1 hy hp B1
  have W2 : W9 D M2 := ⟨fun j hj => by rw [F2 1 (by omega)]; exact W1.1 j hj, hW.2⟩
  have B2' : Yb M2 (evT D x y pc) := B2.cong (fun y _ => by unfold evT; rw [Bool.false_or, mk_ev, mk_ev])
  have z0 : M2 6 0 = iI 0 := by rw [F2 6 (by omega), F1 6 (by omega), ← hM0, wr_n (by omega), wr_s ⟨rfl, rfl⟩]
  have z1 : M2 6 1 = iI 0 := by rw [F2 6 (by omega), F1 6 (by omega), ← hM0, wr_s ⟨rfl, rfl⟩]
  have R0 : RS D M2 0 (SG D x pc (evT D x y pc) 0) := ⟨z0, fun c => absurd c (by show ¬ (0 : Int) = 1; omega)⟩
  have R1 : RS D M2 1 (SG D y pc (evT D x y pc) 0) := ⟨z1, fun c => absurd c (by show ¬ (0 : Int) = 1; omega)⟩
  have key := nq_for0 (body := fun s : Int32 × Mem => fX9_made_B41 (iI x) (iI y) (iI pc) s.1 s.2) (D 0 + 1).toNat (fun k s => s.1 = iI k ∧ (∀ q, q ≠ 6 → q ≠ 7 → s.2 q = M2 q) ∧ RS D s.2 0 (SG D x pc (evT D x y pc) k) ∧ RS D s.2 1 (SG D y pc (evT D x y pc) k) ∧ ∀ T', T' < k → mdC D x y pc T' = false) (fun r => ∃ M', (∀ q, q ≠ 6 → q ≠ 7 → M' q = M2 q) ∧ ((mdY D x y pc (D 0 + 1).toNat = -1 ∧ r = .inl M') ∨ (0 ≤ mdY D x y pc (D 0 + 1).toNat ∧ r = .inr (iI (mdY D x y pc (D 0 + 1).toNat), M')))) (s := (iI 0, M2)) (by omega) ⟨rfl, fun _ _ _ => rfl, R0, R1, fun T' h => absurd h (by omega)⟩
    (by
      rintro k ⟨c, M3⟩ hk ⟨h1, hF, hA, hB, hN⟩
      dsimp only at h1 hF hA hB
      subst h1
      have W3 : W9 D M3 := ⟨fun j hj => by rw [hF 1 (by omega) (by omega)]; exact W2.1 j hj, hW.2⟩
      have h0 := W3.1
      have y8 : M3 8 k = iI (if evT D x y pc k = true then 1 else 0) := by rw [hF 8 (by omega) (by omega)]; exact B2' k (by omega)
      cases hev : evT D x y pc k with
      | false =>
        left
        rw [hev, if_neg (by decide)] at y8
        refine ⟨(iI ((k + 1 : Nat) : Int), M3), ?_, rfl, hF, ?_, ?_, ?_⟩
        · show fX9_made_B41 (iI x) (iI y) (iI pc) (iI k) M3 = _
          unfold fX9_made_B41
          simp (disch := omega) only [il_0, il_1, il_2, il_3, il_4, il_5, il_6, il_7, il_8, il_9, il_10, il_11, il_12, il_13, il_16, il_20, il_30, il_31, il_32, il_33, il_36, il_37, il_38, il_40, il_41, il_42, il_43, il_45, il_47, il_48, il_50, il_57, il_60, il_61, il_62, il_70, il_71, il_79, il_80, il_97, il_98, il_99, il_100, il_107, il_110, il_111, il_114, il_115, il_116, il_121, il_124, il_128, il_130, il_140, il_160, il_255, il_399, il_540, il_590, il_610, il_999, il_1000, il_1250, il_10000, il_12345, il_99999, il_1000000, il_1103515245, ll_0, ll_1, ll_2, ll_3, ll_4, ll_5, ll_6, ll_7, ll_8, ll_9, ll_30, ll_48, ll_50, ll_57, ll_99, ll_100, ll_255, ll_399, ll_999, ll_99999, nq_bs, nq_ltS, nq_b2S, b2_id, bi_id, iI_add, iI_sub, iI_mul, iI_neg, lI_neg, iI_64, iI_lt, iI_le, iI_eq, iI_ag, iI_as, iI_ar, iI_dv, iI_rem, isOut8, in9, bo_nz, bo_t, bo_f, wr_s, wr_n, wr_k, if_pos, if_neg, ↓reduceIte, Nat.reduceAdd, Nat.reduceMul, Nat.reduceSub, Nat.reduceEqDiff, Int.reduceToNat, Int.toNat_natCast, Int.reduceNeg, Int.reduceAdd, Int.reduceSub, Int.reduceMul, h0, y8]
          rfl
        · show RS D M3 0 (if evT D x y pc k = true then _ else _)
          rw [hev, if_neg (by decide)]; exact hA
        · show RS D M3 1 (if evT D x y pc k = true then _ else _)
          rw [hev, if_neg (by decide)]; exact hB
        · intro T' q
          by_cases e : T' = k
          · subst e; exact mdC_none hev
          · exact hN T' (by omega)
      | true =>
        rw [hev, if_pos rfl] at y8
        obtain ⟨M4, e4, F4, R4, s4⟩ := through9 W3 (sd := 0) (Y := k) (by omega) (by omega) hx hp hA (SG_SR hW.2.2 k)
        have hB4 := hB.frame F4 (by omega)
        obtain ⟨M5, e5, F5, R5, s5⟩ := through9 (F4.W9 W3) (sd := 1) (Y := k) (by omega) (by omega) hy hp hB4 (SG_SR hW.2.2 k)
        have R4' := R4.frame F5 (by omega)
        have g1 : SG D x pc (evT D x y pc) (k + 1) = ys D x pc k (SG D x pc (evT D x y pc) k) := by
          show (if evT D x y pc k = true then _ else _) = _
          rw [if_pos hev]
        have g2 : SG D y pc (evT D x y pc) (k + 1) = ys D y pc k (SG D y pc (evT D x y pc) k) := by
          show (if evT D x y pc k = true then _ else _) = _
          rw [if_pos hev]
        rw [← g1] at R4' s4
        rw [← g2] at R5 s5
        have v0 := R4'.1
        have v1 := R5.1
        have fr5 : ∀ q, q ≠ 6 → q ≠ 7 → M5 q = M2 q := fun q a b => by rw [F5.1 q a b, F4.1 q a b]; exact hF q a b
        have e4' : fX9_goesThrough (iI 0) (iI x) (iI pc) (iI k) M3 = some M4 := e4
        have e5' : fX9_goesThrough (iI 1) (iI y) (iI pc) (iI k) M4 = some M5 := e5
        unfold SR at s4 s5
        by_cases cc : 2 ≤ (SG D x pc (evT D x y pc) (k + 1)).1 ∧ 2 ≤ (SG D y pc (evT D x y pc) (k + 1)).1
        · right
          have hfd : (List.range (D 0 + 1).toNat).find? (mdC D x y pc) = some k := by
            rw [List.find?_range_eq_some]
            refine ⟨?_, by simp; omega, fun j hj => by simp [hN j hj]⟩
            unfold mdC
            rw [hev, decide_eq_true cc.1, decide_eq_true cc.2]; rfl
          have hmd : mdY D x y pc (D 0 + 1).toNat = (k : Int) := by unfold mdY; rw [hfd]
          rw [hmd]
          refine ⟨.inr (iI k, M5), ?_, M5, fr5, Or.inr ⟨by omega, rfl⟩⟩
          show fX9_made_B41 (iI x) (iI y) (iI pc) (iI k) M3 = _
          unfold fX9_made_B41
          simp (disch := omega) only [il_0, il_1, il_2, il_3, il_4, il_5, il_6, il_7, il_8, il_9, il_10, il_11, il_12, il_13, il_16, il_20, il_30, il_31, il_32, il_33, il_36, il_37, il_38, il_40, il_41, il_42, il_43, il_45, il_47, il_48, il_50, il_57, il_60, il_61, il_62, il_70, il_71, il_79, il_80, il_97, il_98, il_99, il_100, il_107, il_110, il_111, il_114, il_115, il_116, il_121, il_124, il_128, il_130, il_140, il_160, il_255, il_399, il_540, il_590, il_610, il_999, il_1000, il_1250, il_10000, il_12345, il_99999, il_1000000, il_1103515245, ll_0, ll_1, ll_2, ll_3, ll_4, ll_5, ll_6, ll_7, ll_8, ll_9, ll_30, ll_48, ll_50, ll_57, ll_99, ll_100, ll_255, ll_399, ll_999, ll_99999, nq_bs, nq_ltS, nq_b2S, b2_id, bi_id, iI_add, iI_sub, iI_mul, iI_neg, lI_neg, iI_64, iI_lt, iI_le, iI_eq, iI_ag, iI_as, iI_ar, iI_dv, iI_rem, isOut8, in9, bo_nz, bo_t, bo_f, wr_s, wr_n, wr_k, if_pos, if_neg, ↓reduceIte, Nat.reduceAdd, Nat.reduceMul, Nat.reduceSub, Nat.reduceEqDiff, Int.reduceToNat, Int.toNat_natCast, Int.reduceNeg, Int.reduceAdd, Int.reduceSub, Int.reduceMul, h0, y8, e4', e5', v0, v1]
        · left
          refine ⟨(iI ((k + 1 : Nat) : Int), M5), ?_, rfl, fr5, R4', R5, ?_⟩
          · show fX9_made_B41 (iI x) (iI y) (iI pc) (iI k) M3 = _
            unfold fX9_made_B41
            by_cases c3 : 2 ≤ (SG D x pc (evT D x y pc) (k + 1)).1
            · simp (disch := omega) only [il_0, il_1, il_2, il_3, il_4, il_5, il_6, il_7, il_8, il_9, il_10, il_11, il_12, il_13, il_16, il_20, il_30, il_31, il_32, il_33, il_36, il_37, il_38, il_40, il_41, il_42, il_43, il_45, il_47, il_48, il_50, il_57, il_60, il_61, il_62, il_70, il_71, il_79, il_80, il_97, il_98, il_99, il_100, il_107, il_110, il_111, il_114, il_115, il_116, il_121, il_124, il_128, il_130, il_140, il_160, il_255, il_399, il_540, il_590, il_610, il_999, il_1000, il_1250, il_10000, il_12345, il_99999, il_1000000, il_1103515245, ll_0, ll_1, ll_2, ll_3, ll_4, ll_5, ll_6, ll_7, ll_8, ll_9, ll_30, ll_48, ll_50, ll_57, ll_99, ll_100, ll_255, ll_399, ll_999, ll_99999, nq_bs, nq_ltS, nq_b2S, b2_id, bi_id, iI_add, iI_sub, iI_mul, iI_neg, lI_neg, iI_64, iI_lt, iI_le, iI_eq, iI_ag, iI_as, iI_ar, iI_dv, iI_rem, isOut8, in9, bo_nz, bo_t, bo_f, wr_s, wr_n, wr_k, if_pos, if_neg, ↓reduceIte, Nat.reduceAdd, Nat.reduceMul, Nat.reduceSub, Nat.reduceEqDiff, Int.reduceToNat, Int.toNat_natCast, Int.reduceNeg, Int.reduceAdd, Int.reduceSub, Int.reduceMul, h0, y8, e4', e5', v0, v1]; rfl
            · simp (disch := omega) only [il_0, il_1, il_2, il_3, il_4, il_5, il_6, il_7, il_8, il_9, il_10, il_11, il_12, il_13, il_16, il_20, il_30, il_31, il_32, il_33, il_36, il_37, il_38, il_40, il_41, il_42, il_43, il_45, il_47, il_48, il_50, il_57, il_60, il_61, il_62, il_70, il_71, il_79, il_80, il_97, il_98, il_99, il_100, il_107, il_110, il_111, il_114, il_115, il_116, il_121, il_124, il_128, il_130, il_140, il_160, il_255, il_399, il_540, il_590, il_610, il_999, il_1000, il_1250, il_10000, il_12345, il_99999, il_1000000, il_1103515245, ll_0, ll_1, ll_2, ll_3, ll_4, ll_5, ll_6, ll_7, ll_8, ll_9, ll_30, ll_48, ll_50, ll_57, ll_99, ll_100, ll_255, ll_399, ll_999, ll_99999, nq_bs, nq_ltS, nq_b2S, b2_id, bi_id, iI_add, iI_sub, iI_mul, iI_neg, lI_neg, iI_64, iI_lt, iI_le, iI_eq, iI_ag, iI_as, iI_ar, iI_dv, iI_rem, isOut8, in9, bo_nz, bo_t, bo_f, wr_s, wr_n, wr_k, if_pos, if_neg, ↓reduceIte, Nat.reduceAdd, Nat.reduceMul, Nat.reduceSub, Nat.reduceEqDiff, Int.reduceToNat, Int.toNat_natCast, Int.reduceNeg, Int.reduceAdd, Int.reduceSub, Int.reduceMul, h0, y8, e4', e5', v0, v1]; rfl
          · intro T' q
            by_cases e : T' = k
            · subst e
              unfold mdC
              rw [hev, Bool.true_and, Bool.and_eq_false_iff]
              by_cases c3 : 2 ≤ (SG D x pc (evT D x y pc) (T' + 1)).1
              · right; exact decide_eq_false (fun z => cc ⟨c3, z⟩)
              · left; exact decide_eq_false c3
            · exact hN T' (by omega))
    (by
      rintro ⟨c, M3⟩ ⟨h1, hF, hA, hB, hN⟩
      dsimp only at h1 hF hA hB
      subst h1
      have h0 : ∀ j, j < 1250 → M3 1 j = iI (D j) := fun j hj => by rw [hF 1 (by omega) (by omega)]; exact W2.1 j hj
      have hfd : (List.range (D 0 + 1).toNat).find? (mdC D x y pc) = none := by
        rw [List.find?_range_eq_none]
        intro j hj
        simp [hN j hj]
      have hmd : mdY D x y pc (D 0 + 1).toNat = -1 := by unfold mdY; rw [hfd]
      refine ⟨.inl M3, ?_, M3, hF, Or.inl ⟨hmd, rfl⟩⟩
      show fX9_made_B41 (iI x) (iI y) (iI pc) (iI ((D 0 + 1).toNat : Nat)) M3 = _
      unfold fX9_made_B41
      simp (disch := omega) only [il_0, il_1, il_2, il_3, il_4, il_5, il_6, il_7, il_8, il_9, il_10, il_11, il_12, il_13, il_16, il_20, il_30, il_31, il_32, il_33, il_36, il_37, il_38, il_40, il_41, il_42, il_43, il_45, il_47, il_48, il_50, il_57, il_60, il_61, il_62, il_70, il_71, il_79, il_80, il_97, il_98, il_99, il_100, il_107, il_110, il_111, il_114, il_115, il_116, il_121, il_124, il_128, il_130, il_140, il_160, il_255, il_399, il_540, il_590, il_610, il_999, il_1000, il_1250, il_10000, il_12345, il_99999, il_1000000, il_1103515245, ll_0, ll_1, ll_2, ll_3, ll_4, ll_5, ll_6, ll_7, ll_8, ll_9, ll_30, ll_48, ll_50, ll_57, ll_99, ll_100, ll_255, ll_399, ll_999, ll_99999, nq_bs, nq_ltS, nq_b2S, b2_id, bi_id, iI_add, iI_sub, iI_mul, iI_neg, lI_neg, iI_64, iI_lt, iI_le, iI_eq, iI_ag, iI_as, iI_ar, iI_dv, iI_rem, isOut8, in9, bo_nz, bo_t, bo_f, wr_s, wr_n, wr_k, if_pos, if_neg, ↓reduceIte, Nat.reduceAdd, Nat.reduceMul, Nat.reduceSub, Nat.reduceEqDiff, Int.reduceToNat, Int.toNat_natCast, Int.reduceNeg, Int.reduceAdd, Int.reduceSub, Int.reduceMul, h0])
  obtain ⟨r, x1, M', x2, x3⟩ := key
  refine ⟨M', fun k h6 h7 h8 => by rw [x2 k h6 h7, F2 k h8, F1 k h8, f0 k h6 h8], ?_⟩
  rw [b0, nq_bs, e1, nq_bs, e2, nq_bs]
  unfold fX9_made_L41
  rw [x1, nq_bs]
  rcases x3 with ⟨q1, rfl⟩ | ⟨q1, rfl⟩
  · rw [if_pos (by omega)]; rfl
  · rw [if_neg (by omega)]; rfl
theorem mdY_bd {D : Nat → Int} {x y pc : Int} {n : Nat} (hn : n ≤ 400) : -1 ≤ mdY D x y pc n ∧ mdY D x y pc n < 400 := by
  unfold mdY
  cases h : (List.range n).find? (mdC D x y pc) with
  | none => dsimp only; omega
  | some T =>
    rw [List.find?_range_eq_some] at h
    have : T < n := by simpa using h.2.1
    dsimp only; omega
theorem hop_made (a0 a1 a2 : Int32) (Mx Mm : Mem) (h : RR Mx Mm) : ∃ (r : Int32) (Mx1 Mm1 : Mem), fX8_made a0 a1 a2 Mx = some (r, Mx1) ∧ fX9_made a0 a1 a2 Mm = some (r, Mm1) ∧ RR Mx1 Mm1 := by
  obtain ⟨D, hc⟩ := h.1
  have hc' := hc
  obtain ⟨h0, hS, hR, hL, hA, hT⟩ := hc'
  have p0 : Mx 3 0 = iI (D 1) := hR.1
  have p1 := hR.2.1
  have p0m : Mm 1 1 = iI (D 1) := h0 1 (by omega)
  have w0m : Mm 1 2 = iI (D 2) := h0 2 (by omega)
  have w0 : Mx 6 0 = iI (D 2) := hL.1
  have w1 := hL.2.1
  obtain ⟨⟨s0, s5, s6, s7, s4, s9, s3, s10⟩, s0', s4', s5', s6', s7', s8', s9', s3', s10'⟩ := hS
  have hS := hc.2.1
  obtain ⟨x, hx, rfl⟩ := iI_of a0
  obtain ⟨y, hy, rfl⟩ := iI_of a1
  obtain ⟨z, hz, rfl⟩ := iI_of a2
  by_cases gx : 0 ≤ x ∧ x < D 1 ∧ 0 ≤ y ∧ y < D 1 ∧ x ≠ y
  · by_cases gz : 0 ≤ z ∧ z < 4
    · obtain ⟨M8, e8, F8⟩ := firstBound8 hL s0 s0' hx hy gx.2.2.2.2 hz
      obtain ⟨M9, F9', e9⟩ := made9 (hc.W9 (row := Mm 1)) s0' hx hy hz
      have bd := mdY_bd (D := D) (x := x) (y := y) (pc := z) (n := (D 0 + 1).toNat) (by omega)
      have hRR : RR M8 M9 := by
        refine h.scr ?_ ?_ ⟨?_, ?_, ?_⟩ ?_
        · intro k hk; exact F8 k (by omega)
        · intro k h1 h2; exact F8 k (by omega)
        · intro k hk; exact F9' k (by omega) (by omega) (by omega)
        · rw [F9' 0 (by omega) (by omega) (by omega)]
        · rw [F9' 0 (by omega) (by omega) (by omega)]
        · exact F9' 1 (by omega) (by omega) (by omega)
      have e9' : fX9_made (iI x) (iI y) (iI z) Mm = (if mdY D x y z (D 0 + 1).toNat < 0 then fX9_made_L109 M9 else some (iI (mdY D x y z (D 0 + 1).toNat), M9)) := by
        rw [← e9]
        unfold fX9_made
        rw [areTwo9 p0m p1 hx hy, nq_bs, bo_t gx, if_neg (by decide), isPact9 hz, nq_bs, bo_t gz, if_neg (by decide)]
        rfl
      by_cases c : mdY D x y z (D 0 + 1).toNat < 0
      · refine hRR.ref 2 (by omega) (by omega) ?_ ?_
        · unfold fX8_made
          simp (disch := omega) only [il_0, il_1, il_2, il_3, il_4, il_5, il_6, il_7, il_8, il_9, il_10, il_11, il_12, il_13, il_16, il_20, il_30, il_31, il_32, il_33, il_36, il_37, il_38, il_40, il_41, il_42, il_43, il_45, il_47, il_48, il_50, il_57, il_60, il_61, il_62, il_70, il_71, il_79, il_80, il_97, il_98, il_99, il_100, il_107, il_110, il_111, il_114, il_115, il_116, il_121, il_124, il_128, il_130, il_140, il_160, il_255, il_399, il_540, il_590, il_610, il_999, il_1000, il_1250, il_10000, il_12345, il_99999, il_1000000, il_1103515245, ll_0, ll_1, ll_2, ll_3, ll_4, ll_5, ll_6, ll_7, ll_8, ll_9, ll_30, ll_48, ll_50, ll_57, ll_99, ll_100, ll_255, ll_399, ll_999, ll_99999, nq_bs, nq_ltS, nq_b2S, b2_id, bi_id, iI_add, iI_sub, iI_mul, iI_neg, lI_neg, iI_64, iI_lt, iI_le, iI_eq, iI_ag, iI_as, iI_ar, iI_dv, iI_rem, isOut8, in9, bo_nz, bo_t, bo_f, wr_s, wr_n, wr_k, if_pos, if_neg, ↓reduceIte, Nat.reduceAdd, Nat.reduceMul, Nat.reduceSub, Nat.reduceEqDiff, Int.reduceToNat, Int.toNat_natCast, Int.reduceNeg, Int.reduceAdd, Int.reduceSub, Int.reduceMul, isPlace8 p0 p1, isPlace9 p0m p1, areTwo8 p0 p1, areTwo9 p0m p1, isPair8 p0 p1, areFt9 p0m p1, isPact8, isPact9, isWord8 w0 w1, isWord9 w0m w1, isSheet8, isSheet9, isPart8, isPart9, e8]
        · rw [e9', if_pos c]
          unfold fX9_made_L109
          simp only [b2_id, il_2]
      · refine ⟨iI (mdY D x y z (D 0 + 1).toNat), M8, M9, ?_, ?_, hRR⟩
        · unfold fX8_made
          simp (disch := omega) only [il_0, il_1, il_2, il_3, il_4, il_5, il_6, il_7, il_8, il_9, il_10, il_11, il_12, il_13, il_16, il_20, il_30, il_31, il_32, il_33, il_36, il_37, il_38, il_40, il_41, il_42, il_43, il_45, il_47, il_48, il_50, il_57, il_60, il_61, il_62, il_70, il_71, il_79, il_80, il_97, il_98, il_99, il_100, il_107, il_110, il_111, il_114, il_115, il_116, il_121, il_124, il_128, il_130, il_140, il_160, il_255, il_399, il_540, il_590, il_610, il_999, il_1000, il_1250, il_10000, il_12345, il_99999, il_1000000, il_1103515245, ll_0, ll_1, ll_2, ll_3, ll_4, ll_5, ll_6, ll_7, ll_8, ll_9, ll_30, ll_48, ll_50, ll_57, ll_99, ll_100, ll_255, ll_399, ll_999, ll_99999, nq_bs, nq_ltS, nq_b2S, b2_id, bi_id, iI_add, iI_sub, iI_mul, iI_neg, lI_neg, iI_64, iI_lt, iI_le, iI_eq, iI_ag, iI_as, iI_ar, iI_dv, iI_rem, isOut8, in9, bo_nz, bo_t, bo_f, wr_s, wr_n, wr_k, if_pos, if_neg, ↓reduceIte, Nat.reduceAdd, Nat.reduceMul, Nat.reduceSub, Nat.reduceEqDiff, Int.reduceToNat, Int.toNat_natCast, Int.reduceNeg, Int.reduceAdd, Int.reduceSub, Int.reduceMul, isPlace8 p0 p1, isPlace9 p0m p1, areTwo8 p0 p1, areTwo9 p0m p1, isPair8 p0 p1, areFt9 p0m p1, isPact8, isPact9, isWord8 w0 w1, isWord9 w0m w1, isSheet8, isSheet9, isPart8, isPart9, e8]
        · rw [e9', if_neg c]
    · exact h.ref 1 (by omega) (by omega) (by unfold fX8_made; simp (disch := omega) only [il_0, il_1, il_2, il_3, il_4, il_5, il_6, il_7, il_8, il_9, il_10, il_11, il_12, il_13, il_16, il_20, il_30, il_31, il_32, il_33, il_36, il_37, il_38, il_40, il_41, il_42, il_43, il_45, il_47, il_48, il_50, il_57, il_60, il_61, il_62, il_70, il_71, il_79, il_80, il_97, il_98, il_99, il_100, il_107, il_110, il_111, il_114, il_115, il_116, il_121, il_124, il_128, il_130, il_140, il_160, il_255, il_399, il_540, il_590, il_610, il_999, il_1000, il_1250, il_10000, il_12345, il_99999, il_1000000, il_1103515245, ll_0, ll_1, ll_2, ll_3, ll_4, ll_5, ll_6, ll_7, ll_8, ll_9, ll_30, ll_48, ll_50, ll_57, ll_99, ll_100, ll_255, ll_399, ll_999, ll_99999, nq_bs, nq_ltS, nq_b2S, b2_id, bi_id, iI_add, iI_sub, iI_mul, iI_neg, lI_neg, iI_64, iI_lt, iI_le, iI_eq, iI_ag, iI_as, iI_ar, iI_dv, iI_rem, isOut8, in9, bo_nz, bo_t, bo_f, wr_s, wr_n, wr_k, if_pos, if_neg, ↓reduceIte, Nat.reduceAdd, Nat.reduceMul, Nat.reduceSub, Nat.reduceEqDiff, Int.reduceToNat, Int.toNat_natCast, Int.reduceNeg, Int.reduceAdd, Int.reduceSub, Int.reduceMul, isPlace8 p0 p1, isPlace9 p0m p1, areTwo8 p0 p1, areTwo9 p0m p1, isPair8 p0 p1, areFt9 p0m p1, isPact8, isPact9, isWord8 w0 w1, isWord9 w0m w1, isSheet8, isSheet9, isPart8, isPart9, h0]) (by unfold fX9_made; simp (disch := omega) only [il_0, il_1, il_2, il_3, il_4, il_5, il_6, il_7, il_8, il_9, il_10, il_11, il_12, il_13, il_16, il_20, il_30, il_31, il_32, il_33, il_36, il_37, il_38, il_40, il_41, il_42, il_43, il_45, il_47, il_48, il_50, il_57, il_60, il_61, il_62, il_70, il_71, il_79, il_80, il_97, il_98, il_99, il_100, il_107, il_110, il_111, il_114, il_115, il_116, il_121, il_124, il_128, il_130, il_140, il_160, il_255, il_399, il_540, il_590, il_610, il_999, il_1000, il_1250, il_10000, il_12345, il_99999, il_1000000, il_1103515245, ll_0, ll_1, ll_2, ll_3, ll_4, ll_5, ll_6, ll_7, ll_8, ll_9, ll_30, ll_48, ll_50, ll_57, ll_99, ll_100, ll_255, ll_399, ll_999, ll_99999, nq_bs, nq_ltS, nq_b2S, b2_id, bi_id, iI_add, iI_sub, iI_mul, iI_neg, lI_neg, iI_64, iI_lt, iI_le, iI_eq, iI_ag, iI_as, iI_ar, iI_dv, iI_rem, isOut8, in9, bo_nz, bo_t, bo_f, wr_s, wr_n, wr_k, if_pos, if_neg, ↓reduceIte, Nat.reduceAdd, Nat.reduceMul, Nat.reduceSub, Nat.reduceEqDiff, Int.reduceToNat, Int.toNat_natCast, Int.reduceNeg, Int.reduceAdd, Int.reduceSub, Int.reduceMul, isPlace8 p0 p1, isPlace9 p0m p1, areTwo8 p0 p1, areTwo9 p0m p1, isPair8 p0 p1, areFt9 p0m p1, isPact8, isPact9, isWord8 w0 w1, isWord9 w0m w1, isSheet8, isSheet9, isPart8, isPart9, h0])
  · exact h.ref 1 (by omega) (by omega) (by unfold fX8_made; simp (disch := omega) only [il_0, il_1, il_2, il_3, il_4, il_5, il_6, il_7, il_8, il_9, il_10, il_11, il_12, il_13, il_16, il_20, il_30, il_31, il_32, il_33, il_36, il_37, il_38, il_40, il_41, il_42, il_43, il_45, il_47, il_48, il_50, il_57, il_60, il_61, il_62, il_70, il_71, il_79, il_80, il_97, il_98, il_99, il_100, il_107, il_110, il_111, il_114, il_115, il_116, il_121, il_124, il_128, il_130, il_140, il_160, il_255, il_399, il_540, il_590, il_610, il_999, il_1000, il_1250, il_10000, il_12345, il_99999, il_1000000, il_1103515245, ll_0, ll_1, ll_2, ll_3, ll_4, ll_5, ll_6, ll_7, ll_8, ll_9, ll_30, ll_48, ll_50, ll_57, ll_99, ll_100, ll_255, ll_399, ll_999, ll_99999, nq_bs, nq_ltS, nq_b2S, b2_id, bi_id, iI_add, iI_sub, iI_mul, iI_neg, lI_neg, iI_64, iI_lt, iI_le, iI_eq, iI_ag, iI_as, iI_ar, iI_dv, iI_rem, isOut8, in9, bo_nz, bo_t, bo_f, wr_s, wr_n, wr_k, if_pos, if_neg, ↓reduceIte, Nat.reduceAdd, Nat.reduceMul, Nat.reduceSub, Nat.reduceEqDiff, Int.reduceToNat, Int.toNat_natCast, Int.reduceNeg, Int.reduceAdd, Int.reduceSub, Int.reduceMul, isPlace8 p0 p1, isPlace9 p0m p1, areTwo8 p0 p1, areTwo9 p0m p1, isPair8 p0 p1, areFt9 p0m p1, isPact8, isPact9, isWord8 w0 w1, isWord9 w0m w1, isSheet8, isSheet9, isPart8, isPart9, h0]) (by unfold fX9_made; simp (disch := omega) only [il_0, il_1, il_2, il_3, il_4, il_5, il_6, il_7, il_8, il_9, il_10, il_11, il_12, il_13, il_16, il_20, il_30, il_31, il_32, il_33, il_36, il_37, il_38, il_40, il_41, il_42, il_43, il_45, il_47, il_48, il_50, il_57, il_60, il_61, il_62, il_70, il_71, il_79, il_80, il_97, il_98, il_99, il_100, il_107, il_110, il_111, il_114, il_115, il_116, il_121, il_124, il_128, il_130, il_140, il_160, il_255, il_399, il_540, il_590, il_610, il_999, il_1000, il_1250, il_10000, il_12345, il_99999, il_1000000, il_1103515245, ll_0, ll_1, ll_2, ll_3, ll_4, ll_5, ll_6, ll_7, ll_8, ll_9, ll_30, ll_48, ll_50, ll_57, ll_99, ll_100, ll_255, ll_399, ll_999, ll_99999, nq_bs, nq_ltS, nq_b2S, b2_id, bi_id, iI_add, iI_sub, iI_mul, iI_neg, lI_neg, iI_64, iI_lt, iI_le, iI_eq, iI_ag, iI_as, iI_ar, iI_dv, iI_rem, isOut8, in9, bo_nz, bo_t, bo_f, wr_s, wr_n, wr_k, if_pos, if_neg, ↓reduceIte, Nat.reduceAdd, Nat.reduceMul, Nat.reduceSub, Nat.reduceEqDiff, Int.reduceToNat, Int.toNat_natCast, Int.reduceNeg, Int.reduceAdd, Int.reduceSub, Int.reduceMul, isPlace8 p0 p1, isPlace9 p0m p1, areTwo8 p0 p1, areTwo9 p0m p1, isPair8 p0 p1, areFt9 p0m p1, isPact8, isPact9, isWord8 w0 w1, isWord9 w0m w1, isSheet8, isSheet9, isPart8, isPart9, h0])
