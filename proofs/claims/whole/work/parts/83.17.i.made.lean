/-! 17.i: hop: made -/
def evT (D : Nat → Int) (x y pc : Int) (T : Nat) : Bool := evB D x pc T || evB D y pc T
def mdC (D : Nat → Int) (x y pc : Int) (T : Nat) : Bool := evT D x y pc T && (decide (2 ≤ (SG D x pc (evT D x y pc) (T + 1)).1) && decide (2 ≤ (SG D y pc (evT D x y pc) (T + 1)).1))
def mdY (D : Nat → Int) (x y pc : Int) (n : Nat) : Int := match (List.range n).find? (mdC D x y pc) with | some T => (T : Int) | none => -1
theorem bound8 {M : Mem} {p : Nat} {D : Nat → Int} {x pc : Int} {T : Nat} {t : Int × Int} (h : TM M p D x pc T t) : fX4_isBound p 6 M = some (bo (2 ≤ t.1)) := by
  obtain ⟨⟨i, j, ⟨_, _, c4, _⟩, _⟩, ht, _⟩ := h
  unfold SR at ht
  unfold fX4_isBound
  by_cases c : 2 ≤ t.1
  · simp (disch := omega) only [il_0, il_1, il_2, il_3, il_4, il_5, il_6, il_7, il_8, il_9, il_10, il_11, il_12, il_13, il_16, il_20, il_30, il_31, il_32, il_33, il_36, il_37, il_38, il_40, il_41, il_42, il_43, il_45, il_47, il_48, il_50, il_57, il_60, il_61, il_62, il_70, il_71, il_79, il_80, il_97, il_98, il_99, il_100, il_107, il_110, il_111, il_114, il_115, il_116, il_121, il_124, il_128, il_130, il_140, il_160, il_255, il_399, il_540, il_590, il_610, il_999, il_1000, il_1250, il_10000, il_12345, il_99999, il_1000000, il_1103515245, ll_0, ll_1, ll_2, ll_3, ll_4, ll_5, ll_6, ll_7, ll_8, ll_9, ll_30, ll_48, ll_50, ll_57, ll_99, ll_100, ll_255, ll_399, ll_999, ll_99999, nq_bs, nq_ltS, nq_b2S, b2_id, bi_id, iI_add, iI_sub, iI_mul, iI_neg, lI_neg, iI_64, iI_lt, iI_le, iI_eq, iI_ag, iI_as, iI_ar, iI_dv, iI_rem, isOut8, in9, bo_nz, bo_t, bo_f, wr_s, wr_n, wr_k, if_pos, if_neg, ↓reduceIte, Nat.reduceAdd, Nat.reduceMul, Nat.reduceSub, Nat.reduceEqDiff, Int.reduceToNat, Int.toNat_natCast, Int.reduceNeg, Int.reduceAdd, Int.reduceSub, Int.reduceMul, c4]
  · simp (disch := omega) only [il_0, il_1, il_2, il_3, il_4, il_5, il_6, il_7, il_8, il_9, il_10, il_11, il_12, il_13, il_16, il_20, il_30, il_31, il_32, il_33, il_36, il_37, il_38, il_40, il_41, il_42, il_43, il_45, il_47, il_48, il_50, il_57, il_60, il_61, il_62, il_70, il_71, il_79, il_80, il_97, il_98, il_99, il_100, il_107, il_110, il_111, il_114, il_115, il_116, il_121, il_124, il_128, il_130, il_140, il_160, il_255, il_399, il_540, il_590, il_610, il_999, il_1000, il_1250, il_10000, il_12345, il_99999, il_1000000, il_1103515245, ll_0, ll_1, ll_2, ll_3, ll_4, ll_5, ll_6, ll_7, ll_8, ll_9, ll_30, ll_48, ll_50, ll_57, ll_99, ll_100, ll_255, ll_399, ll_999, ll_99999, nq_bs, nq_ltS, nq_b2S, b2_id, bi_id, iI_add, iI_sub, iI_mul, iI_neg, lI_neg, iI_64, iI_lt, iI_le, iI_eq, iI_ag, iI_as, iI_ar, iI_dv, iI_rem, isOut8, in9, bo_nz, bo_t, bo_f, wr_s, wr_n, wr_k, if_pos, if_neg, ↓reduceIte, Nat.reduceAdd, Nat.reduceMul, Nat.reduceSub, Nat.reduceEqDiff, Int.reduceToNat, Int.toNat_natCast, Int.reduceNeg, Int.reduceAdd, Int.reduceSub, Int.reduceMul, c4]
theorem disj_len {p q : Nat → Bool} : ∀ (l : List Nat), (∀ w, p w = true → q w = true → False) → (l.filter p).length + (l.filter q).length ≤ l.length := by
  intro l h
  induction l with
  | nil => simp
  | cons a l ih =>
    rw [List.filter_cons, List.filter_cons]
    cases hp : p a with
    | true =>
      cases hq : q a with
      | true => exact absurd (h a hp hq) (fun x => x)
      | false => simp; omega
    | false =>
      cases hq : q a with
      | true => simp; omega
      | false => simp; omega
theorem two_len {M : Mem} {p : Nat} {D : Nat → Int} (hL : GL M p D) {x y pc : Int} (hxy : x ≠ y) : ((RAt D x pc 0).length + (RAt D y pc 0).length) + ((RBt D x pc 0).length + (RBt D y pc 0).length) ≤ 160 := by
  have w1 := hL.2.1
  have len := arrL_len w1
  have a := disj_len (p := fun w => qF D x pc w && decide (((0 : Nat) : Int) ≤ D (615 + 8 * w))) (q := fun w => qF D y pc w && decide (((0 : Nat) : Int) ≤ D (615 + 8 * w))) (arrL D) (by
    intro w h1 h2
    unfold qF at h1 h2
    simp only [Bool.and_eq_true, decide_eq_true_eq] at h1 h2
    omega)
  have b := disj_len (p := fun w => qB D x pc w && decide (((0 : Nat) : Int) ≤ D (614 + 8 * w))) (q := fun w => qB D y pc w && decide (((0 : Nat) : Int) ≤ D (614 + 8 * w))) (List.range (D 2).toNat) (by
    intro w h1 h2
    unfold qB at h1 h2
    simp only [Bool.and_eq_true, decide_eq_true_eq] at h1 h2
    omega)
  rw [List.length_range] at b
  unfold RAt RBt
  omega
theorem len_skip {M : Mem} {p : Nat} {D : Nat → Int} (hL : GL M p D) {x pc : Int} {T : Nat} : ∀ N, T ≤ N → N < 1000 → (∀ T', T ≤ T' → T' < N → evB D x pc T' = false) → (RAt D x pc N).length = (RAt D x pc T).length ∧ (RBt D x pc N).length = (RBt D x pc T).length := by
  intro N
  induction N with
  | zero => intro a _ _; obtain rfl : T = 0 := by omega
            exact ⟨rfl, rfl⟩
  | succ N ih =>
    intro a b hs
    by_cases e : T = N + 1
    · rw [e]; exact ⟨rfl, rfl⟩
    · obtain ⟨i1, i2⟩ := ih (by omega) (by omega) (fun T' h1 h2 => hs T' h1 (by omega))
      obtain ⟨n1, n2⟩ := ev_no (hs N (by omega) (by omega))
      obtain ⟨r1, r2⟩ := RAB_len hL (x := x) (pc := pc) (T := N) (by omega)
      rw [n1] at r1; rw [n2] at r2
      simp only [List.length_nil] at r1 r2
      omega
theorem or_f {a b : Bool} (h : (a || b) = false) : a = false ∧ b = false := by
  cases a <;> cases b <;> simp at h ⊢
theorem mdC_none {D : Nat → Int} {x y pc : Int} {T : Nat} (h : evT D x y pc T = false) : mdC D x y pc T = false := by
  unfold mdC; rw [h]; rfl
theorem firstBound8 {M : Mem} {D : Nat → Int} {x y pc : Int} (hL : GL M 6 D) (h9 : M 2 9 = iI (D 0)) (s0 : 0 ≤ D 0 ∧ D 0 ≤ 399) (hx : inR x) (hy : inR y) (hxy : x ≠ y) (hp : inR pc) : ∃ M', fX8_firstBound (iI x) (iI y) (iI pc) M = some (iI (mdY D x y pc (D 0 + 1).toNat), M') ∧ ∀ k, (k < 76 ∨ 80 ≤ k) → M' k = M k := by
  obtain ⟨M0, e0, F0, T0⟩ := begin8 (p := 76) (by omega) hL hx hp
  have L0 := F0.GL (by omega) hL
  obtain ⟨M1, e1, F1, T1⟩ := begin8 (p := 78) (by omega) L0 hy hp
  have T0' : TM M1 76 D x pc 0 (0, -1) := T0.frame (F1 76 (by omega) (by omega)) (F1 77 (by omega) (by omega))
  have l0 := two_len hL (x := x) (y := y) (pc := pc) hxy
  have fr0 : ∀ k, (k < 76 ∨ 80 ≤ k) → M1 k = M k := fun k hk => by rw [F1 k (by omega) (by omega), F0 k (by omega) (by omega)]
  have key := nq_for0 (body := fun s : Int32 × Mem => fX8_firstBound_B21 s.1 s.2) 161 (fun k s => s.1 = iI k ∧ (∀ q, (q < 76 ∨ 80 ≤ q) → s.2 q = M q) ∧ ∃ T : Nat, (T : Int) ≤ D 0 + 1 ∧ TM s.2 76 D x pc T (SG D x pc (evT D x y pc) T) ∧ TM s.2 78 D y pc T (SG D y pc (evT D x y pc) T) ∧ (∀ T', T' < T → mdC D x y pc T' = false) ∧ k + (((RAt D x pc T).length + (RAt D y pc T).length) + ((RBt D x pc T).length + (RBt D y pc T).length)) ≤ 160) (fun r => ∃ M', r = .inr (iI (mdY D x y pc (D 0 + 1).toNat), M') ∧ ∀ q, (q < 76 ∨ 80 ≤ q) → M' q = M q) (s := (iI 0, M1)) (by omega) ⟨rfl, fr0, 0, by omega, T0', T1, fun T' h => absurd h (by omega), by omega⟩
    (by
      rintro k ⟨c, M2⟩ hk ⟨h1, hF, T, hT, hA, hB, hN, hm⟩
      dsimp only at h1 hF hA hB
      subst h1
      have L2 : GL M2 6 D := hL.frame (fun q h1 h2 => hF q (by omega)) (fun _ _ => rfl)
      have n9 : M2 2 9 = iI (D 0) := by rw [hF 2 (by omega)]; exact h9
      obtain ⟨ny1, nb1⟩ := nextYear8 L2 hA.1
      obtain ⟨ny2, nb2⟩ := nextYear8 L2 hB.1
      obtain ⟨a1, a2, a3⟩ := nyr_spec hL (x := x) (pc := pc) (T := T) (by omega)
      obtain ⟨b1, b2, b3⟩ := nyr_spec hL (x := y) (pc := pc) (T := T) (by omega)
      generalize nyr D (RAt D x pc T) (RBt D x pc T) = N1 at *
      generalize nyr D (RAt D y pc T) (RBt D y pc T) = N2 at *
      have hmin : ∃ N : Nat, (N : Int) = (if N2 < N1 then N2 else N1) ∧ ((N : Int) ≤ N1 ∧ (N : Int) ≤ N2) ∧ ((N : Int) = N1 ∨ (N : Int) = N2) := by
        refine ⟨(if N2 < N1 then N2 else N1).toNat, ?_, ?_, ?_⟩ <;> split <;> omega
      obtain ⟨N, hN1, hN2, hN3⟩ := hmin
      have hs1 : ∀ T', T ≤ T' → T' < N → evB D x pc T' = false := fun T' q r => a2 T' q (by omega)
      have hs2 : ∀ T', T ≤ T' → T' < N → evB D y pc T' = false := fun T' q r => b2 T' q (by omega)
      have hst : ∀ T', T ≤ T' → T' < N → evT D x y pc T' = false := fun T' q r => by unfold evT; rw [hs1 T' q r, hs2 T' q r]; rfl
      by_cases cN : (N : Int) ≤ D 0
      · have tA := TM_skip hL N (by omega) (by omega) hs1 hA
        have tB := TM_skip hL N (by omega) (by omega) hs2 hB
        rw [← SG_skip N (by omega) hst] at tA tB
        have hev : evT D x y pc N = true := by
          unfold evT
          rcases hN3 with e | e
          · have := a3 (by omega)
            rw [← e, Int.toNat_natCast] at this
            rw [this]; rfl
          · have := b3 (by omega)
            rw [← e, Int.toNat_natCast] at this
            rw [this, Bool.or_true]
        obtain ⟨M3, e3, F3, T3⟩ := pass8 (p := 76) (by omega) L2 hx hp (by omega) tA
        have L3 := F3.GL (by omega) L2
        have tB' : TM M3 78 D y pc N (SG D y pc (evT D x y pc) N) := tB.frame (F3 78 (by omega) (by omega)) (F3 79 (by omega) (by omega))
        obtain ⟨M4, e4, F4, T4⟩ := pass8 (p := 78) (by omega) L3 hy hp (by omega) tB'
        have T3' : TM M4 76 D x pc (N + 1) (ys D x pc N (SG D x pc (evT D x y pc) N)) := T3.frame (F4 76 (by omega) (by omega)) (F4 77 (by omega) (by omega))
        have g1 : SG D x pc (evT D x y pc) (N + 1) = ys D x pc N (SG D x pc (evT D x y pc) N) := by
          show (if evT D x y pc N = true then _ else _) = _
          rw [if_pos hev]
        have g2 : SG D y pc (evT D x y pc) (N + 1) = ys D y pc N (SG D y pc (evT D x y pc) N) := by
          show (if evT D x y pc N = true then _ else _) = _
          rw [if_pos hev]
        rw [← g1] at T3'
        rw [← g2] at T4
        have k1 := bound8 T3'
        have k2 := bound8 T4
        have fr4 : ∀ q, (q < 76 ∨ 80 ≤ q) → M4 q = M q := fun q hq => by rw [F4 q (by omega) (by omega), F3 q (by omega) (by omega)]; exact hF q hq
        have hn' : ∀ T', T' < N → mdC D x y pc T' = false := fun T' q => by
          by_cases e : T' < T
          · exact hN T' e
          · exact mdC_none (hst T' (by omega) q)
        by_cases cc : 2 ≤ (SG D x pc (evT D x y pc) (N + 1)).1 ∧ 2 ≤ (SG D y pc (evT D x y pc) (N + 1)).1
        · right
          refine ⟨.inr (iI N, M4), ?_, M4, ?_, fr4⟩
          · show fX8_firstBound_B21 (iI k) M2 = _
            unfold fX8_firstBound_B21
            by_cases c2 : N2 < N1
            · have en : N2 = (N : Int) := by rw [if_pos c2] at hN1; omega
              rw [en] at ny2
              simp (disch := omega) only [il_0, il_1, il_2, il_3, il_4, il_5, il_6, il_7, il_8, il_9, il_10, il_11, il_12, il_13, il_16, il_20, il_30, il_31, il_32, il_33, il_36, il_37, il_38, il_40, il_41, il_42, il_43, il_45, il_47, il_48, il_50, il_57, il_60, il_61, il_62, il_70, il_71, il_79, il_80, il_97, il_98, il_99, il_100, il_107, il_110, il_111, il_114, il_115, il_116, il_121, il_124, il_128, il_130, il_140, il_160, il_255, il_399, il_540, il_590, il_610, il_999, il_1000, il_1250, il_10000, il_12345, il_99999, il_1000000, il_1103515245, ll_0, ll_1, ll_2, ll_3, ll_4, ll_5, ll_6, ll_7, ll_8, ll_9, ll_30, ll_48, ll_50, ll_57, ll_99, ll_100, ll_255, ll_399, ll_999, ll_99999, nq_bs, nq_ltS, nq_b2S, b2_id, bi_id, iI_add, iI_sub, iI_mul, iI_neg, lI_neg, iI_64, iI_lt, iI_le, iI_eq, iI_ag, iI_as, iI_ar, iI_dv, iI_rem, isOut8, in9, bo_nz, bo_t, bo_f, wr_s, wr_n, wr_k, if_pos, if_neg, ↓reduceIte, Nat.reduceAdd, Nat.reduceMul, Nat.reduceSub, Nat.reduceEqDiff, Int.reduceToNat, Int.toNat_natCast, Int.reduceNeg, Int.reduceAdd, Int.reduceSub, Int.reduceMul, ny1, ny2, n9, e3, e4, k1, k2]
            · have en : N1 = (N : Int) := by rw [if_neg c2] at hN1; omega
              rw [en] at ny1
              simp (disch := omega) only [il_0, il_1, il_2, il_3, il_4, il_5, il_6, il_7, il_8, il_9, il_10, il_11, il_12, il_13, il_16, il_20, il_30, il_31, il_32, il_33, il_36, il_37, il_38, il_40, il_41, il_42, il_43, il_45, il_47, il_48, il_50, il_57, il_60, il_61, il_62, il_70, il_71, il_79, il_80, il_97, il_98, il_99, il_100, il_107, il_110, il_111, il_114, il_115, il_116, il_121, il_124, il_128, il_130, il_140, il_160, il_255, il_399, il_540, il_590, il_610, il_999, il_1000, il_1250, il_10000, il_12345, il_99999, il_1000000, il_1103515245, ll_0, ll_1, ll_2, ll_3, ll_4, ll_5, ll_6, ll_7, ll_8, ll_9, ll_30, ll_48, ll_50, ll_57, ll_99, ll_100, ll_255, ll_399, ll_999, ll_99999, nq_bs, nq_ltS, nq_b2S, b2_id, bi_id, iI_add, iI_sub, iI_mul, iI_neg, lI_neg, iI_64, iI_lt, iI_le, iI_eq, iI_ag, iI_as, iI_ar, iI_dv, iI_rem, isOut8, in9, bo_nz, bo_t, bo_f, wr_s, wr_n, wr_k, if_pos, if_neg, ↓reduceIte, Nat.reduceAdd, Nat.reduceMul, Nat.reduceSub, Nat.reduceEqDiff, Int.reduceToNat, Int.toNat_natCast, Int.reduceNeg, Int.reduceAdd, Int.reduceSub, Int.reduceMul, ny1, ny2, n9, e3, e4, k1, k2]
          · have : (List.range (D 0 + 1).toNat).find? (mdC D x y pc) = some N := by
              rw [List.find?_range_eq_some]
              refine ⟨?_, by simp; omega, fun j hj => by simp [hn' j hj]⟩
              unfold mdC
              rw [hev, decide_eq_true cc.1, decide_eq_true cc.2]; rfl
            unfold mdY
            rw [this]
        · left
          refine ⟨(iI ((k + 1 : Nat) : Int), M4), ?_, rfl, fr4, N + 1, by omega, T3', T4, ?_, ?_⟩
          · show fX8_firstBound_B21 (iI k) M2 = _
            unfold fX8_firstBound_B21
            by_cases c2 : N2 < N1
            · have en : N2 = (N : Int) := by rw [if_pos c2] at hN1; omega
              rw [en] at ny2
              by_cases c3 : 2 ≤ (SG D x pc (evT D x y pc) (N + 1)).1
              · simp (disch := omega) only [il_0, il_1, il_2, il_3, il_4, il_5, il_6, il_7, il_8, il_9, il_10, il_11, il_12, il_13, il_16, il_20, il_30, il_31, il_32, il_33, il_36, il_37, il_38, il_40, il_41, il_42, il_43, il_45, il_47, il_48, il_50, il_57, il_60, il_61, il_62, il_70, il_71, il_79, il_80, il_97, il_98, il_99, il_100, il_107, il_110, il_111, il_114, il_115, il_116, il_121, il_124, il_128, il_130, il_140, il_160, il_255, il_399, il_540, il_590, il_610, il_999, il_1000, il_1250, il_10000, il_12345, il_99999, il_1000000, il_1103515245, ll_0, ll_1, ll_2, ll_3, ll_4, ll_5, ll_6, ll_7, ll_8, ll_9, ll_30, ll_48, ll_50, ll_57, ll_99, ll_100, ll_255, ll_399, ll_999, ll_99999, nq_bs, nq_ltS, nq_b2S, b2_id, bi_id, iI_add, iI_sub, iI_mul, iI_neg, lI_neg, iI_64, iI_lt, iI_le, iI_eq, iI_ag, iI_as, iI_ar, iI_dv, iI_rem, isOut8, in9, bo_nz, bo_t, bo_f, wr_s, wr_n, wr_k, if_pos, if_neg, ↓reduceIte, Nat.reduceAdd, Nat.reduceMul, Nat.reduceSub, Nat.reduceEqDiff, Int.reduceToNat, Int.toNat_natCast, Int.reduceNeg, Int.reduceAdd, Int.reduceSub, Int.reduceMul, ny1, ny2, n9, e3, e4, k1, k2]; rfl
              · simp (disch := omega) only [il_0, il_1, il_2, il_3, il_4, il_5, il_6, il_7, il_8, il_9, il_10, il_11, il_12, il_13, il_16, il_20, il_30, il_31, il_32, il_33, il_36, il_37, il_38, il_40, il_41, il_42, il_43, il_45, il_47, il_48, il_50, il_57, il_60, il_61, il_62, il_70, il_71, il_79, il_80, il_97, il_98, il_99, il_100, il_107, il_110, il_111, il_114, il_115, il_116, il_121, il_124, il_128, il_130, il_140, il_160, il_255, il_399, il_540, il_590, il_610, il_999, il_1000, il_1250, il_10000, il_12345, il_99999, il_1000000, il_1103515245, ll_0, ll_1, ll_2, ll_3, ll_4, ll_5, ll_6, ll_7, ll_8, ll_9, ll_30, ll_48, ll_50, ll_57, ll_99, ll_100, ll_255, ll_399, ll_999, ll_99999, nq_bs, nq_ltS, nq_b2S, b2_id, bi_id, iI_add, iI_sub, iI_mul, iI_neg, lI_neg, iI_64, iI_lt, iI_le, iI_eq, iI_ag, iI_as, iI_ar, iI_dv, iI_rem, isOut8, in9, bo_nz, bo_t, bo_f, wr_s, wr_n, wr_k, if_pos, if_neg, ↓reduceIte, Nat.reduceAdd, Nat.reduceMul, Nat.reduceSub, Nat.reduceEqDiff, Int.reduceToNat, Int.toNat_natCast, Int.reduceNeg, Int.reduceAdd, Int.reduceSub, Int.reduceMul, ny1, ny2, n9, e3, e4, k1, k2]; rfl
            · have en : N1 = (N : Int) := by rw [if_neg c2] at hN1; omega
              rw [en] at ny1
              by_cases c3 : 2 ≤ (SG D x pc (evT D x y pc) (N + 1)).1
              · simp (disch := omega) only [il_0, il_1, il_2, il_3, il_4, il_5, il_6, il_7, il_8, il_9, il_10, il_11, il_12, il_13, il_16, il_20, il_30, il_31, il_32, il_33, il_36, il_37, il_38, il_40, il_41, il_42, il_43, il_45, il_47, il_48, il_50, il_57, il_60, il_61, il_62, il_70, il_71, il_79, il_80, il_97, il_98, il_99, il_100, il_107, il_110, il_111, il_114, il_115, il_116, il_121, il_124, il_128, il_130, il_140, il_160, il_255, il_399, il_540, il_590, il_610, il_999, il_1000, il_1250, il_10000, il_12345, il_99999, il_1000000, il_1103515245, ll_0, ll_1, ll_2, ll_3, ll_4, ll_5, ll_6, ll_7, ll_8, ll_9, ll_30, ll_48, ll_50, ll_57, ll_99, ll_100, ll_255, ll_399, ll_999, ll_99999, nq_bs, nq_ltS, nq_b2S, b2_id, bi_id, iI_add, iI_sub, iI_mul, iI_neg, lI_neg, iI_64, iI_lt, iI_le, iI_eq, iI_ag, iI_as, iI_ar, iI_dv, iI_rem, isOut8, in9, bo_nz, bo_t, bo_f, wr_s, wr_n, wr_k, if_pos, if_neg, ↓reduceIte, Nat.reduceAdd, Nat.reduceMul, Nat.reduceSub, Nat.reduceEqDiff, Int.reduceToNat, Int.toNat_natCast, Int.reduceNeg, Int.reduceAdd, Int.reduceSub, Int.reduceMul, ny1, ny2, n9, e3, e4, k1, k2]; rfl
              · simp (disch := omega) only [il_0, il_1, il_2, il_3, il_4, il_5, il_6, il_7, il_8, il_9, il_10, il_11, il_12, il_13, il_16, il_20, il_30, il_31, il_32, il_33, il_36, il_37, il_38, il_40, il_41, il_42, il_43, il_45, il_47, il_48, il_50, il_57, il_60, il_61, il_62, il_70, il_71, il_79, il_80, il_97, il_98, il_99, il_100, il_107, il_110, il_111, il_114, il_115, il_116, il_121, il_124, il_128, il_130, il_140, il_160, il_255, il_399, il_540, il_590, il_610, il_999, il_1000, il_1250, il_10000, il_12345, il_99999, il_1000000, il_1103515245, ll_0, ll_1, ll_2, ll_3, ll_4, ll_5, ll_6, ll_7, ll_8, ll_9, ll_30, ll_48, ll_50, ll_57, ll_99, ll_100, ll_255, ll_399, ll_999, ll_99999, nq_bs, nq_ltS, nq_b2S, b2_id, bi_id, iI_add, iI_sub, iI_mul, iI_neg, lI_neg, iI_64, iI_lt, iI_le, iI_eq, iI_ag, iI_as, iI_ar, iI_dv, iI_rem, isOut8, in9, bo_nz, bo_t, bo_f, wr_s, wr_n, wr_k, if_pos, if_neg, ↓reduceIte, Nat.reduceAdd, Nat.reduceMul, Nat.reduceSub, Nat.reduceEqDiff, Int.reduceToNat, Int.toNat_natCast, Int.reduceNeg, Int.reduceAdd, Int.reduceSub, Int.reduceMul, ny1, ny2, n9, e3, e4, k1, k2]; rfl
          · intro T' q
            by_cases e : T' = N
            · subst e
              unfold mdC
              rw [hev, Bool.true_and, Bool.and_eq_false_iff]
              by_cases c3 : 2 ≤ (SG D x pc (evT D x y pc) (T' + 1)).1
              · right; exact decide_eq_false (fun z => cc ⟨c3, z⟩)
              · left; exact decide_eq_false c3
            · exact hn' T' (by omega)
          · obtain ⟨i1, i2⟩ := len_skip hL (x := x) (pc := pc) N (by omega) (by omega) hs1
            obtain ⟨j1, j2⟩ := len_skip hL (x := y) (pc := pc) N (by omega) (by omega) hs2
            obtain ⟨r1, r2⟩ := RAB_len hL (x := x) (pc := pc) (T := N) (by omega)
            obtain ⟨q1, q2⟩ := RAB_len hL (x := y) (pc := pc) (T := N) (by omega)
            have : 1 ≤ (comeL D x pc N).length + (sentL D x pc N).length ∨ 1 ≤ (comeL D y pc N).length + (sentL D y pc N).length := by
              unfold evT at hev
              rw [Bool.or_eq_true] at hev
              rcases hev with e | e
              · left; exact ev_yes e
              · right; exact ev_yes e
            omega
      · right
        refine ⟨.inr (iI (-1), M2), ?_, M2, ?_, hF⟩
        · show fX8_firstBound_B21 (iI k) M2 = _
          unfold fX8_firstBound_B21
          by_cases c2 : N2 < N1
          · simp (disch := omega) only [il_0, il_1, il_2, il_3, il_4, il_5, il_6, il_7, il_8, il_9, il_10, il_11, il_12, il_13, il_16, il_20, il_30, il_31, il_32, il_33, il_36, il_37, il_38, il_40, il_41, il_42, il_43, il_45, il_47, il_48, il_50, il_57, il_60, il_61, il_62, il_70, il_71, il_79, il_80, il_97, il_98, il_99, il_100, il_107, il_110, il_111, il_114, il_115, il_116, il_121, il_124, il_128, il_130, il_140, il_160, il_255, il_399, il_540, il_590, il_610, il_999, il_1000, il_1250, il_10000, il_12345, il_99999, il_1000000, il_1103515245, ll_0, ll_1, ll_2, ll_3, ll_4, ll_5, ll_6, ll_7, ll_8, ll_9, ll_30, ll_48, ll_50, ll_57, ll_99, ll_100, ll_255, ll_399, ll_999, ll_99999, nq_bs, nq_ltS, nq_b2S, b2_id, bi_id, iI_add, iI_sub, iI_mul, iI_neg, lI_neg, iI_64, iI_lt, iI_le, iI_eq, iI_ag, iI_as, iI_ar, iI_dv, iI_rem, isOut8, in9, bo_nz, bo_t, bo_f, wr_s, wr_n, wr_k, if_pos, if_neg, ↓reduceIte, Nat.reduceAdd, Nat.reduceMul, Nat.reduceSub, Nat.reduceEqDiff, Int.reduceToNat, Int.toNat_natCast, Int.reduceNeg, Int.reduceAdd, Int.reduceSub, Int.reduceMul, ny1, ny2, n9]
          · simp (disch := omega) only [il_0, il_1, il_2, il_3, il_4, il_5, il_6, il_7, il_8, il_9, il_10, il_11, il_12, il_13, il_16, il_20, il_30, il_31, il_32, il_33, il_36, il_37, il_38, il_40, il_41, il_42, il_43, il_45, il_47, il_48, il_50, il_57, il_60, il_61, il_62, il_70, il_71, il_79, il_80, il_97, il_98, il_99, il_100, il_107, il_110, il_111, il_114, il_115, il_116, il_121, il_124, il_128, il_130, il_140, il_160, il_255, il_399, il_540, il_590, il_610, il_999, il_1000, il_1250, il_10000, il_12345, il_99999, il_1000000, il_1103515245, ll_0, ll_1, ll_2, ll_3, ll_4, ll_5, ll_6, ll_7, ll_8, ll_9, ll_30, ll_48, ll_50, ll_57, ll_99, ll_100, ll_255, ll_399, ll_999, ll_99999, nq_bs, nq_ltS, nq_b2S, b2_id, bi_id, iI_add, iI_sub, iI_mul, iI_neg, lI_neg, iI_64, iI_lt, iI_le, iI_eq, iI_ag, iI_as, iI_ar, iI_dv, iI_rem, isOut8, in9, bo_nz, bo_t, bo_f, wr_s, wr_n, wr_k, if_pos, if_neg, ↓reduceIte, Nat.reduceAdd, Nat.reduceMul, Nat.reduceSub, Nat.reduceEqDiff, Int.reduceToNat, Int.toNat_natCast, Int.reduceNeg, Int.reduceAdd, Int.reduceSub, Int.reduceMul, ny1, ny2, n9]
        · have : (List.range (D 0 + 1).toNat).find? (mdC D x y pc) = none := by
            rw [List.find?_range_eq_none]
            intro j hj
            have : mdC D x y pc j = false := by
              by_cases e : j < T
              · exact hN j e
              · exact mdC_none (hst j (by omega) (by omega))
            simp [this]
          unfold mdY
          rw [this])
    (by
      rintro ⟨c, M2⟩ ⟨h1, hF, T, hT, hA, hB, hN, hm⟩
      omega)
  obtain ⟨r, x1, M', rfl, x2⟩ := key
  refine ⟨M', ?_, x2⟩
  unfold fX8_firstBound fX8_firstBound_L21
  rw [e0, nq_bs, e1, nq_bs, il_0, x1]
  rfl
