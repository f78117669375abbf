/-! 18.a: the class's reader -/
def RdS (B : Nat → Int) (n : Nat) (ni : Int) (M : Mem) (a : Nat) (cs : List Int32) : Prop := M 80 4 = iI a ∧ M 80 1 = iI cs.length ∧ (∀ i, i < cs.length → M 81 i = cs.getD i 0) ∧ M 80 2 = 1 ∧ M 80 3 = iI n ∧ M 80 5 = iI ni ∧ (∀ j, j < 50 → M 17 j = iI (B j) ∧ 0 ≤ B j ∧ B j ≤ 255) ∧ n ≤ 50
def FR (M M' : Mem) : Prop := ∀ k, k ≠ 80 → k ≠ 81 → M' k = M k
theorem FR.refl (M : Mem) : FR M M := fun _ _ _ => rfl
theorem FR.trans {M M' M'' : Mem} (h : FR M M') (h' : FR M' M'') : FR M M'' := fun k h1 h2 => (h' k h1 h2).trans (h k h1 h2)
theorem FR.wr {M M' : Mem} {a i : Nat} {v : Int32} (h : FR M M') (ha : a = 80 ∨ a = 81) : FR M (nq_wr M' a i v) := fun k h1 h2 => by
  rw [wr_k (by omega)]; exact h k h1 h2
theorem gdT {β : Type} {f : Unit → Option β} : (nq_gd true).bind f = f () := nq_gdS rfl
theorem char_b {b : Int} (h : 0 ≤ b ∧ b ≤ 255) : ((iI b).toUInt32 % 65536).toInt32 = iI b := by
  obtain ⟨m, rfl⟩ := Int.eq_ofNat_of_zero_le h.1
  rw [pk_char, ← iI_nat, pk_tn (by omega), Nat.mod_eq_of_lt (by omega)]
theorem nz_char {b : Int} (h : 0 ≤ b ∧ b ≤ 255) : nq_nz .char (iI b) = some (iI b) := by
  have := pk_nc (iI b)
  rw [char_b h] at this
  unfold nq_nz
  rw [this]
  simp
def nx (h : Nat → Int) (a : Nat) : Int := if h a < 0 then 0 else h a
theorem nx_bd {B : Nat → Int} {n a : Nat} (hb : ∀ j, j < 50 → 0 ≤ B j ∧ B j ≤ 255) (hn : n ≤ 50) : 0 ≤ nx (hB B n) a ∧ nx (hB B n) a ≤ 255 ∧ (hB B n a = -1 ∨ (0 ≤ hB B n a ∧ hB B n a ≤ 255)) := by
  unfold nx
  by_cases c : a < n
  · have q := hb a (by omega)
    have e : hB B n a = B a := by unfold hB; rw [if_pos c]
    rw [e, if_neg (by omega)]
    exact ⟨q.1, q.2, Or.inr q⟩
  · have e : hB B n a = -1 := by unfold hB; rw [if_neg c]
    rw [e, if_pos (by omega)]
    exact ⟨by omega, by omega, Or.inl rfl⟩
theorem next8 {B : Nat → Int} {n a : Nat} {ni : Int} {M : Mem} {cs : List Int32} (h : RdS B n ni M a cs) (ha : a ≤ n) : fX1_next 80 17 M = some (iI (nx (hB B n) a)) := by
  obtain ⟨r4, r1, r81, r2, r3, r5, r17, hn⟩ := h
  unfold fX1_next nx hB
  by_cases c : a < n
  · have q := r17 a (by omega)
    have g : decide (M 80 2 = iI 1) = true := decide_eq_true r2
    simp (disch := omega) only [il_0, il_1, il_2, il_3, il_4, il_5, il_6, il_7, il_8, il_9, il_10, il_11, il_12, il_13, il_16, il_20, il_30, il_31, il_32, il_33, il_36, il_37, il_38, il_40, il_41, il_42, il_43, il_45, il_47, il_48, il_50, il_57, il_60, il_61, il_62, il_70, il_71, il_79, il_80, il_97, il_98, il_99, il_100, il_107, il_110, il_111, il_114, il_115, il_116, il_121, il_124, il_128, il_130, il_140, il_160, il_255, il_399, il_540, il_590, il_610, il_999, il_1000, il_1250, il_10000, il_12345, il_99999, il_1000000, il_1103515245, ll_0, ll_1, ll_2, ll_3, ll_4, ll_5, ll_6, ll_7, ll_8, ll_9, ll_30, ll_48, ll_50, ll_57, ll_99, ll_100, ll_255, ll_399, ll_999, ll_99999, nq_bs, nq_ltS, nq_b2S, b2_id, bi_id, iI_add, iI_sub, iI_mul, iI_neg, lI_neg, iI_64, iI_lt, iI_le, iI_eq, iI_ag, iI_as, iI_ar, iI_dv, iI_rem, isOut8, in9, bo_nz, bo_t, bo_f, wr_s, wr_n, wr_k, if_pos, if_neg, ↓reduceIte, Nat.reduceAdd, Nat.reduceMul, Nat.reduceSub, Nat.reduceEqDiff, Int.reduceToNat, Int.toNat_natCast, Int.reduceNeg, Int.reduceAdd, Int.reduceSub, Int.reduceMul, r4, r3, g, gdT, q.1, char_b, nz_char]
  · simp (disch := omega) only [il_0, il_1, il_2, il_3, il_4, il_5, il_6, il_7, il_8, il_9, il_10, il_11, il_12, il_13, il_16, il_20, il_30, il_31, il_32, il_33, il_36, il_37, il_38, il_40, il_41, il_42, il_43, il_45, il_47, il_48, il_50, il_57, il_60, il_61, il_62, il_70, il_71, il_79, il_80, il_97, il_98, il_99, il_100, il_107, il_110, il_111, il_114, il_115, il_116, il_121, il_124, il_128, il_130, il_140, il_160, il_255, il_399, il_540, il_590, il_610, il_999, il_1000, il_1250, il_10000, il_12345, il_99999, il_1000000, il_1103515245, ll_0, ll_1, ll_2, ll_3, ll_4, ll_5, ll_6, ll_7, ll_8, ll_9, ll_30, ll_48, ll_50, ll_57, ll_99, ll_100, ll_255, ll_399, ll_999, ll_99999, nq_bs, nq_ltS, nq_b2S, b2_id, bi_id, iI_add, iI_sub, iI_mul, iI_neg, lI_neg, iI_64, iI_lt, iI_le, iI_eq, iI_ag, iI_as, iI_ar, iI_dv, iI_rem, isOut8, in9, bo_nz, bo_t, bo_f, wr_s, wr_n, wr_k, if_pos, if_neg, ↓reduceIte, Nat.reduceAdd, Nat.reduceMul, Nat.reduceSub, Nat.reduceEqDiff, Int.reduceToNat, Int.toNat_natCast, Int.reduceNeg, Int.reduceAdd, Int.reduceSub, Int.reduceMul, r4, r3]
theorem ixM {k : Nat} {c : Int32} {M : Mem} : fJ0_indexOf_0f7a4 k c M = fJ0_indexOf_0f7a4 k c (fun _ _ => 0) := rfl
theorem ix1T : ∀ c, c < 256 → fJ0_indexOf_0f7a4 1 (iI ((c : Nat) : Int)) (fun _ _ => 0) = some (iI (nmI true ((c : Nat) : Int))) := by decide +kernel
theorem ix2T : ∀ c, c < 256 → fJ0_indexOf_0f7a4 2 (iI ((c : Nat) : Int)) (fun _ _ => 0) = some (iI (nmI false ((c : Nat) : Int))) := by decide +kernel
theorem ixsT : ∀ k, k < 5 → ∀ c, c < 256 → (match fJ0_indexOf_0f7a4 (3 + k) (iI ((c : Nat) : Int)) (fun _ _ => 0) with | some r => decide (r < 0) == !(sgn k ((c : Nat) : Int)) | none => false) = true := by decide +kernel
theorem ixn {o : Bool} {c : Int} {M : Mem} (h : 0 ≤ c ∧ c ≤ 255) : fJ0_indexOf_0f7a4 (if o = true then 1 else 2) (iI c) M = some (iI (nmI o c)) := by
  obtain ⟨m, rfl⟩ := Int.eq_ofNat_of_zero_le h.1
  rw [ixM]
  cases o with
  | true => exact ix1T m (by omega)
  | false => exact ix2T m (by omega)
theorem ixs {k : Nat} {c : Int} {M : Mem} (hk : k < 5) (h : 0 ≤ c ∧ c ≤ 255) : ∃ r, fJ0_indexOf_0f7a4 (3 + k) (iI c) M = some r ∧ (r < 0 ↔ sgn k c = false) := by
  obtain ⟨m, rfl⟩ := Int.eq_ofNat_of_zero_le h.1
  rw [ixM]
  have := ixsT k hk m (by omega)
  cases hr : fJ0_indexOf_0f7a4 (3 + k) (iI (m : Int)) (fun _ _ => 0) with
  | none => rw [hr] at this; cases this
  | some r =>
    rw [hr] at this
    refine ⟨r, rfl, ?_⟩
    dsimp only at this
    cases hs : sgn k (m : Int) with
    | true => rw [hs] at this; simp at this; simp [this]
    | false => rw [hs] at this; simp at this; simp [this]
theorem signsOf8 {lv : Nat} {M : Mem} (h : lv < 5) : fX1_signsOf (iI lv) M = some (iI (3 + lv)) := by
  have : lv = 0 ∨ lv = 1 ∨ lv = 2 ∨ lv = 3 ∨ lv = 4 := by omega
  rcases this with rfl | rfl | rfl | rfl | rfl <;> rfl
theorem isDigit8 {c : Int} {M : Mem} (h : inR c) : fX1_isDigit (iI c) M = some (bo (48 ≤ c ∧ c ≤ 57)) := by
  unfold fX1_isDigit
  by_cases c1 : c < 48
  · simp (disch := omega) only [il_0, il_1, il_2, il_3, il_4, il_5, il_6, il_7, il_8, il_9, il_10, il_11, il_12, il_13, il_16, il_20, il_30, il_31, il_32, il_33, il_36, il_37, il_38, il_40, il_41, il_42, il_43, il_45, il_47, il_48, il_50, il_57, il_60, il_61, il_62, il_70, il_71, il_79, il_80, il_97, il_98, il_99, il_100, il_107, il_110, il_111, il_114, il_115, il_116, il_121, il_124, il_128, il_130, il_140, il_160, il_255, il_399, il_540, il_590, il_610, il_999, il_1000, il_1250, il_10000, il_12345, il_99999, il_1000000, il_1103515245, ll_0, ll_1, ll_2, ll_3, ll_4, ll_5, ll_6, ll_7, ll_8, ll_9, ll_30, ll_48, ll_50, ll_57, ll_99, ll_100, ll_255, ll_399, ll_999, ll_99999, nq_bs, nq_ltS, nq_b2S, b2_id, bi_id, iI_add, iI_sub, iI_mul, iI_neg, lI_neg, iI_64, iI_lt, iI_le, iI_eq, iI_ag, iI_as, iI_ar, iI_dv, iI_rem, isOut8, in9, bo_nz, bo_t, bo_f, wr_s, wr_n, wr_k, if_pos, if_neg, ↓reduceIte, Nat.reduceAdd, Nat.reduceMul, Nat.reduceSub, Nat.reduceEqDiff, Int.reduceToNat, Int.toNat_natCast, Int.reduceNeg, Int.reduceAdd, Int.reduceSub, Int.reduceMul]
  · by_cases c2 : 57 < c
    · simp (disch := omega) only [il_0, il_1, il_2, il_3, il_4, il_5, il_6, il_7, il_8, il_9, il_10, il_11, il_12, il_13, il_16, il_20, il_30, il_31, il_32, il_33, il_36, il_37, il_38, il_40, il_41, il_42, il_43, il_45, il_47, il_48, il_50, il_57, il_60, il_61, il_62, il_70, il_71, il_79, il_80, il_97, il_98, il_99, il_100, il_107, il_110, il_111, il_114, il_115, il_116, il_121, il_124, il_128, il_130, il_140, il_160, il_255, il_399, il_540, il_590, il_610, il_999, il_1000, il_1250, il_10000, il_12345, il_99999, il_1000000, il_1103515245, ll_0, ll_1, ll_2, ll_3, ll_4, ll_5, ll_6, ll_7, ll_8, ll_9, ll_30, ll_48, ll_50, ll_57, ll_99, ll_100, ll_255, ll_399, ll_999, ll_99999, nq_bs, nq_ltS, nq_b2S, b2_id, bi_id, iI_add, iI_sub, iI_mul, iI_neg, lI_neg, iI_64, iI_lt, iI_le, iI_eq, iI_ag, iI_as, iI_ar, iI_dv, iI_rem, isOut8, in9, bo_nz, bo_t, bo_f, wr_s, wr_n, wr_k, if_pos, if_neg, ↓reduceIte, Nat.reduceAdd, Nat.reduceMul, Nat.reduceSub, Nat.reduceEqDiff, Int.reduceToNat, Int.toNat_natCast, Int.reduceNeg, Int.reduceAdd, Int.reduceSub, Int.reduceMul]
    · simp (disch := omega) only [il_0, il_1, il_2, il_3, il_4, il_5, il_6, il_7, il_8, il_9, il_10, il_11, il_12, il_13, il_16, il_20, il_30, il_31, il_32, il_33, il_36, il_37, il_38, il_40, il_41, il_42, il_43, il_45, il_47, il_48, il_50, il_57, il_60, il_61, il_62, il_70, il_71, il_79, il_80, il_97, il_98, il_99, il_100, il_107, il_110, il_111, il_114, il_115, il_116, il_121, il_124, il_128, il_130, il_140, il_160, il_255, il_399, il_540, il_590, il_610, il_999, il_1000, il_1250, il_10000, il_12345, il_99999, il_1000000, il_1103515245, ll_0, ll_1, ll_2, ll_3, ll_4, ll_5, ll_6, ll_7, ll_8, ll_9, ll_30, ll_48, ll_50, ll_57, ll_99, ll_100, ll_255, ll_399, ll_999, ll_99999, nq_bs, nq_ltS, nq_b2S, b2_id, bi_id, iI_add, iI_sub, iI_mul, iI_neg, lI_neg, iI_64, iI_lt, iI_le, iI_eq, iI_ag, iI_as, iI_ar, iI_dv, iI_rem, isOut8, in9, bo_nz, bo_t, bo_f, wr_s, wr_n, wr_k, if_pos, if_neg, ↓reduceIte, Nat.reduceAdd, Nat.reduceMul, Nat.reduceSub, Nat.reduceEqDiff, Int.reduceToNat, Int.toNat_natCast, Int.reduceNeg, Int.reduceAdd, Int.reduceSub, Int.reduceMul]
theorem RdS.at {B : Nat → Int} {n a : Nat} {ni : Int} {M : Mem} {cs : List Int32} (h : RdS B n ni M a cs) {b : Nat} : RdS B n ni (nq_wr M 80 4 (iI b)) b cs := by
  obtain ⟨r4, r1, r81, r2, r3, r5, r17, hn⟩ := h
  refine ⟨?_, ?_, ?_, ?_, ?_, ?_, ?_, hn⟩
  · rw [wr_s ⟨rfl, rfl⟩]
  · rw [wr_n (by omega)]; exact r1
  · intro i hi; rw [wr_k (by omega)]; exact r81 i hi
  · rw [wr_n (by omega)]; exact r2
  · rw [wr_n (by omega)]; exact r3
  · rw [wr_n (by omega)]; exact r5
  · intro j hj; rw [wr_k (by omega)]; exact r17 j hj
theorem radd8 {B : Nat → Int} {n a : Nat} {ni : Int} {M : Mem} {cs : List Int32} {c : Int32} (h : RdS B n ni M a cs) (hl : cs.length < 50) : ∃ M', fX1_add 80 17 c M = some M' ∧ FR M M' ∧ RdS B n ni M' a (cs ++ [c]) := by
  obtain ⟨r4, r1, r81, r2, r3, r5, r17, hn⟩ := h
  refine ⟨nq_wr (nq_wr M 81 cs.length c) 80 1 (iI ((cs.length + 1 : Nat) : Int)), ?_, ((FR.refl M).wr (Or.inr rfl)).wr (Or.inl rfl), ?_⟩
  · unfold fX1_add
    simp (disch := omega) only [il_0, il_1, il_2, il_3, il_4, il_5, il_6, il_7, il_8, il_9, il_10, il_11, il_12, il_13, il_16, il_20, il_30, il_31, il_32, il_33, il_36, il_37, il_38, il_40, il_41, il_42, il_43, il_45, il_47, il_48, il_50, il_57, il_60, il_61, il_62, il_70, il_71, il_79, il_80, il_97, il_98, il_99, il_100, il_107, il_110, il_111, il_114, il_115, il_116, il_121, il_124, il_128, il_130, il_140, il_160, il_255, il_399, il_540, il_590, il_610, il_999, il_1000, il_1250, il_10000, il_12345, il_99999, il_1000000, il_1103515245, ll_0, ll_1, ll_2, ll_3, ll_4, ll_5, ll_6, ll_7, ll_8, ll_9, ll_30, ll_48, ll_50, ll_57, ll_99, ll_100, ll_255, ll_399, ll_999, ll_99999, nq_bs, nq_ltS, nq_b2S, b2_id, bi_id, iI_add, iI_sub, iI_mul, iI_neg, lI_neg, iI_64, iI_lt, iI_le, iI_eq, iI_ag, iI_as, iI_ar, iI_dv, iI_rem, isOut8, in9, bo_nz, bo_t, bo_f, wr_s, wr_n, wr_k, if_pos, if_neg, ↓reduceIte, Nat.reduceAdd, Nat.reduceMul, Nat.reduceSub, Nat.reduceEqDiff, Int.reduceToNat, Int.toNat_natCast, Int.reduceNeg, Int.reduceAdd, Int.reduceSub, Int.reduceMul, r1]
    rfl
  · refine ⟨?_, ?_, ?_, ?_, ?_, ?_, ?_, hn⟩
    · simp (disch := omega) only [wr_n]; exact r4
    · rw [wr_s ⟨rfl, rfl⟩, List.length_append]; rfl
    · intro i hi
      rw [List.length_append] at hi
      simp only [List.length_cons, List.length_nil] at hi
      rw [wr_k (by omega)]
      by_cases e : i = cs.length
      · rw [wr_s ⟨rfl, e⟩, List.getD_eq_getElem?_getD, List.getElem?_append_right (by omega), e, Nat.sub_self]; rfl
      · rw [wr_n (Or.inr e), r81 i (by omega), List.getD_eq_getElem?_getD, List.getD_eq_getElem?_getD, List.getElem?_append_left (by omega)]
    · simp (disch := omega) only [wr_n]; exact r2
    · simp (disch := omega) only [wr_n]; exact r3
    · simp (disch := omega) only [wr_n]; exact r5
    · intro j hj; simp (disch := omega) only [wr_k]; exact r17 j hj
theorem rnum8 {B : Nat → Int} {n : Nat} {ni : Int} {M0 : Mem} {cs : List Int32} : ∀ (k a : Nat) (v : Int) (M : Mem) (fuel : Nat), k ≤ 4 → k < fuel → FR M0 M → RdS B n ni M a cs → a ≤ n → ∃ M', nq_lp (fun s : Int32 × Int32 × Mem => fX1_readNumber_B4 80 17 s.1 s.2.1 s.2.2) fuel (iI v, iI ((4 - k : Nat) : Int), M) = some (iI (pN (hB B n) k a v).2, M') ∧ FR M0 M' ∧ RdS B n ni M' (pN (hB B n) k a v).1 cs := by
  intro k
  induction k with
  | zero =>
    intro a v M fuel hk hf hF hS ha
    obtain ⟨f, rfl⟩ : ∃ f, fuel = f + 1 := ⟨fuel - 1, by omega⟩
    refine ⟨M, lp_r ?_, hF, hS⟩
    show fX1_readNumber_B4 80 17 (iI v) (iI ((4 - 0 : Nat) : Int)) M = _
    unfold fX1_readNumber_B4
    rw [if_pos (by decide)]; rfl
  | succ k ih =>
    intro a v M fuel hk hf hF hS ha
    obtain ⟨f, rfl⟩ : ∃ f, fuel = f + 1 := ⟨fuel - 1, by omega⟩
    have nb := nx_bd (a := a) (fun j hj => (hS.2.2.2.2.2.2.1 j hj).2) hS.2.2.2.2.2.2.2
    have n8 := next8 hS ha
    have r4 := hS.1
    by_cases c : 48 ≤ hB B n a ∧ hB B n a ≤ 57
    · have hlt : a < n := Nat.lt_of_not_le (fun q => by have := hB_z (B := B) a q; omega)
      have hn := hS.2.2.2.2.2.2.2
      have en : nx (hB B n) a = hB B n a := by unfold nx; rw [if_neg (by omega)]
      rw [en] at n8
      obtain ⟨M', x1, x2, x3⟩ := ih (a + 1) (10 * v + hB B n a - 48) (nq_wr M 80 4 (iI ((a + 1 : Nat) : Int))) f (by omega) (by omega) (hF.wr (Or.inl rfl)) hS.at (by omega)
      have ep : pN (hB B n) (k + 1) a v = pN (hB B n) k (a + 1) (10 * v + hB B n a - 48) := by
        show (if 48 ≤ hB B n a ∧ hB B n a ≤ 57 then _ else _) = _
        rw [if_pos c]
      rw [ep]
      refine ⟨M', (lp_i ?_).trans x1, x2, x3⟩
      show fX1_readNumber_B4 80 17 (iI v) (iI ((4 - (k + 1) : Nat) : Int)) M = _
      unfold fX1_readNumber_B4
      have q1 : ((4 - (k + 1) : Nat) : Int) + 1 = ((4 - k : Nat) : Int) := by omega
      simp (disch := omega) only [il_0, il_1, il_2, il_3, il_4, il_5, il_6, il_7, il_8, il_9, il_10, il_11, il_12, il_13, il_16, il_20, il_30, il_31, il_32, il_33, il_36, il_37, il_38, il_40, il_41, il_42, il_43, il_45, il_47, il_48, il_50, il_57, il_60, il_61, il_62, il_70, il_71, il_79, il_80, il_97, il_98, il_99, il_100, il_107, il_110, il_111, il_114, il_115, il_116, il_121, il_124, il_128, il_130, il_140, il_160, il_255, il_399, il_540, il_590, il_610, il_999, il_1000, il_1250, il_10000, il_12345, il_99999, il_1000000, il_1103515245, ll_0, ll_1, ll_2, ll_3, ll_4, ll_5, ll_6, ll_7, ll_8, ll_9, ll_30, ll_48, ll_50, ll_57, ll_99, ll_100, ll_255, ll_399, ll_999, ll_99999, nq_bs, nq_ltS, nq_b2S, b2_id, bi_id, iI_add, iI_sub, iI_mul, iI_neg, lI_neg, iI_64, iI_lt, iI_le, iI_eq, iI_ag, iI_as, iI_ar, iI_dv, iI_rem, isOut8, in9, bo_nz, bo_t, bo_f, wr_s, wr_n, wr_k, if_pos, if_neg, ↓reduceIte, Nat.reduceAdd, Nat.reduceMul, Nat.reduceSub, Nat.reduceEqDiff, Int.reduceToNat, Int.toNat_natCast, Int.reduceNeg, Int.reduceAdd, Int.reduceSub, Int.reduceMul, n8, isDigit8, r4, q1]
      rfl
    · have ep : pN (hB B n) (k + 1) a v = (a, v) := by
        show (if 48 ≤ hB B n a ∧ hB B n a ≤ 57 then _ else _) = _
        rw [if_neg c]
      rw [ep]
      have c' : ¬ (48 ≤ nx (hB B n) a ∧ nx (hB B n) a ≤ 57) := by unfold nx; split <;> omega
      refine ⟨M, lp_r ?_, hF, hS⟩
      show fX1_readNumber_B4 80 17 (iI v) (iI ((4 - (k + 1) : Nat) : Int)) M = _
      unfold fX1_readNumber_B4
      simp (disch := omega) only [il_0, il_1, il_2, il_3, il_4, il_5, il_6, il_7, il_8, il_9, il_10, il_11, il_12, il_13, il_16, il_20, il_30, il_31, il_32, il_33, il_36, il_37, il_38, il_40, il_41, il_42, il_43, il_45, il_47, il_48, il_50, il_57, il_60, il_61, il_62, il_70, il_71, il_79, il_80, il_97, il_98, il_99, il_100, il_107, il_110, il_111, il_114, il_115, il_116, il_121, il_124, il_128, il_130, il_140, il_160, il_255, il_399, il_540, il_590, il_610, il_999, il_1000, il_1250, il_10000, il_12345, il_99999, il_1000000, il_1103515245, ll_0, ll_1, ll_2, ll_3, ll_4, ll_5, ll_6, ll_7, ll_8, ll_9, ll_30, ll_48, ll_50, ll_57, ll_99, ll_100, ll_255, ll_399, ll_999, ll_99999, nq_bs, nq_ltS, nq_b2S, b2_id, bi_id, iI_add, iI_sub, iI_mul, iI_neg, lI_neg, iI_64, iI_lt, iI_le, iI_eq, iI_ag, iI_as, iI_ar, iI_dv, iI_rem, isOut8, in9, bo_nz, bo_t, bo_f, wr_s, wr_n, wr_k, if_pos, if_neg, ↓reduceIte, Nat.reduceAdd, Nat.reduceMul, Nat.reduceSub, Nat.reduceEqDiff, Int.reduceToNat, Int.toNat_natCast, Int.reduceNeg, Int.reduceAdd, Int.reduceSub, Int.reduceMul, n8, isDigit8]
/-- what the reader must do: at a place, with codes so far -/
def SimO (B : Nat → Int) (n : Nat) (ni : Int) (M : Mem) (cs : List Int32) (r : PR) (o : Option (Int32 × Mem)) : Prop := ∃ M', o = some (iI (if r.1 = true then 1 else 0), M') ∧ FR M M' ∧ (r.1 = true → RdS B n ni M' r.2.1 (cs ++ r.2.2.1)) ∧ (r.1 = false → M' 80 4 = iI r.2.1)
def SimU (B : Nat → Int) (n : Nat) (o : Bool) (f : Nat) : Prop := ∀ op d, op ≤ 5 → 7 * (5 - op) + 1 ≤ f → 8 * (5 - op) + 2 ≤ d → ∀ M a cs, RdS B n (if o = true then 1 else 2) M a cs → a ≤ n → cs.length ≤ a → SimO B n (if o = true then 1 else 2) M cs (pr (hB B n) o f 5 op a) ((gRd_all d).2.1 80 17 (iI op) M)
def SimL (B : Nat → Int) (n : Nat) (o : Bool) (f : Nat) : Prop := ∀ lv op d, lv ≤ 5 → op ≤ 5 → 7 * (5 - op) + (6 - lv) ≤ f → 8 * (5 - op) + (8 - lv) ≤ d → ∀ M a cs, RdS B n (if o = true then 1 else 2) M a cs → a ≤ n → cs.length ≤ a → SimO B n (if o = true then 1 else 2) M cs (pr (hB B n) o f lv op a) ((gRd_all d).1 80 17 (iI lv) (iI op) M)
theorem nzb {b : Bool} : nq_nz .boolean (iI (if b = true then 1 else 0)) = some (iI (if b = true then 1 else 0)) := by
  cases b <;> rfl
/-- the loop of a level -/
theorem rloop8 {B : Nat → Int} {n lv op most : Nat} {ni : Int} {M0 : Mem} {g : Nat → PR} {gU : Nat → Nat → Int32 → Mem → Option (Int32 × Mem)} {gL : Nat → Nat → Int32 → Int32 → Mem → Option (Int32 × Mem)} (hlv : lv < 5) (hmost : most ≤ 50) (hg : ∀ a, a ≤ n → pOK n a (g a)) (hgL : ∀ M a cs, RdS B n ni M a cs → a ≤ n → cs.length ≤ a → SimO B n ni M cs (g a) (gL 80 17 (iI ((lv + 1 : Nat) : Int)) (iI op) M)) : ∀ (k a : Nat) (cs0 c : List Int32) (v : (Nat → Int32) → Int32) (M : Mem) (fuel : Nat), k ≤ most → k < fuel → FR M0 M → RdS B n ni M a (cs0 ++ c) → a ≤ n → (cs0 ++ c).length ≤ a → ∃ M', FR M0 M' ∧ (((pLoop (hB B n) lv g k a c v).1 = true ∧ nq_lp (fun s : Int32 × Mem => fX1_readLevel_B39 gU gL 80 17 (iI lv) (iI op) (iI most) s.1 s.2) fuel (iI ((most - k : Nat) : Int), M) = some (.inl M') ∧ RdS B n ni M' (pLoop (hB B n) lv g k a c v).2.1 (cs0 ++ (pLoop (hB B n) lv g k a c v).2.2.1)) ∨ ((pLoop (hB B n) lv g k a c v).1 = false ∧ nq_lp (fun s : Int32 × Mem => fX1_readLevel_B39 gU gL 80 17 (iI lv) (iI op) (iI most) s.1 s.2) fuel (iI ((most - k : Nat) : Int), M) = some (.inr (iI 0, M')) ∧ M' 80 4 = iI (pLoop (hB B n) lv g k a c v).2.1)) := by
  intro k
  induction k with
  | zero =>
    intro a cs0 c v M fuel hk hf hF hS ha hl
    obtain ⟨f, rfl⟩ : ∃ f, fuel = f + 1 := ⟨fuel - 1, by omega⟩
    refine ⟨M, hF, Or.inl ⟨rfl, lp_r ?_, hS⟩⟩
    show fX1_readLevel_B39 gU gL 80 17 (iI lv) (iI op) (iI most) (iI ((most - 0 : Nat) : Int)) M = _
    unfold fX1_readLevel_B39
    simp (disch := omega) only [il_0, il_1, il_2, il_3, il_4, il_5, il_6, il_7, il_8, il_9, il_10, il_11, il_12, il_13, il_16, il_20, il_30, il_31, il_32, il_33, il_36, il_37, il_38, il_40, il_41, il_42, il_43, il_45, il_47, il_48, il_50, il_57, il_60, il_61, il_62, il_70, il_71, il_79, il_80, il_97, il_98, il_99, il_100, il_107, il_110, il_111, il_114, il_115, il_116, il_121, il_124, il_128, il_130, il_140, il_160, il_255, il_399, il_540, il_590, il_610, il_999, il_1000, il_1250, il_10000, il_12345, il_99999, il_1000000, il_1103515245, ll_0, ll_1, ll_2, ll_3, ll_4, ll_5, ll_6, ll_7, ll_8, ll_9, ll_30, ll_48, ll_50, ll_57, ll_99, ll_100, ll_255, ll_399, ll_999, ll_99999, nq_bs, nq_ltS, nq_b2S, b2_id, bi_id, iI_add, iI_sub, iI_mul, iI_neg, lI_neg, iI_64, iI_lt, iI_le, iI_eq, iI_ag, iI_as, iI_ar, iI_dv, iI_rem, isOut8, in9, bo_nz, bo_t, bo_f, wr_s, wr_n, wr_k, if_pos, if_neg, ↓reduceIte, Nat.reduceAdd, Nat.reduceMul, Nat.reduceSub, Nat.reduceEqDiff, Int.reduceToNat, Int.toNat_natCast, Int.reduceNeg, Int.reduceAdd, Int.reduceSub, Int.reduceMul]
  | succ k ih =>
    intro a cs0 c v M fuel hk hf hF hS ha hl
    obtain ⟨f, rfl⟩ : ∃ f, fuel = f + 1 := ⟨fuel - 1, by omega⟩
    have hn := hS.2.2.2.2.2.2.2
    have nb := nx_bd (a := a) (fun j hj => (hS.2.2.2.2.2.2.1 j hj).2) hn
    have n8 := next8 hS ha
    have r4 := hS.1
    obtain ⟨r, ir, ii⟩ := ixs (M := M) hlv (show 0 ≤ nx (hB B n) a ∧ nx (hB B n) a ≤ 255 by omega)
    have sg := signsOf8 (M := M) hlv
    have gd : decide ((iI (3 + (lv : Int))).toNatClampNeg < 8) = true := by rw [iI_clamp (by omega)]; exact decide_eq_true (by omega)
    have gd2 : decide (3 + lv < 8) = true := decide_eq_true (by omega)
    have cl : (iI (3 + (lv : Int))).toNatClampNeg = 3 + lv := by rw [iI_clamp (by omega)]; omega
    have r0 : (r < iI 0) ↔ sgn lv (nx (hB B n) a) = false := ii
    by_cases cs : sgn lv (hB B n a) = true
    · have hne : hB B n a ≠ -1 := by
        intro q
        rw [q] at cs
        unfold sgn at cs
        split at cs <;> simp at cs
      have hlt : a < n := Nat.lt_of_not_le (fun q => hne (hB_z a q))
      have en : nx (hB B n) a = hB B n a := by unfold nx; rw [if_neg (by omega)]
      rw [en] at n8 r0 ir
      have rn : ¬ r < iI 0 := fun q => by rw [r0.mp q] at cs; cases cs
      obtain ⟨M1, e1, F1, o1, o2⟩ := hgL (nq_wr M 80 4 (iI ((a + 1 : Nat) : Int))) (a + 1) (cs0 ++ c) hS.at (by omega) (by omega)
      have hok := hg (a + 1) (by omega)
      have Fw : FR M0 (nq_wr M 80 4 (iI ((a + 1 : Nat) : Int))) := hF.wr (Or.inl rfl)
      have q1 : ((a : Int) + 1) = ((a + 1 : Nat) : Int) := by omega
      have q2 : ((lv : Int) + 1) = ((lv + 1 : Nat) : Int) := by omega
      have q3 : ((most - (k + 1) : Nat) : Int) + 1 = ((most - k : Nat) : Int) := by omega
      cases hr : (g (a + 1)).1 with
      | true =>
        rw [hr, if_pos rfl] at e1
        obtain ⟨b1, b2, b3⟩ := hok.1 hr
        have S1 := o1 hr
        have hlen : ((cs0 ++ c) ++ (g (a + 1)).2.2.1).length < 50 := by rw [List.length_append]; omega
        obtain ⟨M2, e2, F2, S2⟩ := radd8 (c := iI (-(hB B n a))) S1 hlen
        have eas : ((cs0 ++ c) ++ (g (a + 1)).2.2.1) ++ [iI (-(hB B n a))] = cs0 ++ (c ++ (g (a + 1)).2.2.1 ++ [iI (-(hB B n a))]) := by simp [List.append_assoc]
        rw [eas] at S2
        obtain ⟨M', y1, y2⟩ := ih (g (a + 1)).2.1 cs0 (c ++ (g (a + 1)).2.2.1 ++ [iI (-(hB B n a))]) (fun nm => jn (hB B n a) (v nm) ((g (a + 1)).2.2.2 nm)) M2 f (by omega) (by omega) ((Fw.trans F1).trans F2) S2 b2 (by rw [← eas, List.length_append, List.length_append, List.length_cons, List.length_nil]; omega)
        have ep : pLoop (hB B n) lv g (k + 1) a c v = pLoop (hB B n) lv g k (g (a + 1)).2.1 (c ++ (g (a + 1)).2.2.1 ++ [iI (-(hB B n a))]) (fun nm => jn (hB B n a) (v nm) ((g (a + 1)).2.2.2 nm)) := by
          show (if sgn lv (hB B n a) = true then (if (g (a + 1)).1 = true then _ else _) else _) = _
          rw [if_pos cs, if_pos hr]
        have eb : fX1_readLevel_B39 gU gL 80 17 (iI lv) (iI op) (iI most) (iI ((most - (k + 1) : Nat) : Int)) M = some (.inl (iI ((most - k : Nat) : Int), M2)) := by
          unfold fX1_readLevel_B39
          simp (disch := omega) only [il_0, il_1, il_2, il_3, il_4, il_5, il_6, il_7, il_8, il_9, il_10, il_11, il_12, il_13, il_16, il_20, il_30, il_31, il_32, il_33, il_36, il_37, il_38, il_40, il_41, il_42, il_43, il_45, il_47, il_48, il_50, il_57, il_60, il_61, il_62, il_70, il_71, il_79, il_80, il_97, il_98, il_99, il_100, il_107, il_110, il_111, il_114, il_115, il_116, il_121, il_124, il_128, il_130, il_140, il_160, il_255, il_399, il_540, il_590, il_610, il_999, il_1000, il_1250, il_10000, il_12345, il_99999, il_1000000, il_1103515245, ll_0, ll_1, ll_2, ll_3, ll_4, ll_5, ll_6, ll_7, ll_8, ll_9, ll_30, ll_48, ll_50, ll_57, ll_99, ll_100, ll_255, ll_399, ll_999, ll_99999, nq_bs, nq_ltS, nq_b2S, b2_id, bi_id, iI_add, iI_sub, iI_mul, iI_neg, lI_neg, iI_64, iI_lt, iI_le, iI_eq, iI_ag, iI_as, iI_ar, iI_dv, iI_rem, isOut8, in9, bo_nz, bo_t, bo_f, wr_s, wr_n, wr_k, if_pos, if_neg, ↓reduceIte, Nat.reduceAdd, Nat.reduceMul, Nat.reduceSub, Nat.reduceEqDiff, Int.reduceToNat, Int.toNat_natCast, Int.reduceNeg, Int.reduceAdd, Int.reduceSub, Int.reduceMul, sg, n8, gd, gd2, gdT, cl, ir, rn, r4, q1, q2, e1, e2, q3]
        rw [ep]
        refine ⟨M', y1, ?_⟩
        rcases y2 with ⟨z1, z2, z3⟩ | ⟨z1, z2, z3⟩
        · exact Or.inl ⟨z1, (lp_i eb).trans z2, z3⟩
        · exact Or.inr ⟨z1, (lp_i eb).trans z2, z3⟩
      | false =>
        rw [hr, if_neg (by decide)] at e1
        have ep : pLoop (hB B n) lv g (k + 1) a c v = pF (g (a + 1)).2.1 := by
          show (if sgn lv (hB B n a) = true then (if (g (a + 1)).1 = true then _ else _) else _) = _
          rw [if_pos cs, hr, if_neg (by decide)]
        rw [ep]
        refine ⟨M1, Fw.trans F1, Or.inr ⟨rfl, lp_r ?_, o2 hr⟩⟩
        show fX1_readLevel_B39 gU gL 80 17 (iI lv) (iI op) (iI most) (iI ((most - (k + 1) : Nat) : Int)) M = _
        unfold fX1_readLevel_B39
        simp (disch := omega) only [il_0, il_1, il_2, il_3, il_4, il_5, il_6, il_7, il_8, il_9, il_10, il_11, il_12, il_13, il_16, il_20, il_30, il_31, il_32, il_33, il_36, il_37, il_38, il_40, il_41, il_42, il_43, il_45, il_47, il_48, il_50, il_57, il_60, il_61, il_62, il_70, il_71, il_79, il_80, il_97, il_98, il_99, il_100, il_107, il_110, il_111, il_114, il_115, il_116, il_121, il_124, il_128, il_130, il_140, il_160, il_255, il_399, il_540, il_590, il_610, il_999, il_1000, il_1250, il_10000, il_12345, il_99999, il_1000000, il_1103515245, ll_0, ll_1, ll_2, ll_3, ll_4, ll_5, ll_6, ll_7, ll_8, ll_9, ll_30, ll_48, ll_50, ll_57, ll_99, ll_100, ll_255, ll_399, ll_999, ll_99999, nq_bs, nq_ltS, nq_b2S, b2_id, bi_id, iI_add, iI_sub, iI_mul, iI_neg, lI_neg, iI_64, iI_lt, iI_le, iI_eq, iI_ag, iI_as, iI_ar, iI_dv, iI_rem, isOut8, in9, bo_nz, bo_t, bo_f, wr_s, wr_n, wr_k, if_pos, if_neg, ↓reduceIte, Nat.reduceAdd, Nat.reduceMul, Nat.reduceSub, Nat.reduceEqDiff, Int.reduceToNat, Int.toNat_natCast, Int.reduceNeg, Int.reduceAdd, Int.reduceSub, Int.reduceMul, sg, n8, gd, gd2, gdT, cl, ir, rn, r4, q1, q2, e1]
    · have cs' : sgn lv (nx (hB B n) a) = false := by
        unfold nx
        split
        · have : lv = 0 ∨ lv = 1 ∨ lv = 2 ∨ lv = 3 ∨ lv = 4 := by omega
          rcases this with rfl | rfl | rfl | rfl | rfl <;> rfl
        · simpa using cs
      have rn : r < iI 0 := r0.mpr cs'
      have ep : pLoop (hB B n) lv g (k + 1) a c v = (true, a, c, v) := by
        show (if sgn lv (hB B n a) = true then _ else _) = _
        rw [if_neg cs]
      rw [ep]
      refine ⟨M, hF, Or.inl ⟨rfl, lp_r ?_, hS⟩⟩
      show fX1_readLevel_B39 gU gL 80 17 (iI lv) (iI op) (iI most) (iI ((most - (k + 1) : Nat) : Int)) M = _
      unfold fX1_readLevel_B39
      simp (disch := omega) only [il_0, il_1, il_2, il_3, il_4, il_5, il_6, il_7, il_8, il_9, il_10, il_11, il_12, il_13, il_16, il_20, il_30, il_31, il_32, il_33, il_36, il_37, il_38, il_40, il_41, il_42, il_43, il_45, il_47, il_48, il_50, il_57, il_60, il_61, il_62, il_70, il_71, il_79, il_80, il_97, il_98, il_99, il_100, il_107, il_110, il_111, il_114, il_115, il_116, il_121, il_124, il_128, il_130, il_140, il_160, il_255, il_399, il_540, il_590, il_610, il_999, il_1000, il_1250, il_10000, il_12345, il_99999, il_1000000, il_1103515245, ll_0, ll_1, ll_2, ll_3, ll_4, ll_5, ll_6, ll_7, ll_8, ll_9, ll_30, ll_48, ll_50, ll_57, ll_99, ll_100, ll_255, ll_399, ll_999, ll_99999, nq_bs, nq_ltS, nq_b2S, b2_id, bi_id, iI_add, iI_sub, iI_mul, iI_neg, lI_neg, iI_64, iI_lt, iI_le, iI_eq, iI_ag, iI_as, iI_ar, iI_dv, iI_rem, isOut8, in9, bo_nz, bo_t, bo_f, wr_s, wr_n, wr_k, if_pos, if_neg, ↓reduceIte, Nat.reduceAdd, Nat.reduceMul, Nat.reduceSub, Nat.reduceEqDiff, Int.reduceToNat, Int.toNat_natCast, Int.reduceNeg, Int.reduceAdd, Int.reduceSub, Int.reduceMul, sg, n8, gd, gd2, gdT, cl, ir, rn]
