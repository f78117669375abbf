/-! 10.a: guards: what both sides ask of their numbers -/
theorem nq_ag_lit {f : Nat → Int32} {k n : Nat} (h : k < n) (hn : n ≤ 2147483648) : nq_ag f n (OfNat.ofNat k : Int32) = some (f k) := nq_ag_nI h hn
theorem nq_as_lit {M : Mem} {p k n : Nat} {v : Int32} (h : k < n) (hn : n ≤ 2147483648) : nq_as M p n (OfNat.ofNat k : Int32) v = some (nq_wr M p k v) := nq_as_nI h hn
theorem nq_wr_s {M : Mem} {k i : Nat} {v : Int32} : nq_wr M k i v k i = v := by simp [nq_wr, va_up, upd]
theorem nq_wr_n {M : Mem} {k i a j : Nat} {v : Int32} (h : a ≠ k ∨ j ≠ i) : nq_wr M k i v a j = M a j := by
  simp only [nq_wr, va_up]
  by_cases ha : a = k
  · subst ha
    rw [if_pos rfl]
    rcases h with h | h
    · exact absurd rfl h
    · simp [upd, h]
  · rw [if_neg ha]
theorem nq_wr_k {M : Mem} {k i a : Nat} {v : Int32} (h : a ≠ k) : nq_wr M k i v a = M a := by
  simp [nq_wr, va_up, h]
theorem nq_wr_e {M : Mem} {k i : Nat} {v : Int32} : nq_wr M k i v k = upd (M k) i v := by
  simp [nq_wr, va_up]
theorem isOut_eq {x lo hi : Int32} {M : Mem} : fX8_isOutside x lo hi M = some (if lo.toInt ≤ x.toInt ∧ x.toInt ≤ hi.toInt then 0 else 1) := by
  unfold fX8_isOutside
  rw [Int32.lt_iff_toInt_lt, Int32.le_iff_toInt_le]
  by_cases h1 : x.toInt < lo.toInt
  · rw [if_pos h1, if_neg (by omega)]
  · rw [if_neg h1]
    by_cases h2 : x.toInt ≤ hi.toInt
    · rw [if_pos h2, if_pos (by omega)]
    · rw [if_neg h2, if_neg (by omega)]
theorem lgc_lt {x y : Int64} : lg_cmp x y < 0 ↔ x.toInt < y.toInt := by
  unfold lg_cmp
  simp only [gt_iff_lt, Int64.lt_iff_toInt_lt, ← Int64.toInt_inj]
  by_cases h1 : y.toInt < x.toInt
  · rw [if_pos h1]; constructor
    · intro h; exact absurd h (by decide)
    · intro h; omega
  · rw [if_neg h1]
    by_cases h2 : x.toInt = y.toInt
    · rw [if_pos h2]; constructor
      · intro h; exact absurd h (by decide)
      · intro h; omega
    · rw [if_neg h2]; constructor
      · intro _; omega
      · intro _; decide
theorem lgc_gt {x y : Int64} : 0 < lg_cmp x y ↔ y.toInt < x.toInt := by
  unfold lg_cmp
  simp only [gt_iff_lt, Int64.lt_iff_toInt_lt, ← Int64.toInt_inj]
  by_cases h1 : y.toInt < x.toInt
  · rw [if_pos h1]; constructor
    · intro _; exact h1
    · intro _; decide
  · rw [if_neg h1]
    by_cases h2 : x.toInt = y.toInt
    · rw [if_pos h2]; constructor
      · intro h; exact absurd h (by decide)
      · intro h; omega
    · rw [if_neg h2]; constructor
      · intro h; exact absurd h (by decide)
      · intro h; omega
theorem in_eq {x lo hi : Int64} {M : Mem} : fX9_in x lo hi M = some (if lo.toInt ≤ x.toInt ∧ x.toInt ≤ hi.toInt then 1 else 0) := by
  unfold fX9_in
  by_cases h1 : x.toInt < lo.toInt
  · rw [if_pos (lgc_lt.mpr h1), if_neg (by omega)]
  · rw [if_neg (fun h => h1 (lgc_lt.mp h))]
    by_cases h2 : hi.toInt < x.toInt
    · rw [if_pos (lgc_gt.mpr h2), if_neg (by omega)]
    · rw [if_neg (fun h => h2 (lgc_gt.mp h)), if_pos (by omega)]
theorem nz_b {p : Prop} [Decidable p] : nq_nz .boolean (if p then (1 : Int32) else 0) = some (if p then (1 : Int32) else 0) := by
  by_cases h : p
  · rw [if_pos h]; rfl
  · rw [if_neg h]; rfl
theorem bv_0 {p : Prop} [Decidable p] : ((if p then (1 : Int32) else 0) = 0) ↔ ¬ p := by
  by_cases h : p
  · rw [if_pos h]; constructor
    · intro e; exact absurd e (by decide)
    · intro e; exact absurd h e
  · rw [if_neg h]; exact ⟨fun _ => h, fun _ => rfl⟩
theorem bw_0 {p : Prop} [Decidable p] : ((if p then (0 : Int32) else 1) = 0) ↔ p := by
  by_cases h : p
  · rw [if_pos h]; exact ⟨fun _ => h, fun _ => rfl⟩
  · rw [if_neg h]; constructor
    · intro e; exact absurd e (by decide)
    · intro e; exact absurd e h
theorem flip_b {p : Prop} [Decidable p] : (if (if p then (0 : Int32) else 1) = 0 then some (1 : Int32) else some 0) = some (if p then (1 : Int32) else 0) := by
  by_cases h : p
  · simp [h]
  · simp [h]
theorem nI_m1 {n : Nat} (h : n < 2 ^ 30) : (nI n - 1).toInt = (n : Int) - 1 := by
  have := pk_sub_toInt (a := n) (b := 1) h (by omega)
  exact this
/-- in a range from 0 on -/
abbrev bI (x : Int32) (n : Nat) : Prop := 0 ≤ x.toInt ∧ x.toInt < n
theorem isPlace8 {x : Int32} {M : Mem} {n : Nat} (h : M 3 0 = nI n) (hn : n < 2 ^ 30) : fX8_isPlace x M = some (if bI x n then 1 else 0) := by
  unfold fX8_isPlace
  simp only [nq_ltS, isOut_eq, nq_bs, flip_b, h, nI_m1 hn]
  congr 1
  have : (0 : Int32).toInt = 0 := rfl
  simp only [bI, this]
  congr 1
  exact propext (by omega)
theorem isPlace9 {x : Int32} {M : Mem} {n : Nat} (h : M 1 1 = nI n) (hn : n < 2 ^ 30) : fX9_isPlace x M = some (if bI x n then 1 else 0) := by
  unfold fX9_isPlace
  rw [nq_ag_lit (by omega) (by omega)]
  simp only [nq_bs, in_eq, nz_b, h, Int32.toInt_toInt64, nI_m1 hn]
  congr 1
  have : (0 : Int64).toInt = 0 := rfl
  simp only [bI, this]
  congr 1
  exact propext (by omega)
theorem isWord8 {x : Int32} {M : Mem} {n : Nat} (h : M 6 0 = nI n) (hn : n < 2 ^ 30) : fX8_isWord x M = some (if bI x n then 1 else 0) := by
  unfold fX8_isWord
  simp only [nq_ltS, isOut_eq, nq_bs, flip_b, h, nI_m1 hn]
  congr 1
  have : (0 : Int32).toInt = 0 := rfl
  simp only [bI, this]
  congr 1
  exact propext (by omega)
theorem isWord9 {x : Int32} {M : Mem} {n : Nat} (h : M 1 2 = nI n) (hn : n < 2 ^ 30) : fX9_isWord x M = some (if bI x n then 1 else 0) := by
  unfold fX9_isWord
  rw [nq_ag_lit (by omega) (by omega)]
  simp only [nq_bs, in_eq, nz_b, h, Int32.toInt_toInt64, nI_m1 hn]
  congr 1
  have : (0 : Int64).toInt = 0 := rfl
  simp only [bI, this]
  congr 1
  exact propext (by omega)
theorem isPact8 {x : Int32} {M : Mem} : fX8_isPact x M = some (if bI x 4 then 1 else 0) := by
  unfold fX8_isPact
  simp only [isOut_eq, nq_bs, flip_b]
  congr 1
  have e0 : (0 : Int32).toInt = 0 := rfl
  have e3 : (3 : Int32).toInt = 3 := rfl
  simp only [bI, e0, e3]
  congr 1
  exact propext (by omega)
theorem isPact9 {x : Int32} {M : Mem} : fX9_isPact x M = some (if bI x 4 then 1 else 0) := by
  unfold fX9_isPact
  simp only [nq_bs, in_eq, nz_b, Int32.toInt_toInt64]
  congr 1
  have e0 : (0 : Int64).toInt = 0 := rfl
  have e3 : (3 : Int64).toInt = 3 := rfl
  simp only [bI, e0, e3]
  congr 1
  exact propext (by omega)
theorem isSheet8 {x : Int32} {M : Mem} : fX8_isSheet x M = some (if bI x 4 then 1 else 0) := by
  have h := isPact8 (x := x) (M := M)
  unfold fX8_isPact at h
  unfold fX8_isSheet
  exact h
theorem isSheet9 {x : Int32} {M : Mem} : fX9_isSheet x M = some (if bI x 4 then 1 else 0) := by
  have h := isPact9 (x := x) (M := M)
  unfold fX9_isPact at h
  unfold fX9_isSheet
  exact h
theorem areTwo8 {a b : Int32} {M : Mem} {n : Nat} (h : M 3 0 = nI n) (hn : n < 2 ^ 30) : fX8_areTwo a b M = some (if bI a n ∧ bI b n ∧ a ≠ b then 1 else 0) := by
  unfold fX8_areTwo
  rw [isPlace8 h hn, isPlace8 h hn]
  simp only [nq_bs, bv_0]
  by_cases h1 : bI a n
  · by_cases h2 : bI b n
    · by_cases h3 : a = b
      · simp [h1, h2, h3]
      · simp [h1, h2, h3]
    · simp [h1, h2]
  · simp [h1]
theorem areTwo9 {a b : Int32} {M : Mem} {n : Nat} (h : M 1 1 = nI n) (hn : n < 2 ^ 30) : fX9_areTwo a b M = some (if bI a n ∧ bI b n ∧ a ≠ b then 1 else 0) := by
  unfold fX9_areTwo
  rw [isPlace9 h hn, isPlace9 h hn]
  simp only [nq_bs, bv_0]
  by_cases h1 : bI a n
  · by_cases h2 : bI b n
    · by_cases h3 : a = b
      · simp [h1, h2, h3]
      · simp [h1, h2, h3]
    · simp [h1, h2]
  · simp [h1]
