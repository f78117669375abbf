/-! 10.a: ints as numbers of Z -/
def iI (z : Int) : Int32 := Int32.ofInt z
abbrev inR (z : Int) : Prop := -2147483648 ≤ z ∧ z ≤ 2147483647
def bo (p : Prop) [Decidable p] : Int32 := if p then 1 else 0
theorem iI_of (x : Int32) : ∃ z : Int, inR z ∧ x = iI z :=
  ⟨x.toInt, ⟨by have := x.le_toInt; omega, by have := x.toInt_lt; omega⟩, (Int32.ofInt_toInt x).symm⟩
theorem iI_toInt {z : Int} (h : inR z) : (iI z).toInt = z := Int32.toInt_ofInt_of_le (by omega) (by omega)
theorem iI_nat (n : Nat) : nI n = iI n := (Int32.ofInt_eq_ofNat).symm
theorem iI_add (a b : Int) : iI a + iI b = iI (a + b) := (Int32.ofInt_add a b).symm
theorem iI_sub (a b : Int) : iI a - iI b = iI (a - b) := (Int32.ofInt_sub a b).symm
theorem iI_mul (a b : Int) : iI a * iI b = iI (a * b) := (Int32.ofInt_mul a b).symm
theorem iI_neg (a : Int) : -iI a = iI (-a) := (Int32.ofInt_neg a).symm
theorem iI_lt {a b : Int} (ha : inR a) (hb : inR b) : iI a < iI b ↔ a < b := by
  rw [Int32.lt_iff_toInt_lt, iI_toInt ha, iI_toInt hb]
theorem iI_le {a b : Int} (ha : inR a) (hb : inR b) : iI a ≤ iI b ↔ a ≤ b := by
  rw [Int32.le_iff_toInt_le, iI_toInt ha, iI_toInt hb]
theorem iI_eq {a b : Int} (ha : inR a) (hb : inR b) : iI a = iI b ↔ a = b := by
  rw [← Int32.toInt_inj, iI_toInt ha, iI_toInt hb]
theorem iI_clamp {z : Int} (h : inR z) : (iI z).toNatClampNeg = z.toNat := by
  rw [← Int32.toNat_toInt, iI_toInt h]
theorem iI_inb {z : Int} {n : Nat} (h0 : 0 ≤ z) (h1 : z < n) (hn : n ≤ 2147483648) : nq_inb (iI z) n = true := by
  unfold nq_inb
  rw [iI_toInt (by omega)]
  simp [h0, h1]
theorem iI_ag {f : Nat → Int32} {n : Nat} {z : Int} (h0 : 0 ≤ z) (h1 : z < n) (hn : n ≤ 2147483648) : nq_ag f n (iI z) = some (f z.toNat) := by
  unfold nq_ag
  rw [if_pos (iI_inb h0 h1 hn), iI_clamp (by omega)]
theorem iI_as {M : Mem} {k n : Nat} {z : Int} {v : Int32} (h0 : 0 ≤ z) (h1 : z < n) (hn : n ≤ 2147483648) : nq_as M k n (iI z) v = some (nq_wr M k z.toNat v) := by
  unfold nq_as
  rw [if_pos (iI_inb h0 h1 hn), iI_clamp (by omega)]
theorem iI_ar {b n : Nat} {z : Int} (h0 : 0 ≤ z) (h1 : z < n) (hn : n ≤ 2147483648) : nq_ar b n (iI z) = some (b + 2 * z.toNat) := by
  unfold nq_ar
  rw [if_pos (iI_inb h0 h1 hn), iI_clamp (by omega)]
theorem iI_dv {a b : Int} (h0 : 0 ≤ a) (ha : a ≤ 2147483647) (hb : 0 < b) (hb2 : b ≤ 2147483647) : nq_dv (iI a) (iI b) = some (iI (a / b)) := by
  obtain ⟨m, rfl⟩ := Int.eq_ofNat_of_zero_le h0
  obtain ⟨n, rfl⟩ := Int.eq_ofNat_of_zero_le (show 0 ≤ b by omega)
  rw [← iI_nat, ← iI_nat, nq_dv_nI (by omega) (by omega) (by omega), iI_nat, Int.natCast_ediv]
theorem iI_rem {a b : Int} (h0 : 0 ≤ a) (ha : a ≤ 2147483647) (hb : 0 < b) (hb2 : b ≤ 2147483647) : nq_rem (iI a) (iI b) = some (iI (a % b)) := by
  obtain ⟨m, rfl⟩ := Int.eq_ofNat_of_zero_le h0
  obtain ⟨n, rfl⟩ := Int.eq_ofNat_of_zero_le (show 0 ≤ b by omega)
  rw [← iI_nat, ← iI_nat, nq_rem_nI (by omega) (by omega) (by omega), iI_nat, Int.natCast_emod]
def lI (z : Int) : Int64 := Int64.ofInt z
abbrev inL (z : Int) : Prop := -9223372036854775808 ≤ z ∧ z ≤ 9223372036854775807
theorem lI_toInt {z : Int} (h : inL z) : (lI z).toInt = z := Int64.toInt_ofInt_of_le (by omega) (by omega)
theorem iI_64 {z : Int} (h : inR z) : (iI z).toInt64 = lI z := by
  apply Int64.toInt_inj.mp
  rw [Int32.toInt_toInt64, iI_toInt h, lI_toInt (by omega)]
theorem lI_add (a b : Int) : lI a + lI b = lI (a + b) := (Int64.ofInt_add a b).symm
theorem lI_sub (a b : Int) : lI a - lI b = lI (a - b) := (Int64.ofInt_sub a b).symm
theorem lI_mul (a b : Int) : lI a * lI b = lI (a * b) := (Int64.ofInt_mul a b).symm
theorem lI_neg (a : Int) : -lI a = lI (-a) := (Int64.ofInt_neg a).symm
theorem lI_lt {a b : Int} (ha : inL a) (hb : inL b) : lI a < lI b ↔ a < b := by
  rw [Int64.lt_iff_toInt_lt, lI_toInt ha, lI_toInt hb]
theorem lI_eq {a b : Int} (ha : inL a) (hb : inL b) : lI a = lI b ↔ a = b := by
  rw [← Int64.toInt_inj, lI_toInt ha, lI_toInt hb]
theorem lgc_lt {x y : Int64} : lg_cmp x y < 0 ↔ x.toInt < y.toInt := by
  unfold lg_cmp
  simp only [gt_iff_lt, Int64.lt_iff_toInt_lt, ← Int64.toInt_inj]
  by_cases h1 : y.toInt < x.toInt
  · rw [if_pos h1]; constructor
    · intro h; exact absurd h (by decide)
    · intro h; omega
  · rw [if_neg h1]
    by_cases h2 : x.toInt = y.toInt
    · rw [if_pos h2]; constructor
      · intro h; exact absurd h (by decide)
      · intro h; omega
    · rw [if_neg h2]; constructor
      · intro _; omega
      · intro _; decide
theorem lgc_gt {x y : Int64} : 0 < lg_cmp x y ↔ y.toInt < x.toInt := by
  unfold lg_cmp
  simp only [gt_iff_lt, Int64.lt_iff_toInt_lt, ← Int64.toInt_inj]
  by_cases h1 : y.toInt < x.toInt
  · rw [if_pos h1]; constructor
    · intro _; exact h1
    · intro _; decide
  · rw [if_neg h1]
    by_cases h2 : x.toInt = y.toInt
    · rw [if_pos h2]; constructor
      · intro h; exact absurd h (by decide)
      · intro h; omega
    · rw [if_neg h2]; constructor
      · intro h; exact absurd h (by decide)
      · intro h; omega
theorem bo_t {p : Prop} [Decidable p] (h : p) : bo p = iI 1 := by
  unfold bo; rw [if_pos h]; rfl
theorem bo_f {p : Prop} [Decidable p] (h : ¬ p) : bo p = iI 0 := by
  unfold bo; rw [if_neg h]; rfl
theorem bo_0 {p : Prop} [Decidable p] : (bo p = iI 0) ↔ ¬ p := by
  by_cases h : p
  · rw [bo_t h]; constructor
    · intro e; exact absurd e (by decide)
    · intro e; exact absurd h e
  · rw [bo_f h]; exact ⟨fun _ => h, fun _ => rfl⟩
theorem bo_nz {p : Prop} [Decidable p] : nq_nz .boolean (bo p) = some (bo p) := by
  by_cases h : p
  · rw [bo_t h]; rfl
  · rw [bo_f h]; rfl
theorem bo_c {p q : Prop} [Decidable p] [Decidable q] (h : p ↔ q) : bo p = bo q := by
  by_cases hp : p
  · rw [bo_t hp, bo_t (h.mp hp)]
  · rw [bo_f hp, bo_f (fun k => hp (h.mpr k))]
theorem b2_id {α : Type} {o : Option (α × Mem)} : nq_b2 o (fun v M => some (v, M)) = o := by
  cases o <;> rfl
theorem bi_id {α : Type} {o : Option α} : o.bind (fun v => some v) = o := by
  cases o <;> rfl
theorem isOut8 {x lo hi : Int} {M : Mem} (hx : inR x) (hl : inR lo) (hh : inR hi) : fX8_isOutside (iI x) (iI lo) (iI hi) M = some (bo (x < lo ∨ hi < x)) := by
  unfold fX8_isOutside
  simp only [iI_lt hx hl, iI_le hx hh]
  by_cases h1 : x < lo
  · rw [if_pos h1, bo_t (by omega)]; rfl
  · rw [if_neg h1]
    by_cases h2 : x ≤ hi
    · rw [if_pos h2, bo_f (by omega)]; rfl
    · rw [if_neg h2, bo_t (by omega)]; rfl
theorem in9 {x lo hi : Int} {M : Mem} (hx : inL x) (hl : inL lo) (hh : inL hi) : fX9_in (lI x) (lI lo) (lI hi) M = some (bo (lo ≤ x ∧ x ≤ hi)) := by
  unfold fX9_in
  simp only [lgc_lt, lgc_gt, lI_toInt hx, lI_toInt hl, lI_toInt hh]
  by_cases h1 : x < lo
  · rw [if_pos h1, bo_f (by omega)]; rfl
  · rw [if_neg h1]
    by_cases h2 : hi < x
    · rw [if_pos h2, bo_f (by omega)]; rfl
    · rw [if_neg h2, bo_t (by omega)]; rfl
theorem wr_s {M : Mem} {k i a j : Nat} {v : Int32} (h : a = k ∧ j = i) : nq_wr M k i v a j = v := by
  obtain ⟨rfl, rfl⟩ := h; simp [nq_wr, va_up, upd]
theorem wr_n {M : Mem} {k i a j : Nat} {v : Int32} (h : a ≠ k ∨ j ≠ i) : nq_wr M k i v a j = M a j := by
  simp only [nq_wr, va_up]
  by_cases ha : a = k
  · subst ha
    rw [if_pos rfl]
    rcases h with h | h
    · exact absurd rfl h
    · simp [upd, h]
  · rw [if_neg ha]
theorem wr_k {M : Mem} {k i a : Nat} {v : Int32} (h : a ≠ k) : nq_wr M k i v a = M a := by
  simp [nq_wr, va_up, h]
theorem wr_e {M : Mem} {k i : Nat} {v : Int32} : nq_wr M k i v k = upd (M k) i v := by
  simp [nq_wr, va_up]
theorem upd_s {f : Nat → Int32} {i j : Nat} {v : Int32} (h : j = i) : upd f i v j = v := by
  subst h; simp [upd]
theorem upd_n {f : Nat → Int32} {i j : Nat} {v : Int32} (h : j ≠ i) : upd f i v j = f j := by
  simp [upd, h]
