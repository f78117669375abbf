/-! 12.c: loops that put numbers one behind the other -/
def rg (M : Mem) (p b n : Nat) (v : Nat → Int32) : Mem := va_up M p (fun j => if b ≤ j ∧ j < b + n then v (j - b) else M p j)
theorem rg_s {M : Mem} {p b n a j : Nat} {v : Nat → Int32} (h : a = p ∧ b ≤ j ∧ j < b + n) : rg M p b n v a j = v (j - b) := by
  obtain ⟨rfl, h1⟩ := h
  simp only [rg, nq_up_s]; rw [if_pos h1]
theorem rg_n {M : Mem} {p b n a j : Nat} {v : Nat → Int32} (h : a ≠ p ∨ ¬ (b ≤ j ∧ j < b + n)) : rg M p b n v a j = M a j := by
  by_cases e : a = p
  · subst e
    rcases h with h | h
    · exact absurd rfl h
    · simp only [rg, nq_up_s]; rw [if_neg h]
  · simp only [rg]; rw [nq_up_n e]
theorem rg_k {M : Mem} {p b n a : Nat} {v : Nat → Int32} (h : a ≠ p) : rg M p b n v a = M a := by
  simp only [rg]; rw [nq_up_n h]
theorem rg_0 {M : Mem} {p b : Nat} {v : Nat → Int32} : rg M p b 0 v = M := by
  funext a j
  exact rg_n (Or.inr (by omega))
theorem mem_ext {M M' : Mem} (h : ∀ a j, M a j = M' a j) : M = M' := by funext a j; exact h a j
theorem rg_1 {M : Mem} {p b n : Nat} {v : Nat → Int32} : nq_wr (rg M p b n v) p (b + n) (v n) = rg M p b (n + 1) v := by
  apply mem_ext
  intro a j
  by_cases ha : a = p
  · subst ha
    by_cases hj : j = b + n
    · subst hj; rw [wr_s ⟨rfl, rfl⟩, rg_s ⟨rfl, by omega, by omega⟩]; congr 1; omega
    · rw [wr_n (Or.inr hj)]
      by_cases h : b ≤ j ∧ j < b + n
      · rw [rg_s ⟨rfl, h⟩, rg_s ⟨rfl, by omega⟩]
      · rw [rg_n (Or.inr h), rg_n (Or.inr (by omega))]
  · rw [wr_n (Or.inl ha), rg_n (Or.inl ha), rg_n (Or.inl ha)]
theorem lp_rg {body : Int32 × Mem → Option ((Int32 × Mem) ⊕ Mem)} {M : Mem} (p b n : Nat) (v : Nat → Int32) (hn : n < 1000000)
    (hs : ∀ k, k < n → body (iI k, rg M p b k v) = some (.inl (iI ((k + 1 : Nat) : Int), nq_wr (rg M p b k v) p (b + k) (v k))))
    (he : body (iI n, rg M p b n v) = some (.inr (rg M p b n v))) : nq_lp body nq_fuel (iI 0, M) = some (rg M p b n v) := by
  obtain ⟨r, h1, h2⟩ := nq_for0 (body := body) n (fun k s => s = (iI k, rg M p b k v)) (fun r => r = rg M p b n v) (s := (iI 0, M)) hn (by rw [rg_0]; rfl)
    (by
      rintro k s hk rfl
      left
      refine ⟨_, hs k hk, ?_⟩
      rw [rg_1])
    (by
      rintro s rfl
      exact ⟨_, he, rfl⟩)
  rw [h1, h2]
theorem fl_s {M : Mem} {k n a j : Nat} {x : Int32} (h : a = k ∧ j < n) : nq_fl M k n x a j = x := by
  obtain ⟨rfl, h1⟩ := h
  simp only [nq_fl, nq_up_s]; rw [if_pos h1]
theorem fl_n {M : Mem} {k n a j : Nat} {x : Int32} (h : a ≠ k ∨ ¬ j < n) : nq_fl M k n x a j = M a j := by
  by_cases e : a = k
  · subst e
    rcases h with h | h
    · exact absurd rfl h
    · simp only [nq_fl, nq_up_s]; rw [if_neg h]
  · simp only [nq_fl]; rw [nq_up_n e]
theorem fl_k {M : Mem} {k n a : Nat} {x : Int32} (h : a ≠ k) : nq_fl M k n x a = M a := by
  simp only [nq_fl]; rw [nq_up_n h]
/-- so many numbers of one row become those of another -/
theorem cp_all {M : Mem} {k n k2 n2 : Nat} {c : Int} (h0 : 0 ≤ c) (h1 : c ≤ n) (h2 : c ≤ n2) (hn : n ≤ 1000000) : nq_cp M k n (iI 0) k2 n2 (iI 0) (iI c) = some (rg M k2 0 c.toNat (M k)) := by
  unfold nq_cp
  simp (disch := omega) only [il_0, iI_lt, iI_clamp]
  rw [if_pos (by refine ⟨by omega, by omega, by omega⟩)]
  congr 1
  unfold rg va_cpy
  congr 1
  funext j
  simp
theorem cp_gen {M : Mem} {k n k2 n2 : Nat} {s d c : Int} (hs : 0 ≤ s) (hd : 0 ≤ d) (h0 : 0 ≤ c) (h1 : s + c ≤ n) (h2 : d + c ≤ n2) (hn : n ≤ 1000000) (hn2 : n2 ≤ 1000000) : nq_cp M k n (iI s) k2 n2 (iI d) (iI c) = some (rg M k2 d.toNat c.toNat (fun j => M k (s.toNat + j))) := by
  unfold nq_cp
  simp (disch := omega) only [il_0, iI_lt, iI_clamp]
  rw [if_pos (by refine ⟨by omega, by omega, by omega⟩)]
  congr 1
