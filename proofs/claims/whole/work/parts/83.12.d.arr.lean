/-! 12.d: words as they come -/
theorem bucket_perm (n : Nat) (f : Nat → Int) : ∀ Y : Nat, ((List.range Y).flatMap fun (y : Nat) => (List.range n).filter fun w => decide (f w = (y : Int))).Perm ((List.range n).filter fun w => decide (0 ≤ f w ∧ f w < (Y : Int))) := by
  intro Y
  induction Y with
  | zero =>
    have : (List.range n).filter (fun w => decide (0 ≤ f w ∧ f w < ((0 : Nat) : Int))) = [] := by
      rw [List.filter_eq_nil_iff]
      intro w _
      simp only [decide_eq_true_eq]; omega
    rw [this]; exact List.Perm.refl _
  | succ Y ih =>
    rw [List.range_succ, List.flatMap_append]
    simp only [List.flatMap_cons, List.flatMap_nil, List.append_nil]
    have e1 := (ih.append_right ((List.range n).filter fun w => decide (f w = (Y : Int))))
    refine e1.trans ?_
    have h2 := List.filter_append_perm (fun w => decide (f w < (Y : Int))) ((List.range n).filter fun w => decide (0 ≤ f w ∧ f w < ((Y + 1 : Nat) : Int)))
    rw [List.filter_filter, List.filter_filter] at h2
    refine List.Perm.trans (List.Perm.of_eq ?_) h2
    congr 1
    · apply List.filter_congr; intro w _; rw [Bool.eq_iff_iff]; simp only [decide_eq_true_eq, Bool.and_eq_true]; omega
    · apply List.filter_congr; intro w _; rw [Bool.eq_iff_iff]; simp only [decide_eq_true_eq, Bool.and_eq_true, Bool.not_eq_true', decide_eq_false_iff_not]; omega
theorem arrL_perm (D : Nat → Int) : (arrL D).Perm ((List.range (D 2).toNat).filter fun w => decide (0 ≤ D (615 + 8 * w) ∧ D (615 + 8 * w) < ((11000 : Nat) : Int))) := bucket_perm _ (fun w => D (615 + 8 * w)) 11000
theorem arrL_len {D : Nat → Int} (h : 0 ≤ D 2 ∧ D 2 ≤ 80) : (arrL D).length ≤ 80 := by
  have h1 := (arrL_perm D).length_eq
  have h2 := List.length_filter_le (fun w => decide (0 ≤ D (615 + 8 * w) ∧ D (615 + 8 * w) < ((11000 : Nat) : Int))) (List.range (D 2).toNat)
  rw [List.length_range] at h2
  omega
theorem arrL_mem {D : Nat → Int} {w : Nat} (h : w ∈ arrL D) : w < (D 2).toNat ∧ 0 ≤ D (615 + 8 * w) := by
  have := (arrL_perm D).mem_iff.mp h
  rw [List.mem_filter, List.mem_range, decide_eq_true_eq] at this
  exact ⟨this.1, this.2.1⟩
