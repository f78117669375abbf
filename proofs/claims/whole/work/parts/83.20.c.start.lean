/-! 20.c: the start -/
def D00 : Nat → Int := fun j => if j = 4 then 1 else if j = 5 then 20 else if j = 6 then 2 else if j = 8 then 1 else if 60 ≤ j ∧ j < 66 then -1 else 0
theorem D00_0 {j : Nat} (h : j ≠ 4 ∧ j ≠ 5 ∧ j ≠ 6 ∧ j ≠ 8 ∧ ¬ (60 ≤ j ∧ j < 66)) : D00 j = 0 := by
  unfold D00
  rw [if_neg h.1, if_neg h.2.1, if_neg h.2.2.1, if_neg h.2.2.2.1, if_neg h.2.2.2.2]
theorem D00_a {j : Nat} (h : j < 6) : D00 (60 + j) = -1 := by
  unfold D00
  rw [if_neg (by omega), if_neg (by omega), if_neg (by omega), if_neg (by omega), if_pos (by omega)]
theorem row0 (j : Nat) : mfX9_init 1 j = iI (D00 j) := by
  unfold mfX9_init
  by_cases c : j = 4 ∨ j = 5 ∨ j = 6 ∨ j = 8 ∨ j = 60 ∨ j = 61 ∨ j = 62 ∨ j = 63 ∨ j = 64 ∨ j = 65
  · rcases c with rfl | rfl | rfl | rfl | rfl | rfl | rfl | rfl | rfl | rfl <;> simp (disch := omega) only [wr_s, wr_n] <;> decide
  · simp (disch := omega) only [wr_n]
    rw [D00_0 (by omega)]
    rfl
theorem near0 : nearN D00 = fun _ => 0 := by
  funext j
  unfold nearN
  by_cases c : 60 ≤ 20 + j ∧ 20 + j < 66
  · obtain ⟨i, hi⟩ : ∃ i, 20 + j = 60 + i := ⟨20 + j - 60, by omega⟩
    rw [hi, D00_a (by omega)]
    rfl
  · rw [D00_0 (by omega)]
    rfl
theorem arr0 : arrL D00 = [] := by
  unfold arrL
  rw [show (D00 2).toNat = 0 from rfl, List.range_zero]
  simp
theorem start : RR mfX8_init mfX9_init := by
  refine ⟨⟨D00, fun j _ => row0 j, ?_, ?_, ?_, ?_, ?_⟩, rfl, fun c => absurd rfl c, ?_⟩
  · refine ⟨⟨by decide +kernel, by decide +kernel, by decide +kernel, by decide +kernel, by decide +kernel, by decide +kernel, by decide +kernel, by decide +kernel⟩, by decide, by decide, by decide, by decide, by decide, by decide, by decide, by decide, by decide⟩
  · refine ⟨by decide +kernel, by decide, ?_, ?_, ?_⟩
    · intro j hj
      by_cases c : 60 ≤ 20 + j ∧ 20 + j < 66
      · omega
      · rw [D00_0 (by omega)]
        exact ⟨rfl, by omega, by omega⟩
    · intro a ha
      exact D00_0 (by omega)
    · intro j hj
      rw [near0]
      show mlr (fun _ => 0) (fun _ => 0) 6 0 j = _
      unfold mlr
      rw [if_pos hj, if_neg (Nat.not_lt_zero j)]
  · refine ⟨by decide +kernel, by decide, ?_, ?_, ?_, ?_⟩
    · intro w hw f hf
      rw [D00_0 (by omega)]
      have hc : f = 0 ∨ f = 1 ∨ f = 2 ∨ f = 3 ∨ f = 4 ∨ f = 5 ∨ f = 6 ∨ f = 7 := by omega
      rcases hc with rfl | rfl | rfl | rfl | rfl | rfl | rfl | rfl <;> rfl
    · rw [arr0]; decide +kernel
    · rw [arr0]; intro i hi; exact absurd hi (by simp)
    · intro w hw
      exact absurd hw (by rw [show D00 2 = 0 from rfl]; omega)
  · refine ⟨?_, ?_, ?_, ?_, ?_⟩
    · intro j hj
      rw [D00_0 (by omega)]
      exact ⟨rfl, by omega, by omega⟩
    · intro j hj
      rw [D00_a hj]
      have hc : j = 0 ∨ j = 1 ∨ j = 2 ∨ j = 3 ∨ j = 4 ∨ j = 5 := by omega
      refine ⟨?_, by omega, by omega, by decide, by decide, by decide, by decide, by decide⟩
      rcases hc with rfl | rfl | rfl | rfl | rfl | rfl <;> decide +kernel
    · intro j hj
      rw [D00_0 (by omega)]
      exact ⟨rfl, by omega, by omega⟩
    · intro j hj
      rw [D00_0 (by omega), D00_0 (by omega)]
      exact ⟨rfl, rfl, by omega, by omega, by omega, by omega⟩
    · intro j hj
      rw [D00_0 (by omega)]
      exact ⟨rfl, by omega⟩
  · intro u hu
    left
    refine ⟨D00_0 (by omega), ?_⟩
    have hc : u = 0 ∨ u = 1 ∨ u = 2 ∨ u = 3 ∨ u = 4 ∨ u = 5 ∨ u = 6 ∨ u = 7 := by omega
    rcases hc with rfl | rfl | rfl | rfl | rfl | rfl | rfl | rfl <;> decide +kernel
  · refine ⟨fun j _ => rfl, ⟨0, by omega, by decide +kernel, by decide +kernel⟩, fun j _ => rfl, ?_⟩
    intro i hi
    have hc : i = 0 ∨ i = 1 ∨ i = 2 ∨ i = 3 := by omega
    rcases hc with rfl | rfl | rfl | rfl
    · exact ⟨rfl, ⟨0, by omega, by decide +kernel, rfl⟩, fun k _ => rfl⟩
    · exact ⟨rfl, ⟨0, by omega, by decide +kernel, rfl⟩, fun k _ => rfl⟩
    · exact ⟨rfl, ⟨0, by omega, by decide +kernel, rfl⟩, fun k _ => rfl⟩
    · exact ⟨rfl, ⟨0, by omega, by decide +kernel, rfl⟩, fun k _ => rfl⟩
