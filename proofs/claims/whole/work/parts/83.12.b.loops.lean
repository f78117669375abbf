/-! 12.b: loops as folds -/
theorem lp_fold {σ ρ α : Type} {body : σ → Option (σ ⊕ ρ)} (st : Nat → α → σ) (out : α → ρ) (g : α → Nat → α) (n : Nat) (P : Nat → α → Prop) (hn : n < 1000000)
    (hs : ∀ k a, k < n → P k a → body (st k a) = some (.inl (st (k + 1) (g a k))) ∧ P (k + 1) (g a k))
    (he : ∀ a, P n a → body (st n a) = some (.inr (out a))) (a0 : α) (h0 : P 0 a0) :
    nq_lp body nq_fuel (st 0 a0) = some (out ((List.range n).foldl g a0)) ∧ P n ((List.range n).foldl g a0) := by
  obtain ⟨r, h1, h2, h3⟩ := nq_for0 (body := body) n (fun k s => s = st k ((List.range k).foldl g a0) ∧ P k ((List.range k).foldl g a0)) (fun r => r = out ((List.range n).foldl g a0) ∧ P n ((List.range n).foldl g a0)) (s := st 0 a0) hn ⟨rfl, h0⟩
    (by
      rintro k s hk ⟨rfl, hP⟩
      left
      obtain ⟨e, hP'⟩ := hs k _ hk hP
      refine ⟨_, e, ?_, ?_⟩
      · rw [List.range_succ, List.foldl_append]; rfl
      · rw [List.range_succ, List.foldl_append]; exact hP')
    (by
      rintro s ⟨rfl, hP⟩
      exact ⟨_, he _ hP, rfl, hP⟩)
  rw [h1, h2]
  exact ⟨rfl, h3⟩
theorem lp_find {σ ρ₁ ρ₂ : Type} {body : σ → Option (σ ⊕ (ρ₁ ⊕ ρ₂))} (st : Nat → σ) (e : ρ₁) (res : Nat → ρ₂) (c : Nat → Bool) (n : Nat) (hn : n < 1000000)
    (hs : ∀ k, k < n → body (st k) = if c k = true then some (.inr (.inr (res k))) else some (.inl (st (k + 1))))
    (he : body (st n) = some (.inr (.inl e))) :
    nq_lp body nq_fuel (st 0) = some (match (List.range n).find? c with | some k => .inr (res k) | none => .inl e) := by
  obtain ⟨r, h1, h2⟩ := nq_for0 (body := body) n (fun k s => s = st k ∧ ∀ j, j < k → c j = false) (fun r => r = match (List.range n).find? c with | some k => .inr (res k) | none => .inl e) (s := st 0) hn ⟨rfl, fun j hj => absurd hj (by omega)⟩
    (by
      rintro k s hk ⟨rfl, hP⟩
      have := hs k hk
      cases hc : c k with
      | true =>
        right
        rw [hc, if_pos rfl] at this
        refine ⟨_, this, ?_⟩
        have : (List.range n).find? c = some k := by
          rw [List.find?_range_eq_some]
          exact ⟨hc, by simpa using hk, fun j hj => by simp [hP j hj]⟩
        rw [this]
      | false =>
        left
        rw [hc, if_neg (by decide)] at this
        refine ⟨_, this, rfl, ?_⟩
        intro j hj
        by_cases e : j = k
        · subst e; exact hc
        · exact hP j (by omega))
    (by
      rintro s ⟨rfl, hP⟩
      refine ⟨_, he, ?_⟩
      have : (List.range n).find? c = none := by
        rw [List.find?_range_eq_none]
        intro j hj
        simp [hP j hj]
      rw [this])
  rw [h1, h2]
theorem foldl_cong {α β : Type} {f g : α → β → α} {l : List β} (h : ∀ a b, b ∈ l → f a b = g a b) : ∀ a, l.foldl f a = l.foldl g a := by
  induction l with
  | nil => intro a; rfl
  | cons b l ih =>
    intro a
    simp only [List.foldl_cons]
    rw [h a b (by simp)]
    exact ih (fun a' b' hb => h a' b' (by simp [hb])) _
