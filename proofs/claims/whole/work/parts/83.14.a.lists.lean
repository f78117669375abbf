/-! 14.a: loops over lists; words that have come -/
theorem lp_list_aux {σ ρ α : Type} {body : σ → Option (σ ⊕ ρ)} (st : Nat → α → σ) (out : α → ρ) (g : α → Nat → α) (A : List Nat) (p : Nat → Bool) (P : α → Prop)
    (hs : ∀ k a, k < A.length → P a → body (st k a) = if p (A.getD k 0) = true then some (.inl (st (k + 1) (g a (A.getD k 0)))) else some (.inr (out a)))
    (hP : ∀ a w, w ∈ A → P a → P (g a w))
    (he : ∀ a, P a → body (st A.length a) = some (.inr (out a))) : ∀ (m fuel k : Nat) (a : α), k + m = A.length → m < fuel → P a → nq_lp body fuel (st k a) = some (out (((A.drop k).takeWhile p).foldl g a)) := by
  intro m
  induction m with
  | zero =>
    intro fuel k a hk hf hPa
    obtain ⟨f, rfl⟩ : ∃ f, fuel = f + 1 := ⟨fuel - 1, by omega⟩
    have : k = A.length := by omega
    subst this
    unfold nq_lp
    rw [he a hPa]
    simp
  | succ m ih =>
    intro fuel k a hk hf hPa
    obtain ⟨f, rfl⟩ : ∃ f, fuel = f + 1 := ⟨fuel - 1, by omega⟩
    have hlt : k < A.length := by omega
    have hg : A.getD k 0 = A[k] := by simp [List.getD_eq_getElem?_getD, hlt]
    have hb := hs k a hlt hPa
    rw [List.drop_eq_getElem_cons hlt, List.takeWhile_cons]
    rw [hg] at hb
    unfold nq_lp
    cases hp : p A[k] with
    | true =>
      rw [hp, if_pos rfl] at hb
      rw [hb]
      simp only [if_true, List.foldl_cons]
      exact ih f (k + 1) _ (by omega) (by omega) (hP a _ (List.getElem_mem hlt) hPa)
    | false =>
      rw [hp, if_neg (by decide)] at hb
      rw [hb]
      simp
theorem lp_list {σ ρ α : Type} {body : σ → Option (σ ⊕ ρ)} (st : Nat → α → σ) (out : α → ρ) (g : α → Nat → α) (A : List Nat) (p : Nat → Bool) (P : α → Prop) (hn : A.length < 1000000)
    (hs : ∀ k a, k < A.length → P a → body (st k a) = if p (A.getD k 0) = true then some (.inl (st (k + 1) (g a (A.getD k 0)))) else some (.inr (out a)))
    (hP : ∀ a w, w ∈ A → P a → P (g a w))
    (he : ∀ a, P a → body (st A.length a) = some (.inr (out a))) (a0 : α) (h0 : P a0) : nq_lp body nq_fuel (st 0 a0) = some (out ((A.takeWhile p).foldl g a0)) := by
  have := lp_list_aux st out g A p P hs hP he A.length nq_fuel 0 a0 (by omega) hn h0
  rw [List.drop_zero] at this
  exact this
/-- with an end on the way -/
def runL {α ρ : Type} (g : α → Nat → α ⊕ ρ) : List Nat → α → α ⊕ ρ
  | [], a => .inl a
  | w :: l, a => match g a w with
    | .inl a' => runL g l a'
    | .inr r => .inr r
theorem runL_append {α ρ : Type} {g : α → Nat → α ⊕ ρ} : ∀ (l1 l2 : List Nat) (a : α), runL g (l1 ++ l2) a = match runL g l1 a with | .inl a' => runL g l2 a' | .inr r => .inr r := by
  intro l1
  induction l1 with
  | nil => intro l2 a; rfl
  | cons w l1 ih =>
    intro l2 a
    simp only [List.cons_append, runL]
    cases g a w with
    | inl a' => exact ih l2 a'
    | inr r => rfl
theorem runL_filter {α ρ : Type} {g : α → Nat → α ⊕ ρ} {c : Nat → Bool} : ∀ (l : List Nat) (a : α), runL g (l.filter c) a = runL (fun a w => if c w = true then g a w else .inl a) l a := by
  intro l
  induction l with
  | nil => intro a; rfl
  | cons w l ih =>
    intro a
    rw [List.filter_cons]
    cases hc : c w with
    | true =>
      simp only [if_true, runL, hc]
      cases g a w with
      | inl a' => exact ih a'
      | inr r => rfl
    | false =>
      simp only [runL, hc]
      exact ih a
theorem lp_listE {σ ρ₁ ρ₂ α : Type} {body : σ → Option (σ ⊕ (ρ₁ ⊕ ρ₂))} (st : Nat → α → σ) (out : α → ρ₁) (g : α → Nat → α ⊕ ρ₂) (A : List Nat) (p : Nat → Bool) (P : Nat → α → Prop)
    (hs : ∀ k a, k < A.length → P k a → body (st k a) = if p (A.getD k 0) = true then (match g a (A.getD k 0) with | .inl a' => some (.inl (st (k + 1) a')) | .inr r => some (.inr (.inr r))) else some (.inr (.inl (out a))))
    (hP : ∀ k a a', k < A.length → P k a → g a (A.getD k 0) = .inl a' → P (k + 1) a')
    (he : ∀ a, P A.length a → body (st A.length a) = some (.inr (.inl (out a)))) : ∀ (m fuel k : Nat) (a : α), k + m = A.length → m < fuel → P k a → nq_lp body fuel (st k a) = some (match runL g ((A.drop k).takeWhile p) a with | .inl a' => .inl (out a') | .inr r => .inr r) := by
  intro m
  induction m with
  | zero =>
    intro fuel k a hk hf hPa
    obtain ⟨f, rfl⟩ : ∃ f, fuel = f + 1 := ⟨fuel - 1, by omega⟩
    have : k = A.length := by omega
    subst this
    unfold nq_lp
    rw [he a hPa]
    simp [runL]
  | succ m ih =>
    intro fuel k a hk hf hPa
    obtain ⟨f, rfl⟩ : ∃ f, fuel = f + 1 := ⟨fuel - 1, by omega⟩
    have hlt : k < A.length := by omega
    have hg : A.getD k 0 = A[k] := by simp [List.getD_eq_getElem?_getD, hlt]
    have hb := hs k a hlt hPa
    have hP' := hP k a
    rw [List.drop_eq_getElem_cons hlt, List.takeWhile_cons]
    rw [hg] at hb hP'
    unfold nq_lp
    cases hp : p A[k] with
    | true =>
      rw [hp, if_pos rfl] at hb
      simp only [if_true, runL]
      cases hgw : g a A[k] with
      | inl a' =>
        rw [hgw] at hb
        rw [hb]
        exact ih f (k + 1) a' (by omega) (by omega) (hP' a' hlt hPa hgw)
      | inr r =>
        rw [hgw] at hb
        rw [hb]
    | false =>
      rw [hp, if_neg (by decide)] at hb
      rw [hb]
      simp [runL]
/-! buckets -/
def bkt (D : Nat → Int) (y : Nat) : List Nat := (List.range (D 2).toNat).filter fun w => decide (D (615 + 8 * w) = (y : Int))
def arrU (D : Nat → Int) (Y : Nat) : List Nat := (List.range Y).flatMap (bkt D)
theorem arrU_succ {D : Nat → Int} {Y : Nat} : arrU D (Y + 1) = arrU D Y ++ bkt D Y := by
  unfold arrU
  rw [List.range_succ, List.flatMap_append]
  simp
theorem arrL_U {D : Nat → Int} : arrL D = arrU D 11000 := rfl
theorem bkt_mem {D : Nat → Int} {y w : Nat} : w ∈ bkt D y ↔ w < (D 2).toNat ∧ D (615 + 8 * w) = (y : Int) := by
  unfold bkt
  rw [List.mem_filter, List.mem_range, decide_eq_true_eq]
theorem arrU_mem {D : Nat → Int} {Y w : Nat} : w ∈ arrU D Y ↔ w < (D 2).toNat ∧ 0 ≤ D (615 + 8 * w) ∧ D (615 + 8 * w) < (Y : Int) := by
  have := (bucket_perm (D 2).toNat (fun w => D (615 + 8 * w)) Y).mem_iff (a := w)
  rw [List.mem_filter, List.mem_range, decide_eq_true_eq] at this
  exact this
theorem arrU_perm (D : Nat → Int) (Y : Nat) : (arrU D Y).Perm ((List.range (D 2).toNat).filter fun w => decide (0 ≤ D (615 + 8 * w) ∧ D (615 + 8 * w) < (Y : Int))) := bucket_perm _ (fun w => D (615 + 8 * w)) Y
theorem arrU_split {D : Nat → Int} {Y Z : Nat} (h : Y ≤ Z) : ∃ R, arrU D Z = arrU D Y ++ R ∧ ∀ w, w ∈ R → w < (D 2).toNat ∧ (Y : Int) ≤ D (615 + 8 * w) ∧ D (615 + 8 * w) < (Z : Int) := by
  induction Z with
  | zero => obtain rfl : Y = 0 := by omega
            exact ⟨[], by simp, fun w hw => by cases hw⟩
  | succ Z ih =>
    by_cases e : Y = Z + 1
    · subst e; exact ⟨[], by simp, fun w hw => by cases hw⟩
    · obtain ⟨R, h1, h2⟩ := ih (by omega)
      refine ⟨R ++ bkt D Z, by rw [arrU_succ, h1, List.append_assoc], ?_⟩
      intro w hw
      rcases List.mem_append.mp hw with hw | hw
      · have := h2 w hw; exact ⟨this.1, by omega, by omega⟩
      · have := bkt_mem.mp hw; exact ⟨this.1, by omega, by omega⟩
theorem takeWhile_all {p : Nat → Bool} {l1 l2 : List Nat} (h1 : ∀ w, w ∈ l1 → p w = true) (h2 : ∀ w, w ∈ l2 → p w = false) : (l1 ++ l2).takeWhile p = l1 := by
  induction l1 with
  | nil =>
    cases l2 with
    | nil => rfl
    | cons w l => simp [h2 w (by simp)]
  | cons w l ih =>
    simp only [List.cons_append, List.takeWhile_cons, h1 w (by simp), if_true]
    rw [ih (fun w hw => h1 w (by simp [hw]))]
theorem arrL_take {D : Nat → Int} {Y : Int} (h0 : 0 ≤ Y) (h1 : Y < 10999) : (arrL D).takeWhile (fun w => decide (D (615 + 8 * w) ≤ Y)) = arrU D (Y + 1).toNat := by
  obtain ⟨R, e, hR⟩ := arrU_split (D := D) (show (Y + 1).toNat ≤ 11000 by omega)
  rw [arrL_U, e]
  apply takeWhile_all
  · intro w hw
    have := arrU_mem.mp hw
    rw [decide_eq_true_eq]; omega
  · intro w hw
    have := hR w hw
    rw [decide_eq_false_iff_not]; omega
theorem arrL_getD {D : Nat → Int} {k : Nat} (hk : k < (arrL D).length) : (arrL D).getD k 0 < (D 2).toNat ∧ 0 ≤ D (615 + 8 * (arrL D).getD k 0) := by
  apply arrL_mem
  rw [List.getD_eq_getElem?_getD, List.getElem?_eq_getElem hk, Option.getD_some]
  exact List.getElem_mem hk
/-- what is gathered of words that have come, in any order -/
theorem arr_fold {α : Type} {D : Nat → Int} {Y : Int} {g : α → Nat → α} {a : α} (h0 : 0 ≤ Y) (hc : ∀ z x y, g (g z x) y = g (g z y) x) : (arrU D (Y + 1).toNat).foldl g a = (List.range (D 2).toNat).foldl (fun a w => if 0 ≤ D (615 + 8 * w) ∧ D (615 + 8 * w) ≤ Y then g a w else a) a := by
  rw [(arrU_perm D (Y + 1).toNat).foldl_eq' (fun x _ y _ z => hc z x y) a, List.foldl_filter]
  apply foldl_cong
  intro b w _
  by_cases h : 0 ≤ D (615 + 8 * w) ∧ D (615 + 8 * w) ≤ Y
  · rw [if_pos h, if_pos (by rw [decide_eq_true_eq]; omega)]
  · rw [if_neg h, if_neg (by rw [decide_eq_true_eq]; omega)]
