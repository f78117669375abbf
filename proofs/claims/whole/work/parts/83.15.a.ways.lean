/-! 15.a: ways: the least sums, by all steps in turn -/
def fw (s : Nat → Nat) : Nat → Nat → Nat
  | 0, j => s j
  | b + 1, j => min (fw s b j) (fw s b (j / 6 * 6 + b) + fw s b (b * 6 + j % 6))
theorem ml_fw {w : Nat → Nat} : ∀ b j, ml w b j = fw (ml0 w) b j := by
  intro b
  induction b with
  | zero => intro j; rfl
  | succ b ih => intro j; simp only [ml, fw, ih]
theorem fw_s {s : Nat → Nat} {b i j : Nat} (hj : j < 6) : fw s (b + 1) (i * 6 + j) = min (fw s b (i * 6 + j)) (fw s b (i * 6 + b) + fw s b (b * 6 + j)) := by
  simp only [fw]
  rw [show (i * 6 + j) / 6 = i by omega, show (i * 6 + j) % 6 = j by omega]
theorem fw_diag {s : Nat → Nat} (hd : ∀ a, a < 6 → s (a * 6 + a) = 0) : ∀ b a, a < 6 → fw s b (a * 6 + a) = 0 := by
  intro b
  induction b with
  | zero => intro a ha; exact hd a ha
  | succ b ih => intro a ha; rw [fw_s ha, ih a ha]; omega
theorem fw_mono {s : Nat → Nat} : ∀ b j, fw s (b + 1) j ≤ fw s b j := by
  intro b j
  simp only [fw]; omega
theorem fw_le {s : Nat → Nat} : ∀ b j, fw s b j ≤ s j := by
  intro b
  induction b with
  | zero => intro j; exact Nat.le_refl _
  | succ b ih => intro j; exact Nat.le_trans (fw_mono b j) (ih j)
theorem fw_tri {s : Nat → Nat} (hd : ∀ a, a < 6 → s (a * 6 + a) = 0) : ∀ b, b ≤ 6 → ∀ i j k, i < 6 → j < 6 → k < b → fw s b (i * 6 + j) ≤ fw s b (i * 6 + k) + fw s b (k * 6 + j) := by
  intro b
  induction b with
  | zero => intro _ i j k _ _ hk; omega
  | succ b ih =>
    intro hb i j k hi hj hk
    have ih' := ih (by omega)
    rw [fw_s hj, fw_s (show k < 6 by omega), fw_s hj]
    have d0 := fw_diag hd b b (by omega)
    by_cases e : k = b
    · subst e
      rw [d0]; omega
    · have hk' : k < b := by omega
      have t1 := ih' i j k hi hj hk'
      have t2 := ih' i b k hi (by omega) hk'
      have t3 := ih' b j k (by omega) hj hk'
      have t4 := ih' b b k (by omega) (by omega) hk'
      omega
theorem fw_att {s : Nat → Nat} {F : Nat} (hd : ∀ a, a < 6 → s (a * 6 + a) = 0) : ∀ b, b ≤ 6 → ∀ i j, i < 6 → j < 6 → i ≠ j → fw s b (i * 6 + j) < F → ∃ k, k < 6 ∧ k ≠ i ∧ s (i * 6 + k) + fw s b (k * 6 + j) ≤ fw s b (i * 6 + j) := by
  intro b
  induction b with
  | zero =>
    intro _ i j hi hj hij _
    refine ⟨j, hj, fun e => hij e.symm, ?_⟩
    have := fw_diag hd 0 j hj
    rw [this]; exact Nat.le_refl _
  | succ b ih =>
    intro hb i j hi hj hij hF
    have ih' := ih (by omega)
    rw [fw_s hj] at hF ⊢
    by_cases c : fw s b (i * 6 + j) ≤ fw s b (i * 6 + b) + fw s b (b * 6 + j)
    · obtain ⟨k, h1, h2, h3⟩ := ih' i j hi hj hij (by omega)
      refine ⟨k, h1, h2, ?_⟩
      have := fw_mono (s := s) b (k * 6 + j)
      omega
    · by_cases e : i = b
      · subst e
        have := fw_diag hd i i hi
        omega
      · obtain ⟨k, h1, h2, h3⟩ := ih' i b hi (by omega) e (by omega)
        refine ⟨k, h1, h2, ?_⟩
        rw [fw_s hj]; omega
/-- what is so of the least sums -/
theorem fw_b {s : Nat → Nat} (hd : ∀ a, a < 6 → s (a * 6 + a) = 0) {i j k : Nat} (hi : i < 6) (hj : j < 6) (hk : k < 6) : fw s 6 (i * 6 + j) ≤ s (i * 6 + k) + fw s 6 (k * 6 + j) := by
  have h1 := fw_tri hd 6 (by omega) i j k hi hj hk
  have h2 := fw_le (s := s) 6 (i * 6 + k)
  omega
theorem fw_c {s : Nat → Nat} {F : Nat} (hd : ∀ a, a < 6 → s (a * 6 + a) = 0) {i j : Nat} (hi : i < 6) (hj : j < 6) (hij : i ≠ j) (hF : fw s 6 (i * 6 + j) < F) : ∃ k, k < 6 ∧ k ≠ i ∧ fw s 6 (i * 6 + j) = s (i * 6 + k) + fw s 6 (k * 6 + j) := by
  obtain ⟨k, h1, h2, h3⟩ := fw_att hd 6 (by omega) i j hi hj hij hF
  exact ⟨k, h1, h2, Nat.le_antisymm (fw_b hd hi hj h1) h3⟩
theorem countP_lt {p q : Nat → Bool} : ∀ (l : List Nat), (∀ x, p x = true → q x = true) → (∃ x, x ∈ l ∧ q x = true ∧ p x = false) → l.countP p + 1 ≤ l.countP q := by
  intro l
  induction l with
  | nil => rintro _ ⟨x, hx, _⟩; cases hx
  | cons y l ih =>
    rintro h ⟨x, hx, hq, hp⟩
    rw [List.countP_cons, List.countP_cons]
    rcases List.mem_cons.mp hx with e | hx
    · subst e
      have := List.countP_mono_left (p := p) (q := q) (l := l) (fun x _ hx => h x hx)
      simp only [hq, hp, if_true]
      simp
      omega
    · have := ih h ⟨x, hx, hq, hp⟩
      have hy : (if p y = true then 1 else 0) ≤ (if q y = true then 1 else 0) := by
        cases hpy : p y with
        | true => simp [h y hpy]
        | false => simp
      omega
/-- a walk of n steps, y years -/
def Pth (w : Nat → Nat) : Nat → Nat → Nat → Nat → Prop
  | 0, y, i, j => y = 0 ∧ i = j
  | n + 1, y, i, j => ∃ k y', k < 6 ∧ k ≠ i ∧ 0 < w (i * 6 + k) ∧ y = w (i * 6 + k) + y' ∧ Pth w n y' k j
def r0 (w : Nat → Nat) (j : Nat) : Nat := if j / 6 = j % 6 then 0 else if w j = 0 then 10000 else w j
theorem ml0_d {w : Nat → Nat} : ∀ a, a < 6 → ml0 w (a * 6 + a) = 0 := by
  intro a ha
  unfold ml0; rw [if_pos (by omega)]
theorem r0_d {w : Nat → Nat} : ∀ a, a < 6 → r0 w (a * 6 + a) = 0 := by
  intro a ha
  unfold r0; rw [if_pos (by omega)]
theorem ml0_e {w : Nat → Nat} {i k : Nat} (hi : i < 6) (hk : k < 6) (hik : k ≠ i) : ml0 w (i * 6 + k) = if w (i * 6 + k) = 0 then 1000000 else 10 * w (i * 6 + k) + 1 := by
  unfold ml0; rw [if_neg (by omega)]
theorem r0_e {w : Nat → Nat} {i k : Nat} (hi : i < 6) (hk : k < 6) (hik : k ≠ i) : r0 w (i * 6 + k) = if w (i * 6 + k) = 0 then 10000 else w (i * 6 + k) := by
  unfold r0; rw [if_neg (by omega)]
def LL (w : Nat → Nat) (i j : Nat) : Nat := fw (ml0 w) 6 (i * 6 + j)
def YY (w : Nat → Nat) (i j : Nat) : Nat := fw (r0 w) 6 (i * 6 + j)
theorem pth_le {w : Nat → Nat} (hw : ∀ j, j < 36 → w j ≤ 30) : ∀ n y i j, i < 6 → j < 6 → Pth w n y i j → LL w i j ≤ 10 * y + n ∧ YY w i j ≤ y ∧ y ≤ 30 * n := by
  intro n
  induction n with
  | zero =>
    rintro y i j hi hj ⟨rfl, rfl⟩
    have h1 := fw_diag (ml0_d (w := w)) 6 i hi
    have h2 := fw_diag (r0_d (w := w)) 6 i hi
    unfold LL YY
    omega
  | succ n ih =>
    rintro y i j hi hj ⟨k, y', hk, hki, hpos, rfl, hp⟩
    obtain ⟨a1, a2, a3⟩ := ih y' k j hk hj hp
    have b1 := fw_b (ml0_d (w := w)) hi hj hk
    have b2 := fw_b (r0_d (w := w)) hi hj hk
    rw [ml0_e hi hk hki, if_neg (by omega)] at b1
    rw [r0_e hi hk hki, if_neg (by omega)] at b2
    have := hw (i * 6 + k) (by omega)
    unfold LL YY at *
    omega
def rk (V : Nat → Nat) (v : Nat) : Nat := (List.range 6).countP (fun m => decide (V m < v))
theorem rk_lt {V : Nat → Nat} {i k : Nat} (hk : k < 6) (h : V k < V i) : rk V (V k) + 1 ≤ rk V (V i) := by
  apply countP_lt
  · intro x hx; rw [decide_eq_true_eq] at *; omega
  · exact ⟨k, List.mem_range.mpr hk, by rw [decide_eq_true_eq]; exact h, by rw [decide_eq_false_iff_not]; omega⟩
theorem rk_5 {V : Nat → Nat} {i : Nat} (hi : i < 6) : rk V (V i) ≤ 5 := by
  have h1 := countP_lt (p := fun m => decide (V m < V i)) (q := fun _ => true) (List.range 6) (fun _ _ => rfl) ⟨i, List.mem_range.mpr hi, rfl, by rw [decide_eq_false_iff_not]; omega⟩
  have h2 := List.countP_le_length (p := fun _ : Nat => true) (l := List.range 6)
  rw [List.length_range] at h2
  unfold rk; omega
theorem LL_pth {w : Nat → Nat} {j : Nat} (hj : j < 6) : ∀ v i, i < 6 → LL w i j = v → v < 1000000 → ∃ n y, n ≤ rk (fun m => LL w m j) v ∧ Pth w n y i j ∧ v = 10 * y + n := by
  intro v
  induction v using Nat.strongRecOn with
  | ind v ih =>
    intro i hi hv hF
    by_cases e : i = j
    · subst e
      have h1 := fw_diag (ml0_d (w := w)) 6 i hi
      refine ⟨0, 0, Nat.zero_le _, ⟨rfl, rfl⟩, ?_⟩
      unfold LL at hv; omega
    · obtain ⟨k, hk, hki, hc⟩ := fw_c (F := 1000000) (ml0_d (w := w)) hi hj e (by unfold LL at hv; omega)
      rw [ml0_e hi hk hki] at hc
      by_cases c0 : w (i * 6 + k) = 0
      · rw [if_pos c0] at hc; unfold LL at hv; omega
      · rw [if_neg c0] at hc
        have hlt : LL w k j < LL w i j := by unfold LL; omega
        obtain ⟨n, y, h1, h2, h3⟩ := ih (LL w k j) (by omega) k hk rfl (by omega)
        have h4 := rk_lt (V := fun m => LL w m j) (i := i) hk hlt
        refine ⟨n + 1, w (i * 6 + k) + y, ?_, ⟨k, y, hk, hki, by omega, rfl, h2⟩, ?_⟩
        · rw [← hv]; exact Nat.le_trans (by omega) h4
        · unfold LL at hv h3; omega
theorem YY_pth {w : Nat → Nat} {j : Nat} (hj : j < 6) : ∀ v i, i < 6 → YY w i j = v → v < 10000 → ∃ n, n ≤ rk (fun m => YY w m j) v ∧ Pth w n v i j := by
  intro v
  induction v using Nat.strongRecOn with
  | ind v ih =>
    intro i hi hv hF
    by_cases e : i = j
    · subst e
      have h1 := fw_diag (r0_d (w := w)) 6 i hi
      refine ⟨0, Nat.zero_le _, ?_, rfl⟩
      unfold YY at hv; omega
    · obtain ⟨k, hk, hki, hc⟩ := fw_c (F := 10000) (r0_d (w := w)) hi hj e (by unfold YY at hv; omega)
      rw [r0_e hi hk hki] at hc
      by_cases c0 : w (i * 6 + k) = 0
      · rw [if_pos c0] at hc; unfold YY at hv; omega
      · rw [if_neg c0] at hc
        have hlt : YY w k j < YY w i j := by unfold YY; omega
        obtain ⟨n, h1, h2⟩ := ih (YY w k j) (by omega) k hk rfl (by omega)
        have h4 := rk_lt (V := fun m => YY w m j) (i := i) hk hlt
        refine ⟨n + 1, ?_, ⟨k, YY w k j, hk, hki, by omega, ?_, h2⟩⟩
        · rw [← hv]; exact Nat.le_trans (by omega) h4
        · unfold YY at *; omega
/-- both sums, side by side -/
theorem LY {w : Nat → Nat} (hw : ∀ j, j < 36 → w j ≤ 30) {i j : Nat} (hi : i < 6) (hj : j < 6) : (LL w i j < 1000000 ∧ YY w i j ≤ 150 ∧ LL w i j / 10 = YY w i j ∧ LL w i j % 10 ≤ 5 ∧ LL w i j = 10 * YY w i j + LL w i j % 10) ∨ (1000000 ≤ LL w i j ∧ 10000 ≤ YY w i j) := by
  by_cases c : LL w i j < 1000000
  · left
    obtain ⟨n, y, h1, h2, h3⟩ := LL_pth hj _ i hi rfl c
    have h4 := rk_5 (V := fun m => LL w m j) hi
    obtain ⟨b1, b2, b3⟩ := pth_le hw n y i j hi hj h2
    obtain ⟨n', g1, g2⟩ := YY_pth (w := w) hj _ i hi rfl (by omega)
    have g4 := rk_5 (V := fun m => YY w m j) hi
    obtain ⟨d1, d2, d3⟩ := pth_le hw n' _ i j hi hj g2
    omega
  · right
    refine ⟨by omega, ?_⟩
    apply Nat.le_of_not_lt
    intro c2
    obtain ⟨n', g1, g2⟩ := YY_pth (w := w) hj _ i hi rfl c2
    have g4 := rk_5 (V := fun m => YY w m j) hi
    obtain ⟨d1, d2, d3⟩ := pth_le hw n' _ i j hi hj g2
    omega
