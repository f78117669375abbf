/-! 07.c: pure words: loops, numbers, rows; what measure() gives -/
theorem nq_for {σ ρ : Type} {body : σ → Option (σ ⊕ ρ)} (n : Nat) (P : Nat → σ → Prop) (Q : ρ → Prop)
    (hstep : ∀ k s, k < n → P k s → (∃ s', body s = some (.inl s') ∧ P (k + 1) s') ∨ ∃ r, body s = some (.inr r) ∧ Q r)
    (hend : ∀ s, P n s → ∃ r, body s = some (.inr r) ∧ Q r) : ∀ (m fuel k : Nat) (s : σ), k + m = n → m < fuel → P k s → ∃ r, nq_lp body fuel s = some r ∧ Q r := by
  intro m
  induction m with
  | zero =>
    intro fuel k s hk hf hP
    obtain ⟨f, rfl⟩ : ∃ f, fuel = f + 1 := ⟨fuel - 1, by omega⟩
    have : k = n := by omega
    subst this
    obtain ⟨r, h1, h2⟩ := hend s hP
    exact ⟨r, by unfold nq_lp; rw [h1], h2⟩
  | succ m ih =>
    intro fuel k s hk hf hP
    obtain ⟨f, rfl⟩ : ∃ f, fuel = f + 1 := ⟨fuel - 1, by omega⟩
    rcases hstep k s (by omega) hP with ⟨s', h1, h2⟩ | ⟨r, h1, h2⟩
    · obtain ⟨r, h3, h4⟩ := ih f (k + 1) s' (by omega) (by omega) h2
      exact ⟨r, by unfold nq_lp; rw [h1]; exact h3, h4⟩
    · exact ⟨r, by unfold nq_lp; rw [h1], h2⟩
theorem nq_for0 {σ ρ : Type} {body : σ → Option (σ ⊕ ρ)} (n : Nat) (P : Nat → σ → Prop) (Q : ρ → Prop) {s : σ} (hn : n < 1000000) (h0 : P 0 s)
    (hstep : ∀ k s, k < n → P k s → (∃ s', body s = some (.inl s') ∧ P (k + 1) s') ∨ ∃ r, body s = some (.inr r) ∧ Q r)
    (hend : ∀ s, P n s → ∃ r, body s = some (.inr r) ∧ Q r) : ∃ r, nq_lp body nq_fuel s = some r ∧ Q r :=
  nq_for n P Q hstep hend n nq_fuel 0 s (Nat.zero_add n) hn h0
theorem nq_bs {α β : Type} {a : α} {f : α → Option β} : (some a).bind f = f a := (Option.bind_some a f).trans (Eq.trans rfl rfl)
theorem nq_ltS {α β : Type} {a : α} {f : α → β} : nq_lt a f = f a := Eq.trans (show nq_lt a f = f a from rfl) (Eq.trans rfl rfl)
theorem nq_b2S {α β : Type} {a : α} {M : Mem} {f : α → Mem → Option β} : nq_b2 (some (a, M)) f = f a M := Eq.trans (show nq_b2 (some (a, M)) f = f a M from rfl) (Eq.trans rfl rfl)
theorem nq_gdS {β : Type} {c : Bool} {f : Unit → Option β} (h : c = true) : (nq_gd c).bind f = f () := by subst h; exact Eq.trans (show (nq_gd true).bind f = f () from rfl) (Eq.trans rfl rfl)
theorem nq_lit (n : Nat) : (OfNat.ofNat n : Int32) = nI n := rfl
theorem nq_inb_nI {k n : Nat} (h : k < n) (hn : n ≤ 2 ^ 31) : nq_inb (nI k) n = true := nq_inbE.mpr (by
  rw [vp_in_iff, nI_toInt (by omega)]; omega)
theorem nq_ag_nI {f : Nat → Int32} {k n : Nat} (h : k < n) (hn : n ≤ 2 ^ 31) : nq_ag f n (nI k) = some (f k) := by
  unfold nq_ag
  rw [if_pos (nq_inb_nI h hn), nI_clamp (by omega)]
theorem nq_as_nI {M : Mem} {p k n : Nat} {v : Int32} (h : k < n) (hn : n ≤ 2 ^ 31) : nq_as M p n (nI k) v = some (nq_wr M p k v) := by
  unfold nq_as
  rw [if_pos (nq_inb_nI h hn), nI_clamp (by omega)]
theorem nq_ar_nI {b k n : Nat} (h : k < n) (hn : n ≤ 2 ^ 31) : nq_ar b n (nI k) = some (b + 2 * k) := by
  unfold nq_ar
  rw [if_pos (nq_inb_nI h hn), nI_clamp (by omega)]
theorem nq_dv_nI {a d : Nat} (ha : a < 2 ^ 31) (h0 : 0 < d) (hd : d < 2 ^ 31) : nq_dv (nI a) (nI d) = some (nI (a / d)) := by
  unfold nq_dv
  rw [if_neg (nI_ne0 h0 hd), pk_div ha h0 hd]
theorem nq_rem_nI {a d : Nat} (ha : a < 2 ^ 31) (h0 : 0 < d) (hd : d < 2 ^ 31) : nq_rem (nI a) (nI d) = some (nI (a % d)) := by
  unfold nq_rem
  rw [if_neg (nI_ne0 h0 hd), pk_rem ha h0 hd]
theorem nq_up_s {α : Type} {f : Nat → α} {k : Nat} {v : α} : va_up f k v k = v := by simp [va_up]
theorem nq_up_n {α : Type} {f : Nat → α} {k j : Nat} {v : α} (h : j ≠ k) : va_up f k v j = f j := by simp [va_up, h]
theorem nq_up_up {α : Type} {f : Nat → α} {k : Nat} {v w : α} : va_up (va_up f k v) k w = va_up f k w := by
  funext j; by_cases h : j = k <;> simp [va_up, h]
theorem nq_wr_up {M : Mem} {k i : Nat} {g : Nat → Int32} {v : Int32} : nq_wr (va_up M k g) k i v = va_up M k (upd g i v) := by
  unfold nq_wr; rw [nq_up_s, nq_up_up]
theorem nq_up_id {M : Mem} {k : Nat} : va_up M k (M k) = M := by
  funext j; by_cases h : j = k
  · subst h; rw [nq_up_s]
  · rw [nq_up_n h]
/-! Arrays.fill -/
theorem nq_fillE {a0 m : Nat} {x : Int32} {M : Mem} (hm : m < 1000000) : fJ7_fill_53178 a0 m x M = some (nq_fl M a0 m x) := by
  have key := nq_for0 (body := fun s : Int32 × Mem => fJ7_fill_53178_B5 a0 m x s.1 (Int32.ofNat m) s.2) m
    (fun k s => s.1 = nI k ∧ s.2 = va_up M a0 (fun j => if j < k then x else M a0 j)) (fun r => r = nq_fl M a0 m x) (s := (0, M)) hm
    ⟨rfl, by
      have : (fun j => if j < 0 then x else M a0 j) = M a0 := by funext j; simp
      simp only [this]; exact nq_up_id.symm⟩
    (by
      rintro k ⟨i, M'⟩ hk ⟨h1, h2⟩
      dsimp only at h1 h2
      subst h1; subst h2
      left
      refine ⟨(nI (k + 1), va_up M a0 (fun j => if j < k + 1 then x else M a0 j)), ?_, rfl, rfl⟩
      dsimp only
      unfold fJ7_fill_53178_B5
      rw [if_neg (by rw [show Int32.ofNat m = nI m from rfl, nI_leI (by omega) (by omega)]; omega), nq_as_nI hk (by omega)]
      simp only [nq_bs, nq_ltS, nq_wr_up]
      congr 3
      · exact nI_1 k
      · congr 1
        funext j
        by_cases hj : j = k
        · subst hj; simp [upd]
        · simp only [upd, if_neg hj]
          by_cases h3 : j < k
          · rw [if_pos h3, if_pos (by omega)]
          · rw [if_neg h3, if_neg (by omega)])
    (by
      rintro ⟨i, M'⟩ ⟨h1, h2⟩
      dsimp only at h1 h2
      subst h1; subst h2
      refine ⟨_, ?_, rfl⟩
      dsimp only
      unfold fJ7_fill_53178_B5
      rw [if_pos (by rw [show Int32.ofNat m = nI m from rfl]; exact (nI_leI (by omega) (by omega)).mpr (Nat.le_refl m))]
      rfl)
  obtain ⟨r, h1, rfl⟩ := key
  unfold fJ7_fill_53178 fJ7_fill_53178_L5
  simp only [nq_ltS]
  rw [h1]
  rfl
/-! the ways: lengths by Nat -/
def ml0 (w : Nat → Nat) (j : Nat) : Nat := if j / 6 = j % 6 then 0 else if w j = 0 then 1000000 else 10 * w j + 1
def ml (w : Nat → Nat) : Nat → Nat → Nat
  | 0, j => ml0 w j
  | b + 1, j => min (ml w b j) (ml w b (j / 6 * 6 + b) + ml w b (b * 6 + j % 6))
theorem ml_le {w : Nat → Nat} (hw : ∀ j, j < 36 → w j ≤ 30) : ∀ b j, j < 36 → ml w b j ≤ 1000000 := by
  intro b
  induction b with
  | zero =>
    intro j hj
    have := hw j hj
    simp only [ml, ml0]; split
    · omega
    · split <;> omega
  | succ b ih =>
    intro j hj
    have := ih j hj
    simp only [ml]; omega
theorem ml_diag {w : Nat → Nat} : ∀ b a, a < 6 → ml w b (a * 6 + a) = 0 := by
  intro b
  induction b with
  | zero =>
    intro a ha
    simp only [ml, ml0]
    rw [if_pos (by omega)]
  | succ b ih =>
    intro a ha
    simp only [ml, ih a ha]; omega
theorem ml_col {w : Nat → Nat} {b a : Nat} (hb : b < 6) (ha : a < 6) : ml w (b + 1) (a * 6 + b) = ml w b (a * 6 + b) := by
  have h := ml_diag (w := w) b b hb
  simp only [ml]
  rw [show (a * 6 + b) / 6 * 6 + b = a * 6 + b by omega, show b * 6 + (a * 6 + b) % 6 = b * 6 + b by omega, h]
  omega
theorem ml_row {w : Nat → Nat} {b a : Nat} (hb : b < 6) (ha : a < 6) : ml w (b + 1) (b * 6 + a) = ml w b (b * 6 + a) := by
  have h := ml_diag (w := w) b b hb
  simp only [ml]
  rw [show (b * 6 + a) / 6 * 6 + b = b * 6 + b by omega, show b * 6 + (b * 6 + a) % 6 = b * 6 + a by omega, h]
  omega
/-- a row that is through up to k -/
def mlr (w : Nat → Nat) (f : Nat → Int32) (b k : Nat) : Nat → Int32 := fun j => if j < 36 then (if j < k then nI (ml w (b + 1) j) else nI (ml w b j)) else f j
theorem mlr_at {w : Nat → Nat} {f : Nat → Int32} {b k a : Nat} (hb : b < 6) (ha : a < 6) : mlr w f b k (a * 6 + b) = nI (ml w b (a * 6 + b)) ∧ mlr w f b k (b * 6 + a) = nI (ml w b (b * 6 + a)) := by
  constructor
  · simp only [mlr]
    rw [if_pos (by omega), ml_col hb ha]; simp
  · simp only [mlr]
    rw [if_pos (by omega), ml_row hb ha]; simp
theorem mlr_next {w : Nat → Nat} {f : Nat → Int32} {b k : Nat} (hk : k < 36) : upd (mlr w f b k) k (nI (ml w (b + 1) k)) = mlr w f b (k + 1) := by
  funext j
  by_cases hj : j = k
  · subst hj; simp [upd, mlr, hk]
  · simp only [upd, if_neg hj, mlr]
    by_cases h36 : j < 36
    · rw [if_pos h36, if_pos h36]
      by_cases h : j < k
      · rw [if_pos h, if_pos (by omega)]
      · rw [if_neg h, if_neg (by omega)]
    · rw [if_neg h36, if_neg h36]
theorem mlr_end {w : Nat → Nat} {f : Nat → Int32} {b : Nat} : mlr w f b 36 = mlr w f (b + 1) 0 := by
  funext j
  simp only [mlr]
  by_cases h : j < 36
  · rw [if_pos h, if_pos h]; simp [h]
  · rw [if_neg h, if_neg h]
theorem nq_inner {p b : Nat} {M : Mem} {w : Nat → Nat} {f : Nat → Int32} (hb : b < 6) (hw : ∀ j, j < 36 → w j ≤ 30) : nq_lp (fun s : Int32 × Mem => fX2_measure_B42_34 p (nI b) s.1 s.2) nq_fuel (0, va_up M (p + 2) (mlr w f b 0)) = some (va_up M (p + 2) (mlr w f b 36)) := by
  have key := nq_for0 (body := fun s : Int32 × Mem => fX2_measure_B42_34 p (nI b) s.1 s.2) 36 (fun k s => s.1 = nI k ∧ s.2 = va_up M (p + 2) (mlr w f b k)) (fun r => r = va_up M (p + 2) (mlr w f b 36)) (s := (0, va_up M (p + 2) (mlr w f b 0))) (by omega) ⟨rfl, rfl⟩
    (by
      rintro k ⟨i, M'⟩ hk ⟨h1, h2⟩
      dsimp only at h1 h2
      subst h1; subst h2
      left
      refine ⟨(nI (k + 1), va_up M (p + 2) (mlr w f b (k + 1))), ?_, rfl, rfl⟩
      dsimp only
      unfold fX2_measure_B42_34
      have hd : k / 6 < 6 := by omega
      have hm : k % 6 < 6 := by omega
      have hl1 := ml_le hw b (k / 6 * 6 + b) (by omega)
      have hl2 := ml_le hw b (b * 6 + k % 6) (by omega)
      have hl3 := ml_le hw b k hk
      have hself : mlr w f b k k = nI (ml w b k) := by simp only [mlr]; rw [if_pos hk]; simp
      rw [nq_lit 36, if_neg (by rw [nI_leI (by omega) (by omega)]; omega), nq_lit 6, nq_dv_nI (by omega) (by omega) (by omega)]
      simp only [nq_bs, nq_up_s]
      rw [nq_rem_nI (by omega) (by omega) (by omega), pk_mul, nI_add, nq_ag_nI (by omega) (by omega)]
      simp only [nq_bs, nq_ltS]
      rw [pk_mul, nI_add, nq_ag_nI (by omega) (by omega)]
      simp only [nq_bs, nq_ltS]
      rw [nq_ag_nI hk (by omega)]
      simp only [nq_bs]
      rw [(mlr_at hb hd).1, (mlr_at hb hm).2, hself, nI_add]
      have hmin : (if nI (ml w b (k / 6 * 6 + b) + ml w b (b * 6 + k % 6)) < nI (ml w b k) then nI (ml w b (k / 6 * 6 + b) + ml w b (b * 6 + k % 6)) else nI (ml w b k)) = nI (ml w (b + 1) k) := by
        simp only [ml]
        by_cases h : ml w b (k / 6 * 6 + b) + ml w b (b * 6 + k % 6) < ml w b k
        · rw [if_pos ((nI_ltI (by omega) (by omega)).mpr h), Nat.min_eq_right (by omega)]
        · rw [if_neg (fun h2 => h ((nI_ltI (by omega) (by omega)).mp h2)), Nat.min_eq_left (by omega)]
      rw [hmin, nq_as_nI hk (by omega)]
      simp only [nq_bs, nq_wr_up, mlr_next hk]
      rw [show nI k + 1 = nI (k + 1) from nI_1 k])
    (by
      rintro ⟨i, M'⟩ ⟨h1, h2⟩
      dsimp only at h1 h2
      subst h1; subst h2
      refine ⟨_, ?_, rfl⟩
      dsimp only
      unfold fX2_measure_B42_34
      rw [nq_lit 36, if_pos (by rw [nI_leI (by omega) (by omega)]; omega)])
  obtain ⟨r, h1, rfl⟩ := key
  exact h1
theorem nq_outer {p : Nat} {M : Mem} {w : Nat → Nat} {f : Nat → Int32} (hw : ∀ j, j < 36 → w j ≤ 30) : fX2_measure_L34 p 0 (va_up M (p + 2) (mlr w f 0 0)) = some (va_up M (p + 2) (mlr w f 6 0)) := by
  have key := nq_for0 (body := fun s : Int32 × Mem => fX2_measure_B34 p s.1 s.2) 6 (fun k s => s.1 = nI k ∧ s.2 = va_up M (p + 2) (mlr w f k 0)) (fun r => r = va_up M (p + 2) (mlr w f 6 0)) (s := (0, va_up M (p + 2) (mlr w f 0 0))) (by omega) ⟨rfl, rfl⟩
    (by
      rintro k ⟨i, M'⟩ hk ⟨h1, h2⟩
      dsimp only at h1 h2
      subst h1; subst h2
      left
      refine ⟨(nI (k + 1), va_up M (p + 2) (mlr w f (k + 1) 0)), ?_, rfl, rfl⟩
      dsimp only
      unfold fX2_measure_B34
      rw [nq_lit 6, if_neg (by rw [nI_leI (by omega) (by omega)]; omega)]
      unfold fX2_measure_L42_34
      rw [nq_inner hk hw]
      simp only [nq_bs, fX2_measure_L100_34, nq_ltS, mlr_end]
      rw [show nI k + 1 = nI (k + 1) from nI_1 k])
    (by
      rintro ⟨i, M'⟩ ⟨h1, h2⟩
      dsimp only at h1 h2
      subst h1; subst h2
      refine ⟨_, ?_, rfl⟩
      dsimp only
      unfold fX2_measure_B34
      rw [nq_lit 6, if_pos (by rw [nI_leI (by omega) (by omega)]; omega)])
  obtain ⟨r, h1, rfl⟩ := key
  unfold fX2_measure_L34
  rw [h1]
  rfl
theorem nq_step0 {p k : Nat} {M : Mem} {w : Nat → Nat} (hw : ∀ j, j < 36 → M (p + 1) j = nI (w j) ∧ w j ≤ 30) (hk : k < 36) : fX2_step p (nI (k / 6)) (nI (k % 6)) M = some (nI (ml0 w k)) := by
  have h := hw k hk
  unfold fX2_step ml0
  by_cases hd : k / 6 = k % 6
  · rw [if_pos (by rw [hd]), if_pos hd]; rfl
  · rw [if_neg (fun e => hd ((nI_eq (by omega) (by omega)).mp e)), if_neg hd, nq_lit 6, pk_mul, nI_add, show k / 6 * 6 + k % 6 = k by omega, nq_ag_nI hk (by omega)]
    simp only [nq_bs]
    rw [h.1]
    by_cases h0 : w k = 0
    · rw [h0, if_pos (show nI 0 = 0 from rfl), if_pos rfl]; rfl
    · rw [if_neg (nI_ne0 (by omega) (by omega)), if_neg h0, nq_lit 10, nq_lit 1, pk_mul, nI_add]
/-- what measure() gives -/
theorem nq_measure {p : Nat} {M : Mem} {w : Nat → Nat} (hw : ∀ j, j < 36 → M (p + 1) j = nI (w j) ∧ w j ≤ 30) : fX2_measure p M = some (va_up M (p + 2) (mlr w (M (p + 2)) 6 0)) := by
  have key := nq_for0 (body := fun s : Int32 × Mem => fX2_measure_B2 p s.1 s.2) 36 (fun k s => s.1 = nI k ∧ s.2 = va_up M (p + 2) (fun j => if j < k then nI (ml0 w j) else M (p + 2) j)) (fun r => r = va_up M (p + 2) (mlr w (M (p + 2)) 0 0)) (s := (0, M)) (by omega)
    ⟨rfl, by
      have : (fun j => if j < 0 then nI (ml0 w j) else M (p + 2) j) = M (p + 2) := by funext j; simp
      simp only [this]; exact nq_up_id.symm⟩
    (by
      rintro k ⟨i, M'⟩ hk ⟨h1, h2⟩
      dsimp only at h1 h2
      subst h1; subst h2
      left
      refine ⟨(nI (k + 1), va_up M (p + 2) (fun j => if j < k + 1 then nI (ml0 w j) else M (p + 2) j)), ?_, rfl, rfl⟩
      dsimp only
      unfold fX2_measure_B2
      rw [nq_lit 36, if_neg (by rw [nI_leI (by omega) (by omega)]; omega), nq_lit 6, nq_dv_nI (by omega) (by omega) (by omega)]
      simp only [nq_bs]
      rw [nq_rem_nI (by omega) (by omega) (by omega)]
      simp only [nq_bs]
      rw [nq_step0 (w := w) (fun j hj => by rw [nq_up_n (by omega)]; exact hw j hj) hk]
      simp only [nq_bs]
      rw [nq_as_nI hk (by omega)]
      simp only [nq_bs, nq_ltS, nq_wr_up]
      rw [show nI k + 1 = nI (k + 1) from nI_1 k]
      congr 4
      funext j
      by_cases hj : j = k
      · subst hj; simp [upd]
      · simp only [upd, if_neg hj]
        by_cases h3 : j < k
        · rw [if_pos h3, if_pos (by omega)]
        · rw [if_neg h3, if_neg (by omega)])
    (by
      rintro ⟨i, M'⟩ ⟨h1, h2⟩
      dsimp only at h1 h2
      subst h1; subst h2
      refine ⟨va_up M (p + 2) (fun j => if j < 36 then nI (ml0 w j) else M (p + 2) j), ?_, ?_⟩
      · dsimp only
        unfold fX2_measure_B2
        rw [nq_lit 36, if_pos (by rw [nI_leI (by omega) (by omega)]; omega)]
      · have e : (fun j => if j < 36 then nI (ml0 w j) else M (p + 2) j) = mlr w (M (p + 2)) 0 0 := by
          funext j
          simp only [mlr]
          by_cases h : j < 36
          · rw [if_pos h, if_pos h]; simp [ml]
          · rw [if_neg h, if_neg h]
        rw [e])
  obtain ⟨r, h1, rfl⟩ := key
  unfold fX2_measure fX2_measure_L2
  rw [show (0 : Int32) = 0 from rfl, h1]
  simp only [nq_bs, fX2_measure_L32]
  exact nq_outer (fun j hj => (hw j hj).2)
def nq_MRoads : Mem := va_up (nq_wr (fun _ _ => 0) 0 0 0) 2 (mlr (fun _ => 0) (fun _ => 0) 6 0)
theorem nq_roads0 : fX2_measure 0 (nq_wr (fun _ _ => 0) 0 0 0) = some nq_MRoads := by
  have h := nq_measure (p := 0) (M := nq_wr (fun _ _ => 0) 0 0 0) (w := fun _ => 0) (fun j _ => ⟨rfl, Nat.zero_le _⟩)
  exact h
