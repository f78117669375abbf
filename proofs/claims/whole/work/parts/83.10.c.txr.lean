/-! 10.c: texts: a parser over bytes, what it gives -/
def nmI (o : Bool) (c : Int) : Int := if o = true then (if c = 115 then 0 else if c = 99 then 1 else if c = 107 then 2 else if c = 121 then 3 else -1) else (if c = 111 then 0 else if c = 116 then 1 else if c = 114 then 2 else if c = 97 then 3 else if c = 98 then 4 else -1)
def jn (c : Int) (l r : Int32) : Int32 :=
  if c = 37 then (if r = 0 then 0 else l - l / r * r)
  else if c = 38 then (if l = 0 then 0 else if r = 0 then 0 else 1)
  else if c = 42 then l * r
  else if c = 43 then l + r
  else if c = 45 then l - r
  else if c = 47 then (if r = 0 then 0 else l / r)
  else if c = 60 then (if r ≤ l then 0 else 1)
  else if c = 61 then (if l = r then 1 else 0)
  else if c = 62 then (if l ≤ r then 0 else 1)
  else if c = 124 then (if l = 0 then (if r = 0 then 0 else 1) else 1)
  else 0
def sgn (lv : Nat) (c : Int) : Bool := match lv with
  | 0 => decide (c = 124)
  | 1 => decide (c = 38)
  | 2 => decide (c = 60 ∨ c = 61 ∨ c = 62)
  | 3 => decide (c = 43 ∨ c = 45)
  | _ => decide (c = 42 ∨ c = 47 ∨ c = 37)
/-- what is read: whether it goes on, the place, codes, the value by names -/
abbrev PR : Type := Bool × Nat × List Int32 × ((Nat → Int32) → Int32)
def pF (a : Nat) : PR := (false, a, [], fun _ => 0)
def pN (h : Nat → Int) : Nat → Nat → Int → Nat × Int
  | 0, a, v => (a, v)
  | k + 1, a, v => if 48 ≤ h a ∧ h a ≤ 57 then pN h k (a + 1) (10 * v + h a - 48) else (a, v)
def pLoop (h : Nat → Int) (lv : Nat) (g : Nat → PR) : Nat → Nat → List Int32 → ((Nat → Int32) → Int32) → PR
  | 0, a, cs, v => (true, a, cs, v)
  | k + 1, a, cs, v => if sgn lv (h a) = true then (if (g (a + 1)).1 = true then pLoop h lv g k (g (a + 1)).2.1 (cs ++ (g (a + 1)).2.2.1 ++ [iI (-(h a))]) (fun nm => jn (h a) (v nm) ((g (a + 1)).2.2.2 nm)) else pF (g (a + 1)).2.1) else (true, a, cs, v)
def pr (h : Nat → Int) (o : Bool) : Nat → Nat → Nat → Nat → PR
  | 0, _, _, a => pF a
  | f + 1, lv, op, a =>
    if lv < 5 then
      (if (pr h o f (lv + 1) op a).1 = true then pLoop h lv (pr h o f (lv + 1) op) (if lv = 2 then 1 else 50) (pr h o f (lv + 1) op a).2.1 (pr h o f (lv + 1) op a).2.2.1 (pr h o f (lv + 1) op a).2.2.2 else pF (pr h o f (lv + 1) op a).2.1)
    else if 48 ≤ h a ∧ h a ≤ 57 then (true, (pN h 4 a 0).1, [iI (pN h 4 a 0).2], fun _ => iI (pN h 4 a 0).2)
    else if 0 ≤ nmI o (h a) then (true, a + 1, [iI (10000 + nmI o (h a))], fun nm => nm (nmI o (h a)).toNat)
    else if h a = 33 ∧ op < 5 then
      (if (pr h o f 5 (op + 1) (a + 1)).1 = true then (true, (pr h o f 5 (op + 1) (a + 1)).2.1, (pr h o f 5 (op + 1) (a + 1)).2.2.1 ++ [iI (-33)], fun nm => if (pr h o f 5 (op + 1) (a + 1)).2.2.2 nm = 0 then 1 else 0) else pF (pr h o f 5 (op + 1) (a + 1)).2.1)
    else if h a = 40 ∧ op < 5 then
      (if (pr h o f 0 (op + 1) (a + 1)).1 = true then (if h (pr h o f 0 (op + 1) (a + 1)).2.1 = 41 then (true, (pr h o f 0 (op + 1) (a + 1)).2.1 + 1, (pr h o f 0 (op + 1) (a + 1)).2.2.1, (pr h o f 0 (op + 1) (a + 1)).2.2.2) else pF (pr h o f 0 (op + 1) (a + 1)).2.1) else pF (pr h o f 0 (op + 1) (a + 1)).2.1)
    else pF a
theorem pN_sp {h : Nat → Int} {n : Nat} (hz : ∀ a, n ≤ a → h a = -1) : ∀ k a v, a ≤ n → a ≤ (pN h k a v).1 ∧ (pN h k a v).1 ≤ n := by
  intro k
  induction k with
  | zero => intro a v ha; exact ⟨Nat.le_refl _, ha⟩
  | succ k ih =>
    intro a v ha
    simp only [pN]
    split
    · rename_i c
      have hlt : a < n := by
        apply Nat.lt_of_not_le
        intro q
        have := hz a q; omega
      have := ih (a + 1) (10 * v + h a - 48) (by omega)
      omega
    · exact ⟨Nat.le_refl _, ha⟩
theorem pN_1 {h : Nat → Int} {n : Nat} (hz : ∀ a, n ≤ a → h a = -1) {a : Nat} {v : Int} (c : 48 ≤ h a ∧ h a ≤ 57) : a + 1 ≤ (pN h 4 a v).1 ∧ (pN h 4 a v).1 ≤ n := by
  have hlt : a < n := by
    apply Nat.lt_of_not_le
    intro q
    have := hz a q; omega
  have e : pN h 4 a v = pN h 3 (a + 1) (10 * v + h a - 48) := by
    show (if 48 ≤ h a ∧ h a ≤ 57 then _ else _) = _
    rw [if_pos c]
  rw [e]
  exact pN_sp hz 3 (a + 1) _ (by omega)
theorem pN_v {h : Nat → Int} {a : Nat} : 0 ≤ (pN h 4 a 0).2 ∧ (pN h 4 a 0).2 ≤ 9999 := by
  simp only [pN]
  split
  · split
    · split
      · split
        · dsimp only; omega
        · dsimp only; omega
      · dsimp only; omega
    · dsimp only; omega
  · dsimp only; omega
/-- how far it goes -/
def pOK (n a : Nat) (r : PR) : Prop := (r.1 = true → a < r.2.1 ∧ r.2.1 ≤ n ∧ r.2.2.1.length + a ≤ r.2.1) ∧ (r.1 = false → a ≤ r.2.1 ∧ r.2.1 ≤ n)
theorem pF_ok {n a b : Nat} (h1 : a ≤ b) (h2 : b ≤ n) : pOK n a (pF b) := by
  refine ⟨fun h => ?_, fun _ => ⟨h1, h2⟩⟩
  cases h
theorem pLoop_ok {h : Nat → Int} {n lv : Nat} {g : Nat → PR} (hz : ∀ a, n ≤ a → h a = -1) (hg : ∀ a, a ≤ n → pOK n a (g a)) : ∀ k a0 a cs v, a0 < a → a ≤ n → cs.length + a0 ≤ a → pOK n a0 (pLoop h lv g k a cs v) := by
  intro k
  induction k with
  | zero => intro a0 a cs v h1 h2 h3; exact ⟨fun _ => ⟨h1, h2, h3⟩, fun h => by cases h⟩
  | succ k ih =>
    intro a0 a cs v h1 h2 h3
    simp only [pLoop]
    split
    · rename_i c
      have hlt : a < n := by
        apply Nat.lt_of_not_le
        intro q
        have := hz a q
        rw [this] at c
        unfold sgn at c
        split at c <;> simp at c
      have hr := hg (a + 1) (by omega)
      split
      · rename_i c2
        obtain ⟨q1, q2, q3⟩ := hr.1 c2
        apply ih a0 _ _ _ (by omega) q2
        rw [List.length_append, List.length_append, List.length_cons, List.length_nil]; omega
      · rename_i c2
        have := hr.2 (by simpa using c2)
        exact pF_ok (by omega) (by omega)
    · exact ⟨fun _ => ⟨h1, h2, h3⟩, fun h => by cases h⟩
theorem nm_in {o : Bool} {c : Int} (h : 0 ≤ nmI o c) : c ≠ -1 ∧ nmI o c < 5 := by
  unfold nmI at *
  refine ⟨?_, ?_⟩
  · rintro rfl
    cases o <;> simp at h
  · split <;> (repeat' split) <;> omega
theorem pr_ok {h : Nat → Int} {o : Bool} {n : Nat} (hz : ∀ a, n ≤ a → h a = -1) : ∀ f lv op a, a ≤ n → pOK n a (pr h o f lv op a) := by
  intro f
  induction f with
  | zero => intro lv op a ha; exact pF_ok (Nat.le_refl _) ha
  | succ f ih =>
    intro lv op a ha
    have nlt : h a ≠ -1 → a < n := fun q => Nat.lt_of_not_le (fun r => q (hz a r))
    simp only [pr]
    split
    · have hr := ih (lv + 1) op a ha
      split
      · rename_i c
        obtain ⟨q1, q2, q3⟩ := hr.1 c
        exact pLoop_ok hz (fun a ha => ih (lv + 1) op a ha) _ a _ _ _ q1 q2 q3
      · rename_i c
        have := hr.2 (by simpa using c)
        exact pF_ok this.1 this.2
    · split
      · rename_i c
        have := pN_1 hz (v := 0) c
        exact ⟨fun _ => ⟨by dsimp only; omega, this.2, by simp only [List.length_cons, List.length_nil]; omega⟩, fun h => by cases h⟩
      · split
        · rename_i c
          have := nlt (nm_in c).1
          exact ⟨fun _ => ⟨by dsimp only; omega, by dsimp only; omega, by simp only [List.length_cons, List.length_nil]; omega⟩, fun h => by cases h⟩
        · split
          · rename_i c
            have := nlt (by omega)
            have hr := ih 5 (op + 1) (a + 1) (by omega)
            split
            · rename_i c2
              obtain ⟨q1, q2, q3⟩ := hr.1 c2
              exact ⟨fun _ => ⟨by dsimp only; omega, q2, by rw [List.length_append]; simp only [List.length_cons, List.length_nil]; omega⟩, fun h => by cases h⟩
            · rename_i c2
              have := hr.2 (by simpa using c2)
              exact pF_ok (by omega) (by omega)
          · split
            · rename_i c
              have := nlt (by omega)
              have hr := ih 0 (op + 1) (a + 1) (by omega)
              split
              · rename_i c2
                obtain ⟨q1, q2, q3⟩ := hr.1 c2
                split
                · rename_i c3
                  have hl : (pr h o f 0 (op + 1) (a + 1)).2.1 < n := Nat.lt_of_not_le (fun r => by have := hz _ r; omega)
                  exact ⟨fun _ => ⟨by dsimp only; omega, by dsimp only; omega, by dsimp only; omega⟩, fun h => by cases h⟩
                · exact pF_ok (by omega) (by omega)
              · rename_i c2
                have := hr.2 (by simpa using c2)
                exact pF_ok (by omega) (by omega)
            · exact pF_ok (Nat.le_refl _) ha
/-- bytes, and behind them none -/
def hB (B : Nat → Int) (n : Nat) (i : Nat) : Int := if i < n then B i else -1
theorem hB_z {B : Nat → Int} {n : Nat} : ∀ a, n ≤ a → hB B n a = -1 := by
  intro a ha
  unfold hB; rw [if_neg (by omega)]
/-- a text of a use: its bytes and its codes -/
def TxR (u : Nat) (len : Int32) (codes : Nat → Int32) (n : Int) (B : Nat → Int) : Prop :=
  (n = 0 ∧ len = nI 0) ∨ ((1 ≤ n ∧ n ≤ 50) ∧ (∀ i, i < n.toNat → 0 ≤ B i ∧ B i ≤ 255) ∧ (pr (hB B n.toNat) (decide (u < 6)) 41 0 0 0).1 = true ∧ (pr (hB B n.toNat) (decide (u < 6)) 41 0 0 0).2.1 = n.toNat ∧ len = nI (pr (hB B n.toNat) (decide (u < 6)) 41 0 0 0).2.2.1.length ∧ ∀ i, i < (pr (hB B n.toNat) (decide (u < 6)) 41 0 0 0).2.2.1.length → codes i = (pr (hB B n.toNat) (decide (u < 6)) 41 0 0 0).2.2.1.getD i 0)
theorem TxR.len {u : Nat} {len : Int32} {codes : Nat → Int32} {n : Int} {B : Nat → Int} (h : TxR u len codes n B) : ∃ l : Nat, l ≤ 50 ∧ len = nI l := by
  rcases h with ⟨_, h⟩ | ⟨h1, _, h3, h4, h5, _⟩
  · exact ⟨0, by omega, h⟩
  · refine ⟨_, ?_, h5⟩
    have := (pr_ok (h := hB B n.toNat) (o := decide (u < 6)) hB_z 41 0 0 0 (Nat.zero_le _)).1 h3
    omega
theorem TxR.frame {u : Nat} {len : Int32} {codes codes' : Nat → Int32} {n : Int} {B B' : Nat → Int} (h : TxR u len codes n B) (hc : ∀ l, l ≤ 50 → len = nI l → ∀ i, i < l → codes' i = codes i) (hb : ∀ i, i < 50 → B' i = B i) : TxR u len codes' n B' := by
  have hl := h.len
  rcases h with h | ⟨h1, h2, h3, h4, h5, h6⟩
  · exact Or.inl h
  · right
    have e : hB B' n.toNat = hB B n.toNat := by
      funext i
      unfold hB
      split
      · exact hb i (by omega)
      · rfl
    rw [e]
    have := (pr_ok (h := hB B n.toNat) (o := decide (u < 6)) hB_z 41 0 0 0 (Nat.zero_le _)).1 h3
    refine ⟨h1, fun i hi => by rw [hb i (by omega)]; exact h2 i hi, h3, h4, h5, fun i hi => ?_⟩
    rw [hc _ (by omega) h5 i hi]; exact h6 i hi
