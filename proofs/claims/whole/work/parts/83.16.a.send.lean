/-! 16.a: a word is sent -/
theorem GL.set {M : Mem} {p : Nat} {D : Nat → Int} (hL : GL M p D) {n f : Nat} {v : Int} (hn : (n : Int) = D 2) (hn80 : n < 80) (hf : f < 8) : GL (nq_wr M (p + 1 + f) n (iI v)) p (upI D (610 + 8 * n + f) v) := by
  obtain ⟨g1, g2, g3, g4, g5, g6⟩ := hL
  have eA : arrL (upI D (610 + 8 * n + f) v) = arrL D := by
    unfold arrL
    rw [upI_n (by omega)]
    congr 1
    funext y
    apply List.filter_congr
    intro w hw
    rw [List.mem_range] at hw
    rw [upI_n (by omega)]
  refine ⟨?_, ?_, ?_, ?_, ?_, ?_⟩
  · rw [wr_k (by omega), upI_n (by omega)]; exact g1
  · rw [upI_n (by omega)]; exact g2
  · intro w hw f' hf'
    by_cases e : w = n ∧ f' = f
    · obtain ⟨rfl, rfl⟩ := e
      rw [wr_s ⟨rfl, rfl⟩, upI_s rfl]
    · rw [wr_n (by omega), upI_n (by omega)]; exact g3 w hw f' hf'
  · rw [wr_k (by omega), eA]; exact g4
  · rw [eA]
    intro i hi
    rw [wr_k (by omega)]; exact g5 i hi
  · intro w hw
    rw [upI_n (by omega)] at hw
    obtain ⟨a0, a1, a2, a3, a4, a5, a6, a7, a8⟩ := g6 w hw
    unfold wordOK
    rw [upI_n (by omega), upI_n (by omega), upI_n (by omega), upI_n (by omega), upI_n (by omega), upI_n (by omega), upI_n (by omega), upI_n (by omega)]
    exact ⟨a0, a1, a2, a3, a4, a5, a6, a7, a8.frame (upI_n (by omega)) (fun v hv => upI_n (by omega))⟩
theorem bkt_add {D : Nat → Int} {n y : Nat} (hn : (n : Int) = D 2) : bkt (upI D 2 (D 2 + 1)) y = bkt D y ++ (if D (615 + 8 * n) = (y : Int) then [n] else []) := by
  unfold bkt
  rw [upI_s rfl, show (D 2 + 1).toNat = n + 1 by omega, show (D 2).toNat = n by omega, List.range_succ, List.filter_append]
  congr 1
  · apply List.filter_congr
    intro w _
    rw [upI_n (by omega)]
  · rw [List.filter_cons, upI_n (by omega)]
    by_cases c : D (615 + 8 * n) = (y : Int)
    · simp [c]
    · simp [c]
theorem arrU_lost {D : Nat → Int} {n : Nat} (hn : (n : Int) = D 2) : ∀ Y : Nat, (D (615 + 8 * n) < 0 ∨ (Y : Int) ≤ D (615 + 8 * n)) → arrU (upI D 2 (D 2 + 1)) Y = arrU D Y := by
  intro Y
  induction Y with
  | zero => intro _; rfl
  | succ Y ih =>
    intro hc
    rw [arrU_succ, arrU_succ, ih (by omega), bkt_add hn, if_neg (by omega), List.append_nil]
theorem arrU_new {D : Nat → Int} {n : Nat} (hn : (n : Int) = D 2) (h0 : 0 ≤ D (615 + 8 * n)) : ∀ Z : Nat, D (615 + 8 * n) < (Z : Int) → ∃ B, arrU D Z = arrU D (D (615 + 8 * n) + 1).toNat ++ B ∧ arrU (upI D 2 (D 2 + 1)) Z = arrU D (D (615 + 8 * n) + 1).toNat ++ n :: B ∧ ∀ w, w ∈ B → D (615 + 8 * n) < D (615 + 8 * w) := by
  intro Z
  induction Z with
  | zero => intro h; omega
  | succ Z ih =>
    intro hc
    by_cases e : D (615 + 8 * n) = (Z : Int)
    · refine ⟨[], ?_, ?_, fun w hw => by cases hw⟩
      · rw [List.append_nil, show (D (615 + 8 * n) + 1).toNat = Z + 1 by omega]
      · rw [arrU_succ, arrU_lost hn Z (by omega), bkt_add hn, if_pos e, show (D (615 + 8 * n) + 1).toNat = Z + 1 by omega, arrU_succ, List.append_assoc]
    · obtain ⟨B, h1, h2, h3⟩ := ih (by omega)
      refine ⟨B ++ bkt D Z, ?_, ?_, ?_⟩
      · rw [arrU_succ, h1, List.append_assoc]
      · rw [arrU_succ, h2, bkt_add hn, if_neg e, List.append_nil]; simp
      · intro w hw
        rcases List.mem_append.mp hw with hw | hw
        · exact h3 w hw
        · have := bkt_mem.mp hw; omega
/-- one more word counts -/
theorem GL.addLost {M : Mem} {p n : Nat} {D : Nat → Int} (hL : GL M p D) (hn : (n : Int) = D 2) (hn80 : n < 80) (hok : wordOK D n) (hc : D (615 + 8 * n) = -1) : GL (nq_wr M p 0 (iI (D 2 + 1))) p (upI D 2 (D 2 + 1)) := by
  obtain ⟨g1, g2, g3, g4, g5, g6⟩ := hL
  have eA : arrL (upI D 2 (D 2 + 1)) = arrL D := arrU_lost hn 11000 (by omega)
  refine ⟨?_, ?_, ?_, ?_, ?_, ?_⟩
  · rw [wr_s ⟨rfl, rfl⟩, upI_s rfl]
  · rw [upI_s rfl]; omega
  · intro w hw f hf; rw [wr_k (by omega), upI_n (by omega)]; exact g3 w hw f hf
  · rw [wr_n (by omega), eA]; exact g4
  · rw [eA]; intro i hi; rw [wr_k (by omega)]; exact g5 i hi
  · intro w hw
    rw [upI_s rfl] at hw
    have : wordOK D w := by
      by_cases e : w = n
      · subst e; exact hok
      · exact g6 w (by omega)
    obtain ⟨a0, a1, a2, a3, a4, a5, a6, a7, a8⟩ := this
    unfold wordOK
    rw [upI_n (by omega), upI_n (by omega), upI_n (by omega), upI_n (by omega), upI_n (by omega), upI_n (by omega), upI_n (by omega), upI_n (by omega)]
    exact ⟨a0, a1, a2, a3, a4, a5, a6, a7, a8.frame (upI_n (by omega)) (fun v hv => upI_n (by omega))⟩
theorem GL.addNew {M : Mem} {p n : Nat} {D : Nat → Int} (hL : GL M p D) (hn : (n : Int) = D 2) (hn80 : n < 80) (hok : wordOK D n) (hc : 0 ≤ D (615 + 8 * n)) : ∃ M', fX0_queue p (iI n) (nq_wr M p 0 (iI (D 2 + 1))) = some M' ∧ (∀ k, (k < p ∨ p + 10 ≤ k) → M' k = M k) ∧ GL M' p (upI D 2 (D 2 + 1)) := by
  have hL' := hL
  obtain ⟨g1, g2, g3, g4, g5, g6⟩ := hL'
  have k6 := hok.2.2.2.2.2.1
  obtain ⟨B, e1, e2, e3⟩ := arrU_new hn hc 11000 (by omega)
  have e1' : arrL D = arrU D (D (615 + 8 * n) + 1).toNat ++ B := e1
  have e2' : arrL (upI D 2 (D 2 + 1)) = arrU D (D (615 + 8 * n) + 1).toNat ++ n :: B := e2
  have hA : ∀ v, v ∈ arrU D (D (615 + 8 * n) + 1).toNat → D (615 + 8 * v) ≤ D (615 + 8 * n) := by
    intro v hv
    have := arrU_mem.mp hv; omega
  generalize hAA : arrU D (D (615 + 8 * n) + 1).toNat = A at *
  have len : A.length + B.length ≤ n := by
    have h1 := (arrL_perm D).length_eq
    have h2 := List.length_filter_le (fun w => decide (0 ≤ D (615 + 8 * w) ∧ D (615 + 8 * w) < ((11000 : Nat) : Int))) (List.range (D 2).toNat)
    rw [List.length_range] at h2
    rw [e1', List.length_append] at h1
    omega
  obtain ⟨M', x1, x2, x3, x4, x5⟩ := queue8 (M := nq_wr M p 0 (iI (D 2 + 1))) (p := p) (w := n) (A := A) (B := B) (cm := fun w => D (615 + 8 * w)) (by omega)
    (by rw [wr_n (by omega), g4, iI_nat, e1', List.length_append])
    (by intro i hi; rw [wr_k (by omega), g5 i (by rw [e1', List.length_append]; exact hi), iI_nat, e1'])
    (by
      intro v hv
      have hm : v ∈ arrL D := by rw [e1']; exact hv
      have := arrL_mem hm
      have kv := (g6 v (by omega)).2.2.2.2.2.1
      have fv := (hL.fld (show v < 80 by omega)).2.2.2.2.2.1
      refine ⟨by omega, ?_, by omega⟩
      rw [wr_k (by omega)]; exact fv)
    (by
      have fv := (hL.fld hn80).2.2.2.2.2.1
      refine ⟨hn80, ?_, by omega⟩
      rw [wr_k (by omega)]; exact fv)
    hA e3
  refine ⟨M', x1, ?_, ?_, ?_, ?_, ?_, ?_, ?_⟩
  · intro k hk; rw [x2 k (by omega) (by omega), wr_k (by omega)]
  · rw [x3 0 (by omega), wr_s ⟨rfl, rfl⟩, upI_s rfl]
  · rw [upI_s rfl]; omega
  · intro w hw f hf; rw [x2 _ (by omega) (by omega), wr_k (by omega), upI_n (by omega)]; exact g3 w hw f hf
  · rw [x4, e2', List.length_append, List.length_cons, iI_nat]; rfl
  · rw [e2']
    intro i hi
    rw [List.length_append, List.length_cons] at hi
    rw [x5 i (by omega), iI_nat]
  · intro w hw
    rw [upI_s rfl] at hw
    have : wordOK D w := by
      by_cases e : w = n
      · subst e; exact hok
      · exact g6 w (by omega)
    obtain ⟨a0, a1, a2, a3, a4, a5, a6, a7, a8⟩ := this
    unfold wordOK
    rw [upI_n (by omega), upI_n (by omega), upI_n (by omega), upI_n (by omega), upI_n (by omega), upI_n (by omega), upI_n (by omega), upI_n (by omega)]
    exact ⟨a0, a1, a2, a3, a4, a5, a6, a7, a8.frame (upI_n (by omega)) (fun v hv => upI_n (by omega))⟩
/-- the row behind a word that is sent: its fields v, the draw z -/
def sD (D : Nat → Int) (v : Nat → Int) (z : Int) : Nat → Int := fun j => if j = 2 then D 2 + 1 else if j = 4 then z else if 610 + 8 * (D 2).toNat ≤ j ∧ j < 618 + 8 * (D 2).toNat then v (j - (610 + 8 * (D 2).toNat)) else D j
def vF (k a b p s c t d : Int) : Nat → Int := fun f => if f = 0 then k else if f = 1 then a else if f = 2 then b else if f = 3 then p else if f = 4 then s else if f = 5 then c else if f = 6 then t else d
/-- how deep one knows, by the words -/
def dpI (D : Nat → Int) (x y Y : Int) : Int := (arrU D (Y + 1).toNat).foldl (dG D x y) 0
theorem dpI_range {D : Nat → Int} {x y Y : Int} (hY : 0 ≤ Y) : dpI D x y Y = (List.range (D 2).toNat).foldl (fun a w => if 0 ≤ D (615 + 8 * w) ∧ D (615 + 8 * w) ≤ Y then dG D x y a w else a) 0 := arr_fold hY dG_comm
theorem dpI_bd {M : Mem} {p : Nat} {D : Nat → Int} (hL : GL M p D) {x y Y : Int} (hY : 0 ≤ Y) : 0 ≤ dpI D x y Y ∧ dpI D x y Y ≤ D 2 := by
  rw [dpI_range hY]
  have key : ∀ (l : List Nat) (a : Int), (∀ w, w ∈ l → (w : Int) < D 2) → 0 ≤ a ∧ a ≤ D 2 → 0 ≤ l.foldl (fun a w => if 0 ≤ D (615 + 8 * w) ∧ D (615 + 8 * w) ≤ Y then dG D x y a w else a) a ∧ l.foldl (fun a w => if 0 ≤ D (615 + 8 * w) ∧ D (615 + 8 * w) ≤ Y then dG D x y a w else a) a ≤ D 2 := by
    intro l
    induction l with
    | nil => intro a _ ha; exact ha
    | cons w l ih =>
      intro a hl ha
      rw [List.foldl_cons]
      apply ih _ (fun v hv => hl v (by simp [hv]))
      have k8 := (hL.2.2.2.2.2 w (hl w (by simp))).2.2.2.2.2.2.2.1
      have := hl w (by simp)
      unfold dG
      split
      · split
        · split <;> omega
        · exact ha
      · exact ha
  have w1 := hL.2.1
  apply key _ _ _ (by omega)
  intro w hw
  rw [List.mem_range] at hw; omega
theorem add8 {M : Mem} {p n : Nat} {D : Nat → Int} (hL : GL M p D) (hn : (n : Int) = D 2) (hn80 : n < 80) {k a b pc s c t z : Int} (hk : 0 ≤ k ∧ k ≤ 6) (ha : 0 ≤ a ∧ a ≤ 5) (hb : 0 ≤ b ∧ b ≤ 5) (hp : 0 ≤ pc ∧ pc ≤ 3) (hs : 0 ≤ s ∧ s ≤ 399) (hs0 : s = D 0) (hc : -1 ≤ c ∧ c ≤ 10500) (ht : 0 ≤ t ∧ t ≤ 99) : ∃ M', fX0_add p (iI k) (iI (10 * a + b)) (iI pc) (iI s) (iI c) (iI t) M = some (iI n, M') ∧ (∀ q, (q < p ∨ p + 10 ≤ q) → M' q = M q) ∧ GL M' p (sD D (vF k a b pc s c t (1 + dpI D a pc s)) z) := by
  have w1 := hL.2.1
  have dm : (10 * a + b) / 10 = a := by omega
  have dr : (10 * a + b) % 10 = b := by omega
  have l1 := hL.set (f := 0) (v := k) hn hn80 (by omega)
  have l2 := l1.set (f := 1) (v := a) (n := n) (by rw [upI_n (by omega)]; exact hn) hn80 (by omega)
  have l3 := l2.set (f := 2) (v := b) (n := n) (by rw [upI_n (by omega), upI_n (by omega)]; exact hn) hn80 (by omega)
  have l4 := l3.set (f := 3) (v := pc) (n := n) (by rw [upI_n (by omega), upI_n (by omega), upI_n (by omega)]; exact hn) hn80 (by omega)
  have l5 := l4.set (f := 4) (v := s) (n := n) (by rw [upI_n (by omega), upI_n (by omega), upI_n (by omega), upI_n (by omega)]; exact hn) hn80 (by omega)
  have l6 := l5.set (f := 5) (v := c) (n := n) (by rw [upI_n (by omega), upI_n (by omega), upI_n (by omega), upI_n (by omega), upI_n (by omega)]; exact hn) hn80 (by omega)
  have l7 := l6.set (f := 6) (v := t) (n := n) (by rw [upI_n (by omega), upI_n (by omega), upI_n (by omega), upI_n (by omega), upI_n (by omega), upI_n (by omega)]; exact hn) hn80 (by omega)
  generalize hD7 : upI (upI (upI (upI (upI (upI (upI D (610 + 8 * n + 0) k) (610 + 8 * n + 1) a) (610 + 8 * n + 2) b) (610 + 8 * n + 3) pc) (610 + 8 * n + 4) s) (610 + 8 * n + 5) c) (610 + 8 * n + 6) t = D7 at l7
  have d7n : ∀ j, (j < 610 + 8 * n ∨ 617 + 8 * n ≤ j) → D7 j = D j := by
    intro j hj
    rw [← hD7, upI_n (by omega), upI_n (by omega), upI_n (by omega), upI_n (by omega), upI_n (by omega), upI_n (by omega), upI_n (by omega)]
  have d7v : ∀ f, f < 7 → D7 (610 + 8 * n + f) = vF k a b pc s c t (1 + dpI D a pc s) f := by
    intro f hf
    rw [← hD7]
    have : f = 0 ∨ f = 1 ∨ f = 2 ∨ f = 3 ∨ f = 4 ∨ f = 5 ∨ f = 6 := by omega
    rcases this with rfl | rfl | rfl | rfl | rfl | rfl | rfl <;> simp (disch := omega) only [upI_s, upI_n] <;> rfl
  have hdp : dpI D7 a pc s = dpI D a pc s := by
    rw [dpI_range hs.1, dpI_range hs.1, d7n 2 (by omega)]
    apply foldl_cong
    intro x w hw
    rw [List.mem_range] at hw
    unfold dG
    rw [d7n _ (by omega), d7n _ (by omega), d7n _ (by omega), d7n _ (by omega)]
  have bd := dpI_bd hL (x := a) (y := pc) hs.1
  have l8 := l7.set (f := 7) (v := 1 + dpI D a pc s) (n := n) (by rw [d7n 2 (by omega)]; exact hn) hn80 (by omega)
  generalize hM7 : nq_wr (nq_wr (nq_wr (nq_wr (nq_wr (nq_wr (nq_wr M (p + 1 + 0) n (iI k)) (p + 1 + 1) n (iI a)) (p + 1 + 2) n (iI b)) (p + 1 + 3) n (iI pc)) (p + 1 + 4) n (iI s)) (p + 1 + 5) n (iI c)) (p + 1 + 6) n (iI t) = M7 at l7 l8
  have m7k : ∀ q, (q < p ∨ p + 10 ≤ q) → M7 q = M q := by
    intro q hq
    rw [← hM7, wr_k (by omega), wr_k (by omega), wr_k (by omega), wr_k (by omega), wr_k (by omega), wr_k (by omega), wr_k (by omega)]
  have m72 : M7 (p + 2) n = iI a := by
    have := l7.2.2.1 n hn80 1 (by omega)
    rw [d7v 1 (by omega)] at this; exact this
  have hdeep := deepest8 l7 (x := a) (y := pc) (Y := s) (by omega) (by omega) (by omega)
  rw [show (arrU D7 (s + 1).toNat).foldl (dG D7 a pc) 0 = dpI D7 a pc s from rfl, hdp] at hdeep
  -- the fields behind all eight
  have d8v : ∀ f, f < 8 → upI D7 (610 + 8 * n + 7) (1 + dpI D a pc s) (610 + 8 * n + f) = vF k a b pc s c t (1 + dpI D a pc s) f := by
    intro f hf
    by_cases e : f = 7
    · subst e; rw [upI_s rfl]; rfl
    · rw [upI_n (by omega)]; exact d7v f (by omega)
  have d8n : ∀ j, (j < 610 + 8 * n ∨ 618 + 8 * n ≤ j) → upI D7 (610 + 8 * n + 7) (1 + dpI D a pc s) j = D j := by
    intro j hj
    rw [upI_n (by omega)]; exact d7n j (by omega)
  generalize hD8 : upI D7 (610 + 8 * n + 7) (1 + dpI D a pc s) = D8 at l8 d8v d8n
  have ok8 : wordOK D8 n := by
    have q0 := d8v 0 (by omega)
    have q1 := d8v 1 (by omega)
    have q2 := d8v 2 (by omega)
    have q3 := d8v 3 (by omega)
    have q4 := d8v 4 (by omega)
    have q5 := d8v 5 (by omega)
    have q6 := d8v 6 (by omega)
    have q7 := d8v 7 (by omega)
    unfold wordOK
    rw [show 610 + 8 * n = 610 + 8 * n + 0 by omega, show 611 + 8 * n = 610 + 8 * n + 1 by omega, show 612 + 8 * n = 610 + 8 * n + 2 by omega, show 613 + 8 * n = 610 + 8 * n + 3 by omega, show 614 + 8 * n = 610 + 8 * n + 4 by omega, show 615 + 8 * n = 610 + 8 * n + 5 by omega, show 616 + 8 * n = 610 + 8 * n + 6 by omega, show 617 + 8 * n = 610 + 8 * n + 7 by omega, q0, q1, q2, q3, q4, q5, q6, q7]
    refine ⟨hk, ha, hb, hp, hs, hc, ht, ?_, ?_⟩
    · show 1 ≤ 1 + dpI D a pc s ∧ 1 + dpI D a pc s ≤ (n : Int) + 1
      omega
    · have e4 : D8 (614 + 8 * n) = s := by
        rw [show 614 + 8 * n = 610 + 8 * n + 4 by omega, q4]; rfl
      refine ⟨?_, ?_⟩
      · rw [e4, d8n 0 (by omega), hs0]; exact Int.le_refl _
      · intro v hv
        rw [e4, d8n _ (by omega), hs0]
        exact (hL.2.2.2.2.2 v (by omega)).2.2.2.2.2.2.2.2.1
  have c8 : D8 (615 + 8 * n) = c := by
    have := d8v 5 (by omega)
    rw [show 615 + 8 * n = 610 + 8 * n + 5 by omega, this]; rfl
  have n8 : (n : Int) = D8 2 := by rw [d8n 2 (by omega)]; exact hn
  have fin : ∀ j, (j = 0 ∨ j = 2 ∨ (610 ≤ j ∧ j < 1250)) → sD D (vF k a b pc s c t (1 + dpI D a pc s)) z j = upI D8 2 (D8 2 + 1) j := by
    intro j hj
    unfold sD
    by_cases e2 : j = 2
    · subst e2; rw [if_pos rfl, upI_s rfl, ← n8, hn]
    · rw [if_neg e2, if_neg (by omega), upI_n e2]
      by_cases e3 : 610 + 8 * (D 2).toNat ≤ j ∧ j < 618 + 8 * (D 2).toNat
      · rw [if_pos e3, ← d8v (j - (610 + 8 * (D 2).toNat)) (by omega)]
        congr 1; omega
      · rw [if_neg e3, d8n j (by omega)]
  have m0 : M p 0 = iI n := by rw [hn]; exact hL.1
  have m70 : M7 p 0 = iI n := by rw [hn, ← d7n 2 (by omega)]; exact l7.1
  have hM7' : nq_wr (nq_wr (nq_wr (nq_wr (nq_wr (nq_wr (nq_wr M (p + 1) n (iI k)) (p + 2) n (iI a)) (p + 3) n (iI b)) (p + 4) n (iI pc)) (p + 5) n (iI s)) (p + 6) n (iI c)) (p + 7) n (iI t) = M7 := hM7
  have m8e : nq_wr M7 (p + 1 + 7) n (iI (1 + dpI D a pc s)) = nq_wr M7 (p + 8) n (iI (1 + dpI D a pc s)) := rfl
  rw [m8e] at l8
  by_cases cc : c < 0
  · have l9 := l8.addLost n8 hn80 ok8 (by omega)
    rw [← n8] at l9
    refine ⟨nq_wr (nq_wr M7 (p + 8) n (iI (1 + dpI D a pc s))) p 0 (iI ((n : Int) + 1)), ?_, ?_, l9.frame (fun _ _ _ => rfl) (fun j hj => by rw [fin j hj, ← n8])⟩
    · unfold fX0_add
      simp (disch := omega) only [il_0, il_1, il_2, il_3, il_4, il_5, il_6, il_7, il_8, il_9, il_10, il_11, il_12, il_13, il_16, il_20, il_30, il_31, il_32, il_33, il_36, il_37, il_38, il_40, il_41, il_42, il_43, il_45, il_47, il_48, il_50, il_57, il_60, il_61, il_62, il_70, il_71, il_79, il_80, il_97, il_98, il_99, il_100, il_107, il_110, il_111, il_114, il_115, il_116, il_121, il_124, il_128, il_130, il_140, il_160, il_255, il_399, il_540, il_590, il_610, il_999, il_1000, il_1250, il_10000, il_12345, il_99999, il_1000000, il_1103515245, ll_0, ll_1, ll_2, ll_3, ll_4, ll_5, ll_6, ll_7, ll_8, ll_9, ll_30, ll_48, ll_50, ll_57, ll_99, ll_100, ll_255, ll_399, ll_999, ll_99999, nq_bs, nq_ltS, nq_b2S, b2_id, bi_id, iI_add, iI_sub, iI_mul, iI_neg, lI_neg, iI_64, iI_lt, iI_le, iI_eq, iI_ag, iI_as, iI_ar, iI_dv, iI_rem, isOut8, in9, bo_nz, bo_t, bo_f, wr_s, wr_n, wr_k, if_pos, if_neg, ↓reduceIte, Nat.reduceAdd, Nat.reduceMul, Nat.reduceSub, Nat.reduceEqDiff, Int.reduceToNat, Int.toNat_natCast, Int.reduceNeg, Int.reduceAdd, Int.reduceSub, Int.reduceMul, m0, dm, dr, hM7', m72, hdeep, m70]
    · intro q hq; rw [wr_k (by omega), wr_k (by omega)]; exact m7k q hq
  · obtain ⟨M', x1, x2, x3⟩ := l8.addNew n8 hn80 ok8 (by omega)
    rw [← n8] at x1
    refine ⟨M', ?_, ?_, x3.frame (fun _ _ _ => rfl) fin⟩
    · unfold fX0_add
      simp (disch := omega) only [il_0, il_1, il_2, il_3, il_4, il_5, il_6, il_7, il_8, il_9, il_10, il_11, il_12, il_13, il_16, il_20, il_30, il_31, il_32, il_33, il_36, il_37, il_38, il_40, il_41, il_42, il_43, il_45, il_47, il_48, il_50, il_57, il_60, il_61, il_62, il_70, il_71, il_79, il_80, il_97, il_98, il_99, il_100, il_107, il_110, il_111, il_114, il_115, il_116, il_121, il_124, il_128, il_130, il_140, il_160, il_255, il_399, il_540, il_590, il_610, il_999, il_1000, il_1250, il_10000, il_12345, il_99999, il_1000000, il_1103515245, ll_0, ll_1, ll_2, ll_3, ll_4, ll_5, ll_6, ll_7, ll_8, ll_9, ll_30, ll_48, ll_50, ll_57, ll_99, ll_100, ll_255, ll_399, ll_999, ll_99999, nq_bs, nq_ltS, nq_b2S, b2_id, bi_id, iI_add, iI_sub, iI_mul, iI_neg, lI_neg, iI_64, iI_lt, iI_le, iI_eq, iI_ag, iI_as, iI_ar, iI_dv, iI_rem, isOut8, in9, bo_nz, bo_t, bo_f, wr_s, wr_n, wr_k, if_pos, if_neg, ↓reduceIte, Nat.reduceAdd, Nat.reduceMul, Nat.reduceSub, Nat.reduceEqDiff, Int.reduceToNat, Int.toNat_natCast, Int.reduceNeg, Int.reduceAdd, Int.reduceSub, Int.reduceMul, m0, dm, dr, hM7', m72, hdeep, m70, x1]
    · intro q hq; rw [x2 q hq, wr_k (by omega)]; exact m7k q hq
