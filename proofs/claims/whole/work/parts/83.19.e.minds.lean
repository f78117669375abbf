/-! 19.e: minds: both loops, the hop -/
theorem mi4 {Mx : Mem} {D : Nat → Int} {x a b k7 : Nat} {w : Int} (hT : GT Mx 23 D) (hx : x < 2) (hw : 0 ≤ w ∧ w ≤ 1) (ha : a < 10) (hb : b < 10) (h7 : k7 < 16) (c : Int) (M : Mem) (hP : PX Mx M) : ∃ M', PX Mx M' ∧ nq_lp (fun s : Int32 × Int32 × Mem => fX8_minds_B77_43_56_66 (23 + 2 * (6 + x)) (iI w) s.1 (iI a) (iI b) (iI k7) s.2.1 s.2.2) nq_fuel (iI c, iI (((0 : Nat) : Int) - 2), M) = (match runL (gM (tmC D x) w) ((List.range' 0 5).flatMap fun y => [cdA a b (k7 / 4) (k7 % 4) y]) c with | .inl c' => some (.inl (iI c', M')) | .inr r => some (.inr (iI r, M'))) := by
  refine lpN (PX Mx) 5 (fun k => iI ((k : Int) - 2)) (gM (tmC D x) w) (fun y => [cdA a b (k7 / 4) (k7 % 4) y]) ?_ ?_ 5 0 nq_fuel c M rfl (by unfold nq_fuel; omega) hP
  · intro k c M hk hP
    obtain ⟨M', e1, hP'⟩ := two8 (a := (a : Int)) (b := (b : Int)) (o := ((k7 / 4 : Nat) : Int)) (t := ((k7 % 4 : Nat) : Int)) (y := (k : Int) - 2) hT hx (by omega) (by omega) hP
    have e7 : (4 * ((k7 / 4 : Nat) : Int) + ((k7 % 4 : Nat) : Int)) = (k7 : Int) := by omega
    rw [e7] at e1
    refine ⟨M', hP', ?_⟩
    have hG : tmC D x (cdA a b (k7 / 4) (k7 % 4) k) = tmB D x a b ((k7 / 4 : Nat) : Int) ((k7 % 4 : Nat) : Int) ((k : Int) - 2) := tmC_cd hb (by omega) (by omega) (by omega)
    show fX8_minds_B77_43_56_66 (23 + 2 * (6 + x)) (iI w) (iI c) (iI a) (iI b) (iI k7) (iI ((k : Int) - 2)) M = _
    unfold fX8_minds_B77_43_56_66
    rw [if_neg (by rw [il_2, iI_lt (by omega) (by omega)]; omega), e1, nq_b2S]
    simp only [runL]
    unfold gM
    rw [hG]
    have hk1 : ((k + 1 : Nat) : Int) - 2 = (k : Int) - 2 + 1 := by omega
    cases hv : tmB D x a b ((k7 / 4 : Nat) : Int) ((k7 % 4 : Nat) : Int) ((k : Int) - 2) with
    | false =>
      rw [if_pos (by decide), if_neg (by decide), nq_ltS, il_1, iI_add, hk1]
    | true =>
      rw [if_neg (by decide), if_pos rfl]
      by_cases cw : w = 1
      · rw [if_pos (by rw [il_1, iI_eq (by omega) (by omega)]; exact cw), if_pos cw]
        have ec : ((cdA a b (k7 / 4) (k7 % 4) k : Nat) : Int) = 10000 * (a : Int) + 1000 * (b : Int) + 100 * ((k7 : Int) / 4) + 10 * ((k7 : Int) % 4) + ((k : Int) - 2) + 2 := by unfold cdA; omega
        rw [ec, il_4, iI_dv (by omega) (by omega) (by omega) (by omega), nq_bs, iI_rem (by omega) (by omega) (by omega) (by omega), nq_bs]
        simp only [il_10000, il_1000, il_100, il_10, il_2, iI_mul, iI_add]
      · rw [if_neg (by rw [il_1, iI_eq (by omega) (by omega)]; exact cw), if_neg cw, nq_ltS, nq_ltS, il_1, iI_add, iI_add, hk1]
  · intro c M hP
    show fX8_minds_B77_43_56_66 (23 + 2 * (6 + x)) (iI w) (iI c) (iI a) (iI b) (iI k7) (iI (((5 : Nat) : Int) - 2)) M = _
    unfold fX8_minds_B77_43_56_66
    rw [if_pos (by decide)]
theorem mi3 {Mx : Mem} {D : Nat → Int} {x a b : Nat} {w : Int} (hT : GT Mx 23 D) (hx : x < 2) (hw : 0 ≤ w ∧ w ≤ 1) (ha : a < 10) (hb : b < 10) (c : Int) (M : Mem) (hP : PX Mx M) : ∃ M', PX Mx M' ∧ nq_lp (fun s : Int32 × Int32 × Mem => fX8_minds_B66_43_56 (23 + 2 * (6 + x)) (iI w) s.1 (iI a) (iI b) s.2.1 s.2.2) nq_fuel (iI c, iI ((0 : Nat) : Int), M) = (match runL (gM (tmC D x) w) ((List.range' 0 16).flatMap fun k7 => (List.range' 0 5).flatMap fun y => [cdA a b (k7 / 4) (k7 % 4) y]) c with | .inl c' => some (.inl (iI c', M')) | .inr r => some (.inr (iI r, M'))) := by
  refine lpN (PX Mx) 16 (fun k => iI (k : Int)) (gM (tmC D x) w) (fun k7 => (List.range' 0 5).flatMap fun y => [cdA a b (k7 / 4) (k7 % 4) y]) ?_ ?_ 16 0 nq_fuel c M rfl (by unfold nq_fuel; omega) hP
  · intro k c M hk hP
    obtain ⟨M', hP', e1⟩ := mi4 (k7 := k) hT hx hw ha hb hk c M hP
    refine ⟨M', hP', ?_⟩
    show fX8_minds_B66_43_56 (23 + 2 * (6 + x)) (iI w) (iI c) (iI a) (iI b) (iI k) M = _
    unfold fX8_minds_B66_43_56 fX8_minds_L77_43_56_66 fX8_minds_L148_43_56_66
    rw [if_neg (by rw [il_16, iI_le (by omega) (by omega)]; omega), show (-2 : Int32) = iI (((0 : Nat) : Int) - 2) by decide, e1]
    cases runL (gM (tmC D x) w) ((List.range' 0 5).flatMap fun y => [cdA a b (k / 4) (k % 4) y]) c with
    | inl c' =>
      dsimp only
      rw [nq_bs, Sum.elim_inl, nq_ltS, il_1, iI_add]
      rfl
    | inr r =>
      dsimp only
      rw [nq_bs, Sum.elim_inr]
  · intro c M hP
    show fX8_minds_B66_43_56 (23 + 2 * (6 + x)) (iI w) (iI c) (iI a) (iI b) (iI ((16 : Nat) : Int)) M = _
    unfold fX8_minds_B66_43_56
    rw [if_pos (by decide)]
theorem mi2 {Mx : Mem} {D : Nat → Int} {x a : Nat} {w : Int} (hT : GT Mx 23 D) (hx : x < 2) (hw : 0 ≤ w ∧ w ≤ 1) (ha : a < 6) (c : Int) (M : Mem) (hP : PX Mx M) : ∃ M', PX Mx M' ∧ nq_lp (fun s : Int32 × Int32 × Mem => fX8_minds_B56_43 (23 + 2 * (6 + x)) (iI w) s.1 (iI a) s.2.1 s.2.2) nq_fuel (iI c, iI ((a : Int) + 1 + ((0 : Nat) : Int)), M) = (match runL (gM (tmC D x) w) ((List.range' 0 (5 - a)).flatMap fun i => (List.range' 0 16).flatMap fun k7 => (List.range' 0 5).flatMap fun y => [cdA a (a + 1 + i) (k7 / 4) (k7 % 4) y]) c with | .inl c' => some (.inl (iI c', M')) | .inr r => some (.inr (iI r, M'))) := by
  refine lpN (PX Mx) (5 - a) (fun k => iI ((a : Int) + 1 + (k : Int))) (gM (tmC D x) w) (fun i => (List.range' 0 16).flatMap fun k7 => (List.range' 0 5).flatMap fun y => [cdA a (a + 1 + i) (k7 / 4) (k7 % 4) y]) ?_ ?_ (5 - a) 0 nq_fuel c M (by omega) (by unfold nq_fuel; omega) hP
  · intro k c M hk hP
    obtain ⟨M', hP', e1⟩ := mi3 (a := a) (b := a + 1 + k) hT hx hw (by omega) (by omega) c M hP
    refine ⟨M', hP', ?_⟩
    show fX8_minds_B56_43 (23 + 2 * (6 + x)) (iI w) (iI c) (iI a) (iI ((a : Int) + 1 + (k : Int))) M = _
    have eb : ((a : Int) + 1 + (k : Int)) = ((a + 1 + k : Nat) : Int) := by omega
    have eb2 : ((a : Int) + 1 + ((k + 1 : Nat) : Int)) = ((a + 1 + k : Nat) : Int) + 1 := by omega
    rw [eb]
    unfold fX8_minds_B56_43 fX8_minds_L66_43_56 fX8_minds_L154_43_56
    rw [if_neg (by rw [il_6, iI_le (by omega) (by omega)]; omega), show (0 : Int32) = iI ((0 : Nat) : Int) by decide, e1]
    cases runL (gM (tmC D x) w) ((List.range' 0 16).flatMap fun k7 => (List.range' 0 5).flatMap fun y => [cdA a (a + 1 + k) (k7 / 4) (k7 % 4) y]) c with
    | inl c' =>
      dsimp only
      rw [nq_bs, Sum.elim_inl, nq_ltS, il_1, iI_add, eb2]
    | inr r =>
      dsimp only
      rw [nq_bs, Sum.elim_inr]
  · intro c M hP
    show fX8_minds_B56_43 (23 + 2 * (6 + x)) (iI w) (iI c) (iI a) (iI ((a : Int) + 1 + ((5 - a : Nat) : Int))) M = _
    unfold fX8_minds_B56_43
    rw [if_pos (by rw [il_6, iI_le (by omega) (by omega)]; omega)]
theorem mi1 {Mx : Mem} {D : Nat → Int} {x : Nat} {w : Int} (hT : GT Mx 23 D) (hx : x < 2) (hw : 0 ≤ w ∧ w ≤ 1) (c : Int) (M : Mem) (hP : PX Mx M) : ∃ M', PX Mx M' ∧ nq_lp (fun s : Int32 × Int32 × Mem => fX8_minds_B43 (23 + 2 * (6 + x)) (iI w) s.1 s.2.1 s.2.2) nq_fuel (iI c, iI ((0 : Nat) : Int), M) = (match runL (gM (tmC D x) w) mL8 c with | .inl c' => some (.inl (iI c', M')) | .inr r => some (.inr (iI r, M'))) := by
  refine lpN (PX Mx) 6 (fun k => iI (k : Int)) (gM (tmC D x) w) (fun a => (List.range' 0 (5 - a)).flatMap fun i => (List.range' 0 16).flatMap fun k7 => (List.range' 0 5).flatMap fun y => [cdA a (a + 1 + i) (k7 / 4) (k7 % 4) y]) ?_ ?_ 6 0 nq_fuel c M rfl (by unfold nq_fuel; omega) hP
  · intro k c M hk hP
    obtain ⟨M', hP', e1⟩ := mi2 (a := k) hT hx hw hk c M hP
    refine ⟨M', hP', ?_⟩
    show fX8_minds_B43 (23 + 2 * (6 + x)) (iI w) (iI c) (iI k) M = _
    have eb : ((k : Int) + 1 + ((0 : Nat) : Int)) = (k : Int) + 1 := by omega
    rw [eb] at e1
    unfold fX8_minds_B43 fX8_minds_L56_43 fX8_minds_L160_43
    rw [if_neg (by rw [il_6, iI_le (by omega) (by omega)]; omega), nq_ltS, il_1, iI_add, e1]
    cases runL (gM (tmC D x) w) ((List.range' 0 (5 - k)).flatMap fun i => (List.range' 0 16).flatMap fun k7 => (List.range' 0 5).flatMap fun y => [cdA k (k + 1 + i) (k7 / 4) (k7 % 4) y]) c with
    | inl c' =>
      dsimp only
      rw [nq_bs, Sum.elim_inl, nq_ltS]
      rfl
    | inr r =>
      dsimp only
      rw [nq_bs, Sum.elim_inr]
  · intro c M hP
    show fX8_minds_B43 (23 + 2 * (6 + x)) (iI w) (iI c) (iI ((6 : Nat) : Int)) M = _
    unfold fX8_minds_B43
    rw [if_pos (by decide)]
def FF (f : Int) : Prop := -1 ≤ f ∧ f ≤ 99999
theorem mj3 {Mx N0 : Mem} {D : Nat → Int} {x p q : Nat} {w1 : Int32} (hT : GT Mx 23 D) (h0 : ∀ j, j < 1250 → N0 1 j = iI (D j)) (hx : x < 2) (hp : p < 60) (hq : q < 40) (hq4 : q % 10 < 4) (hne : q / 10 ≠ q % 10) (c f : Int) (N : Mem) (hP : PN N0 N) (hF : FF f) : ∃ N', PN N0 N' ∧ FF (((List.range' 0 5).flatMap fun y => [cdA (p / 10) (p % 10) (q / 10) (q % 10) y]).foldl (sM (tmC D x)) (c, f)).2 ∧ nq_lp (fun s : Int32 × Int32 × Int32 × Mem => fX9_minds_B106_34_44 (iI x) w1 s.1 s.2.1 (iI p) (iI q) (iI 1) s.2.2.1 s.2.2.2) nq_fuel (iI c, iI f, iI ((0 : Nat) : Int), N) = some (iI (((List.range' 0 5).flatMap fun y => [cdA (p / 10) (p % 10) (q / 10) (q % 10) y]).foldl (sM (tmC D x)) (c, f)).1, iI (((List.range' 0 5).flatMap fun y => [cdA (p / 10) (p % 10) (q / 10) (q % 10) y]).foldl (sM (tmC D x)) (c, f)).2, N') := by
  refine lpF (PN N0) 5 FF (sM (tmC D x)) (fun y => [cdA (p / 10) (p % 10) (q / 10) (q % 10) y]) ?_ ?_ 5 0 nq_fuel c f N rfl (by unfold nq_fuel; omega) hP hF
  · intro k c f N hk hP hF
    obtain ⟨N', e1, hP'⟩ := two9 (a := ((p / 10 : Nat) : Int)) (b := ((p % 10 : Nat) : Int)) (o := ((q / 10 : Nat) : Int)) (t := ((q % 10 : Nat) : Int)) (y := (k : Int) - 2) hT h0 hx (by omega) (by omega) (by omega) (by omega) (by omega) (by omega) hP
    have hcd : ((cdA (p / 10) (p % 10) (q / 10) (q % 10) k : Nat) : Int) = 1000 * (p : Int) + 10 * (q : Int) + (k : Int) := by unfold cdA; omega
    have ez : (10000 * ((p / 10 : Nat) : Int) + 1000 * ((p % 10 : Nat) : Int) + 100 * ((q / 10 : Nat) : Int) + 10 * ((q % 10 : Nat) : Int) + ((k : Int) - 2 + 2)) = 1000 * (p : Int) + 10 * (q : Int) + (k : Int) := by omega
    rw [ez] at e1
    have hG : tmC D x (cdA (p / 10) (p % 10) (q / 10) (q % 10) k) = tmB D x ((p / 10 : Nat) : Int) ((p % 10 : Nat) : Int) ((q / 10 : Nat) : Int) ((q % 10 : Nat) : Int) ((k : Int) - 2) := tmC_cd (by omega) (by omega) (by omega) (by omega)
    have hst : [cdA (p / 10) (p % 10) (q / 10) (q % 10) k].foldl (sM (tmC D x)) (c, f) = if tmB D x ((p / 10 : Nat) : Int) ((p % 10 : Nat) : Int) ((q / 10 : Nat) : Int) ((q % 10 : Nat) : Int) ((k : Int) - 2) = true then (c + 1, if 0 ≤ f then f else 1000 * (p : Int) + 10 * (q : Int) + (k : Int)) else (c, f) := by
      show sM (tmC D x) (c, f) _ = _
      unfold sM
      rw [hG, hcd]
    have hB : fX9_minds_B106_34_44 (iI x) w1 (iI c) (iI f) (iI p) (iI q) (iI 1) (iI k) N = nq_b2 (some (iI (if tmB D x ((p / 10 : Nat) : Int) ((p % 10 : Nat) : Int) ((q / 10 : Nat) : Int) ((q % 10 : Nat) : Int) ((k : Int) - 2) = true then 1 else 0), N')) fun v22 M23 => if v22 = 0 then some (.inl (iI c, iI f, iI ((k : Int) + 1), M23)) else if 0 ≤ iI f then some (.inl (iI (c + 1), iI f, iI ((k : Int) + 1), M23)) else some (.inl (iI (c + 1), iI (1000 * (p : Int) + 10 * (q : Int) + (k : Int)), iI ((k : Int) + 1), M23)) := by
      unfold fX9_minds_B106_34_44
      rw [if_neg (by rw [il_5, iI_le (by omega) (by omega)]; omega), if_neg (by decide), nq_ltS]
      simp only [il_1000, il_10, il_1, iI_mul, iI_add, nq_ltS]
      rw [e1]
    refine ⟨N', hP', ?_, ?_⟩
    · rw [hst]
      unfold FF at *
      split
      · dsimp only
        split <;> omega
      · exact hF
    · show fX9_minds_B106_34_44 (iI x) w1 (iI c) (iI f) (iI p) (iI q) (iI 1) (iI k) N = _
      rw [hB, hst, nq_b2S]
      cases tmB D x ((p / 10 : Nat) : Int) ((p % 10 : Nat) : Int) ((q / 10 : Nat) : Int) ((q % 10 : Nat) : Int) ((k : Int) - 2) with
      | false => rfl
      | true =>
        rw [if_neg (by decide)]
        by_cases cf : 0 ≤ f
        · rw [if_pos (by rw [il_0, iI_le (by omega) (by unfold FF at hF; omega)]; exact cf), if_pos rfl, if_pos cf]
          rfl
        · rw [if_neg (by rw [il_0, iI_le (by omega) (by unfold FF at hF; omega)]; exact cf), if_pos rfl, if_neg cf]
          rfl
  · intro c f N hP
    rfl
theorem mj2 {Mx N0 : Mem} {D : Nat → Int} {x p : Nat} {w1 : Int32} (hT : GT Mx 23 D) (h0 : ∀ j, j < 1250 → N0 1 j = iI (D j)) (hx : x < 2) (hp : p < 60) (c f : Int) (N : Mem) (hP : PN N0 N) (hF : FF f) : ∃ N', PN N0 N' ∧ FF (((List.range' 0 40).flatMap fun q => if p / 10 < p % 10 ∧ p % 10 < 6 ∧ q % 10 < 4 ∧ q / 10 ≠ q % 10 then (List.range' 0 5).flatMap fun y => [cdA (p / 10) (p % 10) (q / 10) (q % 10) y] else []).foldl (sM (tmC D x)) (c, f)).2 ∧ nq_lp (fun s : Int32 × Int32 × Int32 × Mem => fX9_minds_B44_34 (iI x) w1 s.1 s.2.1 (iI p) s.2.2.1 s.2.2.2) nq_fuel (iI c, iI f, iI ((0 : Nat) : Int), N) = some (iI (((List.range' 0 40).flatMap fun q => if p / 10 < p % 10 ∧ p % 10 < 6 ∧ q % 10 < 4 ∧ q / 10 ≠ q % 10 then (List.range' 0 5).flatMap fun y => [cdA (p / 10) (p % 10) (q / 10) (q % 10) y] else []).foldl (sM (tmC D x)) (c, f)).1, iI (((List.range' 0 40).flatMap fun q => if p / 10 < p % 10 ∧ p % 10 < 6 ∧ q % 10 < 4 ∧ q / 10 ≠ q % 10 then (List.range' 0 5).flatMap fun y => [cdA (p / 10) (p % 10) (q / 10) (q % 10) y] else []).foldl (sM (tmC D x)) (c, f)).2, N') := by
  refine lpF (PN N0) 40 FF (sM (tmC D x)) (fun q => if p / 10 < p % 10 ∧ p % 10 < 6 ∧ q % 10 < 4 ∧ q / 10 ≠ q % 10 then (List.range' 0 5).flatMap fun y => [cdA (p / 10) (p % 10) (q / 10) (q % 10) y] else []) ?_ ?_ 40 0 nq_fuel c f N rfl (by unfold nq_fuel; omega) hP hF
  · intro q c f N hq hP hF
    show ∃ M', PN N0 M' ∧ _ ∧ fX9_minds_B44_34 (iI x) w1 (iI c) (iI f) (iI p) (iI q) N = _
    have h40 : ¬ (40 : Int32) ≤ iI q := by rw [il_40, iI_le (by omega) (by omega)]; omega
    have d1 : nq_dv (iI p) (iI 10) = some (iI ((p / 10 : Nat) : Int)) := by rw [iI_dv (by omega) (by omega) (by omega) (by omega)]; rfl
    have d2 : nq_rem (iI p) (iI 10) = some (iI ((p % 10 : Nat) : Int)) := by rw [iI_rem (by omega) (by omega) (by omega) (by omega)]; rfl
    have d3 : nq_dv (iI q) (iI 10) = some (iI ((q / 10 : Nat) : Int)) := by rw [iI_dv (by omega) (by omega) (by omega) (by omega)]; rfl
    have d4 : nq_rem (iI q) (iI 10) = some (iI ((q % 10 : Nat) : Int)) := by rw [iI_rem (by omega) (by omega) (by omega) (by omega)]; rfl
    by_cases cc : p / 10 < p % 10 ∧ p % 10 < 6 ∧ q % 10 < 4 ∧ q / 10 ≠ q % 10
    · rw [if_pos cc]
      obtain ⟨N', hP', hF', e1⟩ := mj3 (w1 := w1) hT h0 hx hp hq cc.2.2.1 cc.2.2.2 c f N hP hF
      obtain ⟨c1, c2, c3, c4⟩ := cc
      refine ⟨N', hP', hF', ?_⟩
      have i1 : ¬ iI ((p % 10 : Nat) : Int) ≤ iI ((p / 10 : Nat) : Int) := by rw [iI_le (by omega) (by omega)]; omega
      have i2 : ¬ iI 6 ≤ iI ((p % 10 : Nat) : Int) := by rw [iI_le (by omega) (by omega)]; omega
      have i3 : ¬ iI 4 ≤ iI ((q % 10 : Nat) : Int) := by rw [iI_le (by omega) (by omega)]; omega
      have i4 : ¬ iI ((q / 10 : Nat) : Int) = iI ((q % 10 : Nat) : Int) := by rw [iI_eq (by omega) (by omega)]; omega
      unfold fX9_minds_B44_34
      rw [if_neg h40, il_10, d1, nq_bs, d2, nq_bs, if_neg i1, nq_bs, il_6, if_neg i2, d4, nq_bs, il_4, if_neg i3, d3, nq_bs, nq_bs, if_neg i4]
      unfold fX9_minds_L101_34_44 fX9_minds_L106_34_44 fX9_minds_L167_34_44
      rw [show (0 : Int32) = iI ((0 : Nat) : Int) by decide, il_1, e1, nq_bs, nq_ltS, iI_add]
      rfl
    · rw [if_neg cc]
      refine ⟨N, hP, hF, ?_⟩
      have h100 : fX9_minds_L100_34_44 (iI x) w1 (iI c) (iI f) (iI p) (iI q) N = some (.inl (iI c, iI f, iI ((q + 1 : Nat) : Int), N)) := by
        unfold fX9_minds_L100_34_44 fX9_minds_L101_34_44 fX9_minds_L106_34_44 fX9_minds_L167_34_44
        have hl : nq_lp (fun s : Int32 × Int32 × Int32 × Mem => fX9_minds_B106_34_44 (iI x) w1 s.1 s.2.1 (iI p) (iI q) 0 s.2.2.1 s.2.2.2) nq_fuel (iI c, iI f, 0, N) = some (iI c, iI f, N) := by
          show nq_lp (fun s : Int32 × Int32 × Int32 × Mem => fX9_minds_B106_34_44 (iI x) w1 s.1 s.2.1 (iI p) (iI q) 0 s.2.2.1 s.2.2.2) (999999 + 1) (iI c, iI f, 0, N) = some (iI c, iI f, N)
          exact lp_r rfl
        rw [hl, nq_bs, nq_ltS, il_1, iI_add]
        rfl
      unfold fX9_minds_B44_34
      rw [if_neg h40, il_10, d1, nq_bs, d2, nq_bs]
      show _ = some (Sum.inl (iI c, iI f, iI ((q + 1 : Nat) : Int), N))
      by_cases c1 : p / 10 < p % 10
      · rw [if_neg (by rw [iI_le (by omega) (by omega)]; omega), nq_bs]
        by_cases c2 : p % 10 < 6
        · rw [if_neg (by rw [il_6, iI_le (by omega) (by omega)]; omega), d4, nq_bs]
          by_cases c3 : q % 10 < 4
          · have c4 : q / 10 = q % 10 := Classical.byContradiction fun z => cc ⟨c1, c2, c3, z⟩
            rw [if_neg (by rw [il_4, iI_le (by omega) (by omega)]; omega), d3, nq_bs, nq_bs, if_pos (by rw [c4])]
            exact h100
          · rw [if_pos (by rw [il_4, iI_le (by omega) (by omega)]; omega)]
            exact h100
        · rw [if_pos (by rw [il_6, iI_le (by omega) (by omega)]; omega)]
          exact h100
      · rw [if_pos (by rw [iI_le (by omega) (by omega)]; omega)]
        exact h100
  · intro c f N hP
    rfl
theorem mj1 {Mx N0 : Mem} {D : Nat → Int} {x : Nat} {w1 : Int32} (hT : GT Mx 23 D) (h0 : ∀ j, j < 1250 → N0 1 j = iI (D j)) (hx : x < 2) (c f : Int) (N : Mem) (hP : PN N0 N) (hF : FF f) : ∃ N', PN N0 N' ∧ FF (mL9.foldl (sM (tmC D x)) (c, f)).2 ∧ nq_lp (fun s : Int32 × Int32 × Int32 × Mem => fX9_minds_B34 (iI x) w1 s.1 s.2.1 s.2.2.1 s.2.2.2) nq_fuel (iI c, iI f, iI ((0 : Nat) : Int), N) = some (iI (mL9.foldl (sM (tmC D x)) (c, f)).1, iI (mL9.foldl (sM (tmC D x)) (c, f)).2, N') := by
  refine lpF (PN N0) 60 FF (sM (tmC D x)) (fun p => (List.range' 0 40).flatMap fun q => if p / 10 < p % 10 ∧ p % 10 < 6 ∧ q % 10 < 4 ∧ q / 10 ≠ q % 10 then (List.range' 0 5).flatMap fun y => [cdA (p / 10) (p % 10) (q / 10) (q % 10) y] else []) ?_ ?_ 60 0 nq_fuel c f N rfl (by unfold nq_fuel; omega) hP hF
  · intro p c f N hp hP hF
    obtain ⟨N', hP', hF', e1⟩ := mj2 (w1 := w1) hT h0 hx hp c f N hP hF
    refine ⟨N', hP', hF', ?_⟩
    show fX9_minds_B34 (iI x) w1 (iI c) (iI f) (iI p) N = _
    unfold fX9_minds_B34 fX9_minds_L44_34 fX9_minds_L173_34
    rw [if_neg (by rw [il_60, iI_le (by omega) (by omega)]; omega), show (0 : Int32) = iI ((0 : Nat) : Int) by decide, e1, nq_bs, nq_ltS, il_1, iI_add]
    rfl
  · intro c f N hP
    rfl
theorem hop_minds (a0 a1 : Int32) (Mx Mm : Mem) (h : RR Mx Mm) : ∃ (r : Int32) (Mx1 Mm1 : Mem), fX8_minds a0 a1 Mx = some (r, Mx1) ∧ fX9_minds a0 a1 Mm = some (r, Mm1) ∧ RR Mx1 Mm1 := by
  obtain ⟨D, hc⟩ := h.1
  have hc' := hc
  obtain ⟨h0, hS, hR, hL, hA, hT⟩ := hc'
  have p0 : Mx 3 0 = iI (D 1) := hR.1
  have p1 := hR.2.1
  have p0m : Mm 1 1 = iI (D 1) := h0 1 (by omega)
  have w0m : Mm 1 2 = iI (D 2) := h0 2 (by omega)
  have w0 : Mx 6 0 = iI (D 2) := hL.1
  have w1 := hL.2.1
  obtain ⟨⟨s0, s5, s6, s7, s4, s9, s3, s10⟩, s0', s4', s5', s6', s7', s8', s9', s3', s10'⟩ := hS
  have hS := hc.2.1
  obtain ⟨x, hx, rfl⟩ := iI_of a0
  obtain ⟨y, hy, rfl⟩ := iI_of a1
  by_cases gx : 0 ≤ x ∧ x ≤ 1
  · by_cases gy : 0 ≤ y ∧ y ≤ 1
    · obtain ⟨x, rfl⟩ := Int.eq_ofNat_of_zero_le gx.1
      obtain ⟨M', hP, e8⟩ := mi1 (x := x) (w := y) hT (by omega) gy 0 Mx (fun _ _ _ => rfl)
      obtain ⟨N', hN, hF, e9⟩ := mj1 (x := x) (w1 := iI y) hT h0 (by omega) 0 (-1) Mm ⟨fun _ _ _ => rfl, fun _ _ => rfl⟩ ⟨by omega, by omega⟩
      have hflt : ∀ k, decide (k / 100 % 10 ≠ k / 10 % 10) = false → tmC D x k = false := by
        intro k hk
        unfold tmC tmB
        have : k / 100 % 10 = k / 10 % 10 := by simpa using hk
        rw [this]
        simp
      rw [run_flt hflt mL8, mL_eq] at e8
      have hR' : RR M' N' := h.scr (fun k hk => hP k (by omega) (by omega)) (fun k h1 h2 => hP k (by omega) (by omega)) ⟨fun k hk => hN.1 k (by omega) (by omega), hN.2 2 (by omega), hN.2 17 (by omega)⟩ (hN.1 1 (by omega) (by omega))
      have q6 : (6 + (x : Int)).toNat = 6 + x := by omega
      have z8 : fX8_minds (iI x) (iI y) Mx = fX8_minds_L43 (23 + 2 * (6 + x)) (iI y) (iI ((0 : Nat) : Int)) (iI ((0 : Nat) : Int)) Mx := by
        unfold fX8_minds
        simp (disch := omega) only [il_0, il_1, il_2, il_3, il_4, il_5, il_6, il_7, il_8, il_9, il_10, il_11, il_12, il_13, il_16, il_20, il_30, il_31, il_32, il_33, il_36, il_37, il_38, il_40, il_41, il_42, il_43, il_45, il_47, il_48, il_50, il_57, il_60, il_61, il_62, il_70, il_71, il_79, il_80, il_97, il_98, il_99, il_100, il_107, il_110, il_111, il_114, il_115, il_116, il_121, il_124, il_128, il_130, il_140, il_160, il_255, il_399, il_540, il_590, il_610, il_999, il_1000, il_1250, il_10000, il_12345, il_99999, il_1000000, il_1103515245, ll_0, ll_1, ll_2, ll_3, ll_4, ll_5, ll_6, ll_7, ll_8, ll_9, ll_30, ll_48, ll_50, ll_57, ll_99, ll_100, ll_255, ll_399, ll_999, ll_99999, nq_bs, nq_ltS, nq_b2S, b2_id, bi_id, iI_add, iI_sub, iI_mul, iI_neg, lI_neg, iI_64, iI_lt, iI_le, iI_eq, iI_ag, iI_as, iI_ar, iI_dv, iI_rem, isOut8, in9, bo_nz, bo_t, bo_f, wr_s, wr_n, wr_k, if_pos, if_neg, ↓reduceIte, Nat.reduceAdd, Nat.reduceMul, Nat.reduceSub, Nat.reduceEqDiff, Int.reduceToNat, Int.toNat_natCast, Int.reduceNeg, Int.reduceAdd, Int.reduceSub, Int.reduceMul, isPlace8 p0 p1, isPlace9 p0m p1, areTwo8 p0 p1, areTwo9 p0m p1, isPair8 p0 p1, areFt9 p0m p1, isPact8, isPact9, isWord8 w0 w1, isWord9 w0m w1, isSheet8, isSheet9, isPart8, isPart9, q6]
        rfl
      have z9 : fX9_minds (iI x) (iI y) Mm = fX9_minds_L34 (iI x) (iI y) (iI 0) (iI (-1)) (iI ((0 : Nat) : Int)) Mm := by
        unfold fX9_minds
        simp (disch := omega) only [il_0, il_1, il_2, il_3, il_4, il_5, il_6, il_7, il_8, il_9, il_10, il_11, il_12, il_13, il_16, il_20, il_30, il_31, il_32, il_33, il_36, il_37, il_38, il_40, il_41, il_42, il_43, il_45, il_47, il_48, il_50, il_57, il_60, il_61, il_62, il_70, il_71, il_79, il_80, il_97, il_98, il_99, il_100, il_107, il_110, il_111, il_114, il_115, il_116, il_121, il_124, il_128, il_130, il_140, il_160, il_255, il_399, il_540, il_590, il_610, il_999, il_1000, il_1250, il_10000, il_12345, il_99999, il_1000000, il_1103515245, ll_0, ll_1, ll_2, ll_3, ll_4, ll_5, ll_6, ll_7, ll_8, ll_9, ll_30, ll_48, ll_50, ll_57, ll_99, ll_100, ll_255, ll_399, ll_999, ll_99999, nq_bs, nq_ltS, nq_b2S, b2_id, bi_id, iI_add, iI_sub, iI_mul, iI_neg, lI_neg, iI_64, iI_lt, iI_le, iI_eq, iI_ag, iI_as, iI_ar, iI_dv, iI_rem, isOut8, in9, bo_nz, bo_t, bo_f, wr_s, wr_n, wr_k, if_pos, if_neg, ↓reduceIte, Nat.reduceAdd, Nat.reduceMul, Nat.reduceSub, Nat.reduceEqDiff, Int.reduceToNat, Int.toNat_natCast, Int.reduceNeg, Int.reduceAdd, Int.reduceSub, Int.reduceMul, isPlace8 p0 p1, isPlace9 p0m p1, areTwo8 p0 p1, areTwo9 p0m p1, isPair8 p0 p1, areFt9 p0m p1, isPact8, isPact9, isWord8 w0 w1, isWord9 w0m w1, isSheet8, isSheet9, isPart8, isPart9, h0]
        rfl
      have e8' : nq_lp (fun s : Int32 × Int32 × Mem => fX8_minds_B43 (23 + 2 * (6 + x)) (iI y) s.1 s.2.1 s.2.2) nq_fuel (iI ((0 : Nat) : Int), iI ((0 : Nat) : Int), Mx) = _ := e8
      rw [z8, z9]
      unfold fX8_minds_L43 fX9_minds_L34 fX8_minds_L166 fX9_minds_L179
      rw [e8', e9, nq_bs]
      have hc : y = 0 ∨ y = 1 := by omega
      rcases hc with rfl | rfl
      · rw [run_0 mL9 0 (-1)]
        dsimp only
        rw [nq_bs, Sum.elim_inl, if_neg (by decide), if_pos (by decide)]
        exact ⟨_, M', N', rfl, rfl, hR'⟩
      · rw [run_1 mL9 0 0]
        unfold FF at hF
        by_cases cf : 0 ≤ (mL9.foldl (sM (tmC D x)) (0, -1)).2
        · rw [if_pos cf]
          dsimp only
          rw [nq_bs, Sum.elim_inr, if_neg (by decide), if_pos (by rw [il_0, iI_le (by omega) (by omega)]; exact cf)]
          exact ⟨_, M', N', rfl, rfl, hR'⟩
        · rw [if_neg cf]
          dsimp only
          rw [nq_bs, Sum.elim_inl, if_pos (by decide), if_neg (by decide), if_neg (by rw [il_0, iI_le (by omega) (by omega)]; exact cf), b2_id, b2_id]
          exact hR'.ref 2 (by omega) (by omega) rfl rfl
    · exact h.ref 1 (by omega) (by omega) (by unfold fX8_minds; simp (disch := omega) only [il_0, il_1, il_2, il_3, il_4, il_5, il_6, il_7, il_8, il_9, il_10, il_11, il_12, il_13, il_16, il_20, il_30, il_31, il_32, il_33, il_36, il_37, il_38, il_40, il_41, il_42, il_43, il_45, il_47, il_48, il_50, il_57, il_60, il_61, il_62, il_70, il_71, il_79, il_80, il_97, il_98, il_99, il_100, il_107, il_110, il_111, il_114, il_115, il_116, il_121, il_124, il_128, il_130, il_140, il_160, il_255, il_399, il_540, il_590, il_610, il_999, il_1000, il_1250, il_10000, il_12345, il_99999, il_1000000, il_1103515245, ll_0, ll_1, ll_2, ll_3, ll_4, ll_5, ll_6, ll_7, ll_8, ll_9, ll_30, ll_48, ll_50, ll_57, ll_99, ll_100, ll_255, ll_399, ll_999, ll_99999, nq_bs, nq_ltS, nq_b2S, b2_id, bi_id, iI_add, iI_sub, iI_mul, iI_neg, lI_neg, iI_64, iI_lt, iI_le, iI_eq, iI_ag, iI_as, iI_ar, iI_dv, iI_rem, isOut8, in9, bo_nz, bo_t, bo_f, wr_s, wr_n, wr_k, if_pos, if_neg, ↓reduceIte, Nat.reduceAdd, Nat.reduceMul, Nat.reduceSub, Nat.reduceEqDiff, Int.reduceToNat, Int.toNat_natCast, Int.reduceNeg, Int.reduceAdd, Int.reduceSub, Int.reduceMul, isPlace8 p0 p1, isPlace9 p0m p1, areTwo8 p0 p1, areTwo9 p0m p1, isPair8 p0 p1, areFt9 p0m p1, isPact8, isPact9, isWord8 w0 w1, isWord9 w0m w1, isSheet8, isSheet9, isPart8, isPart9, h0]) (by unfold fX9_minds; simp (disch := omega) only [il_0, il_1, il_2, il_3, il_4, il_5, il_6, il_7, il_8, il_9, il_10, il_11, il_12, il_13, il_16, il_20, il_30, il_31, il_32, il_33, il_36, il_37, il_38, il_40, il_41, il_42, il_43, il_45, il_47, il_48, il_50, il_57, il_60, il_61, il_62, il_70, il_71, il_79, il_80, il_97, il_98, il_99, il_100, il_107, il_110, il_111, il_114, il_115, il_116, il_121, il_124, il_128, il_130, il_140, il_160, il_255, il_399, il_540, il_590, il_610, il_999, il_1000, il_1250, il_10000, il_12345, il_99999, il_1000000, il_1103515245, ll_0, ll_1, ll_2, ll_3, ll_4, ll_5, ll_6, ll_7, ll_8, ll_9, ll_30, ll_48, ll_50, ll_57, ll_99, ll_100, ll_255, ll_399, ll_999, ll_99999, nq_bs, nq_ltS, nq_b2S, b2_id, bi_id, iI_add, iI_sub, iI_mul, iI_neg, lI_neg, iI_64, iI_lt, iI_le, iI_eq, iI_ag, iI_as, iI_ar, iI_dv, iI_rem, isOut8, in9, bo_nz, bo_t, bo_f, wr_s, wr_n, wr_k, if_pos, if_neg, ↓reduceIte, Nat.reduceAdd, Nat.reduceMul, Nat.reduceSub, Nat.reduceEqDiff, Int.reduceToNat, Int.toNat_natCast, Int.reduceNeg, Int.reduceAdd, Int.reduceSub, Int.reduceMul, isPlace8 p0 p1, isPlace9 p0m p1, areTwo8 p0 p1, areTwo9 p0m p1, isPair8 p0 p1, areFt9 p0m p1, isPact8, isPact9, isWord8 w0 w1, isWord9 w0m w1, isSheet8, isSheet9, isPart8, isPart9, h0])
  · exact h.ref 1 (by omega) (by omega) (by unfold fX8_minds; simp (disch := omega) only [il_0, il_1, il_2, il_3, il_4, il_5, il_6, il_7, il_8, il_9, il_10, il_11, il_12, il_13, il_16, il_20, il_30, il_31, il_32, il_33, il_36, il_37, il_38, il_40, il_41, il_42, il_43, il_45, il_47, il_48, il_50, il_57, il_60, il_61, il_62, il_70, il_71, il_79, il_80, il_97, il_98, il_99, il_100, il_107, il_110, il_111, il_114, il_115, il_116, il_121, il_124, il_128, il_130, il_140, il_160, il_255, il_399, il_540, il_590, il_610, il_999, il_1000, il_1250, il_10000, il_12345, il_99999, il_1000000, il_1103515245, ll_0, ll_1, ll_2, ll_3, ll_4, ll_5, ll_6, ll_7, ll_8, ll_9, ll_30, ll_48, ll_50, ll_57, ll_99, ll_100, ll_255, ll_399, ll_999, ll_99999, nq_bs, nq_ltS, nq_b2S, b2_id, bi_id, iI_add, iI_sub, iI_mul, iI_neg, lI_neg, iI_64, iI_lt, iI_le, iI_eq, iI_ag, iI_as, iI_ar, iI_dv, iI_rem, isOut8, in9, bo_nz, bo_t, bo_f, wr_s, wr_n, wr_k, if_pos, if_neg, ↓reduceIte, Nat.reduceAdd, Nat.reduceMul, Nat.reduceSub, Nat.reduceEqDiff, Int.reduceToNat, Int.toNat_natCast, Int.reduceNeg, Int.reduceAdd, Int.reduceSub, Int.reduceMul, isPlace8 p0 p1, isPlace9 p0m p1, areTwo8 p0 p1, areTwo9 p0m p1, isPair8 p0 p1, areFt9 p0m p1, isPact8, isPact9, isWord8 w0 w1, isWord9 w0m w1, isSheet8, isSheet9, isPart8, isPart9, h0]) (by unfold fX9_minds; simp (disch := omega) only [il_0, il_1, il_2, il_3, il_4, il_5, il_6, il_7, il_8, il_9, il_10, il_11, il_12, il_13, il_16, il_20, il_30, il_31, il_32, il_33, il_36, il_37, il_38, il_40, il_41, il_42, il_43, il_45, il_47, il_48, il_50, il_57, il_60, il_61, il_62, il_70, il_71, il_79, il_80, il_97, il_98, il_99, il_100, il_107, il_110, il_111, il_114, il_115, il_116, il_121, il_124, il_128, il_130, il_140, il_160, il_255, il_399, il_540, il_590, il_610, il_999, il_1000, il_1250, il_10000, il_12345, il_99999, il_1000000, il_1103515245, ll_0, ll_1, ll_2, ll_3, ll_4, ll_5, ll_6, ll_7, ll_8, ll_9, ll_30, ll_48, ll_50, ll_57, ll_99, ll_100, ll_255, ll_399, ll_999, ll_99999, nq_bs, nq_ltS, nq_b2S, b2_id, bi_id, iI_add, iI_sub, iI_mul, iI_neg, lI_neg, iI_64, iI_lt, iI_le, iI_eq, iI_ag, iI_as, iI_ar, iI_dv, iI_rem, isOut8, in9, bo_nz, bo_t, bo_f, wr_s, wr_n, wr_k, if_pos, if_neg, ↓reduceIte, Nat.reduceAdd, Nat.reduceMul, Nat.reduceSub, Nat.reduceEqDiff, Int.reduceToNat, Int.toNat_natCast, Int.reduceNeg, Int.reduceAdd, Int.reduceSub, Int.reduceMul, isPlace8 p0 p1, isPlace9 p0m p1, areTwo8 p0 p1, areTwo9 p0m p1, isPair8 p0 p1, areFt9 p0m p1, isPact8, isPact9, isWord8 w0 w1, isWord9 w0m w1, isSheet8, isSheet9, isPart8, isPart9, h0])
