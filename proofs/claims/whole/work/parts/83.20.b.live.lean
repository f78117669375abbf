/-! 20.b: live -/
theorem RR.ask2 {Mx Mm : Mem} {D : Nat → Int} (h : RR Mx Mm) (hc : Cur 2 (Mm 1) Mx D) {k f p : Int} (hk : inR k) (hf : inR f) (hp : inR p) : fX8_faultOfWord (iI k) (iI f) (iI p) Mx = some (iI (flt D k f p)) ∧ ∃ Mm1, fX9_whyNot (iI k) (iI f) (iI p) Mm = some (iI (flt D k f p), Mm1) ∧ RR Mx Mm1 ∧ (∀ j, j < 1250 → Mm1 1 j = iI (D j)) ∧ (flt D k f p = 0 → ∃ Mx2 Mm2, fX7_send 2 (iI k) (iI (f / 10)) (iI (f % 10)) (iI p) Mx = some (iI (D 2), Mx2) ∧ fX9_sends (iI k) (iI f) (iI p) Mm1 = some Mm2 ∧ RR Mx2 Mm2 ∧ Mm2 1 0 = iI (D 0) ∧ Mm2 1 1 = iI (D 1)) := by
  have hc' := hc
  obtain ⟨h0, hS, hR, hL, hA, hT⟩ := hc'
  refine ⟨fault8 hR hL hk hf hp, ?_⟩
  obtain ⟨M', x1, x2⟩ := why9 h0 hR hL hk hf hp
  have key : KeepM Mm M' ∧ RR Mx M' ∧ Cur 2 (M' 1) Mx D := by
    rcases x2 with rfl | rfl
    · exact ⟨KeepM.refl _, h, hc⟩
    · exact ⟨KeepM.wayM, h.wayM, by rw [wayM_k (by omega)]; exact hc⟩
  refine ⟨M', x1, key.2.1, key.2.2.1, ?_⟩
  intro hz
  obtain ⟨g1, g2, g3, g4, g5⟩ := flt_0 hz
  have p1 := hR.2.1
  have w1 := hL.2.1
  obtain ⟨Mx2, y1, y2, y3⟩ := send8 hc (k := k) (a := f / 10) (b := f % 10) (p := p) g1 (by omega) (by omega) g3 g4 g5
  obtain ⟨Mm2, z1, z2, z3⟩ := sends9 key.2.2.1 hS hR hL (k := k) (f := f) (p := p) g1 (by omega) g3 g4 g5
  refine ⟨Mx2, Mm2, y1, z1, h.upd y2 (key.1.trans z2) (y3 (Mm2 1) z3), ?_, ?_⟩
  · rw [z3 0 (by omega)]
    unfold sndD
    rw [sD_n (by omega)]
  · rw [z3 1 (by omega)]
    unfold sndD
    rw [sD_n (by omega)]
/-- one place follows its order -/
theorem RR.act {Mx Mm : Mem} {D : Nat → Int} (h : RR Mx Mm) (hc : Cur 2 (Mm 1) Mx D) {x : Nat} (hx : (x : Int) < D 1) (ha : 0 ≤ D (60 + x)) : ∃ Mx' Mm', fX8_followOrder (iI x) Mx = some Mx' ∧ fX9_acts (iI x) Mm = some Mm' ∧ RR Mx' Mm' ∧ Mm' 1 0 = iI (D 0) ∧ Mm' 1 1 = iI (D 1) := by
  have hc' := hc
  obtain ⟨h0, hS, hR, hL, hA, hT⟩ := hc'
  have p1 := hR.2.1
  have w1 := hL.2.1
  have s0 : Mx 2 9 = iI (D 0) := hS.1.1
  have s0' := hS.2.1
  have aim := hA.2.1 x (by omega)
  have a18 : Mx 18 x = iI (D (60 + x)) := aim.1
  have aR := aim.2
  generalize hz : D (60 + x) = z at *
  have m60 : Mm 1 (60 + x) = iI z := by rw [h0 (60 + x) (by omega), hz]
  have hpc : inR (z % 10) := by omega
  -- what the class works with
  obtain ⟨M8, e8, F8⟩ := stands8 (p := 76) (x := (x : Int)) (pc := z % 10) (Y := D 0) (by omega) hL (by omega) hpc (by omega)
  have hL8 := F8.GL (by omega) hL
  have ar8 := arrived8 (x := (x : Int)) (y := z % 10) (Y := D 0) hL8 (by omega) hpc (by omega)
  have la8 := latest8 (x := (x : Int)) (y := z % 10) (Y := D 0) hL8 (by omega) hpc (by omega)
  obtain ⟨N8, e9, F9⟩ := stanceOf9 (x := (x : Int)) (pc := z % 10) (Y := D 0) (hc.W9 (row := Mm 1)) (by omega) hpc (by omega)
  generalize (endS (D 0) (SG D x (z % 10) (evB D x (z % 10)) ((D 0).toNat + 1))).1 = S at *
  have r1 : ∀ v : Int32, ∀ j, j < 1250 → nq_wr N8 9 0 v 1 j = iI (D j) := fun v j hj => by rw [wr_k (by omega), F9 1 (by omega) (by omega) (by omega)]; exact h0 j hj
  have r2 : ∀ v v' : Int32, ∀ j, j < 1250 → nq_wr (nq_wr N8 9 0 v) 9 1 v' 1 j = iI (D j) := fun v v' j hj => by rw [wr_k (by omega)]; exact r1 v j hj
  have ar9 := many9 (M := nq_wr N8 9 0 (iI S)) (x := (x : Int)) (y := z % 10) (Y := D 0) (r1 _) w1 hL.2.2.2.2.2 (by omega) hpc (by omega)
  rw [← arr_fold (g := cG D (x : Int) (z % 10)) (by omega) cG_comm] at ar9
  generalize (arrU D (D 0 + 1).toNat).foldl (cG D (x : Int) (z % 10)) 0 = C at *
  have la9 := latest9 (M := nq_wr (nq_wr N8 9 0 (iI S)) 9 1 (iI C)) (x := (x : Int)) (y := z % 10) (r2 _ _) s0' w1 hL.2.2.2.2.2 (by omega) hpc
  rw [← latest_eq (by omega)] at la9
  generalize (arrU D (D 0 + 1).toNat).foldl (kG D (x : Int) (z % 10)) 9 = K at *
  obtain ⟨M5, n1, n2, n3⟩ := name8 (M := M8) (a := S) (b := C) (c := K) (d := D 0) (e := 0)
  have fx5 : ∀ k, k ≠ 76 → k ≠ 77 → k ≠ 82 → M5 k = Mx k := fun k h1 h2 h3 => by rw [n2 k h3]; exact F8 k h1 h2
  obtain ⟨M7, k8, k7⟩ := reckonT (M := M5) (D := D) (u := x) (p := 23 + 2 * x) (by omega) (by rw [fx5 _ (by omega) (by omega) (by omega), fx5 _ (by omega) (by omega) (by omega)]; exact hT x (by omega))
  rw [tV_nm n3] at k8
  -- what the reference works with
  obtain ⟨N18, hN18⟩ : ∃ N18, N18 = nq_wr (nq_wr (nq_wr (nq_wr N8 9 0 (iI S)) 9 1 (iI C)) 9 2 (iI K)) 9 3 (iI (D 0)) := ⟨_, rfl⟩
  have fn18 : ∀ k, k ≠ 6 → k ≠ 7 → k ≠ 8 → k ≠ 9 → N18 k = Mm k := fun k h1 h2 h3 h4 => by
    rw [hN18]
    simp (disch := omega) only [wr_k]
    exact F9 k h1 h2 h3
  obtain ⟨N21, g9, f21, f21'⟩ := givesT (M := N18) (D := D) (u := x) (by omega) (by rw [fn18 1 (by omega) (by omega) (by omega) (by omega)]; exact h0) (hT x (by omega))
  have hnm : tV D x (N18 9) = tV D x (nmL S C K (D 0) 0) := tV_nm4 (by omega) (fun i hi => by
    rw [hN18]
    have hcs : i = 0 ∨ i = 1 ∨ i = 2 ∨ i = 3 := by omega
    rcases hcs with rfl | rfl | rfl | rfl <;> simp (disch := omega) only [wr_s, wr_n] <;> rfl)
  rw [hnm] at g9
  obtain ⟨v, hv, ev⟩ := iI_of (tV D x (nmL S C K (D 0) 0))
  rw [ev] at k8 g9
  have fx7 : ∀ k, k ≠ 76 → k ≠ 77 → k ≠ 82 → k ≠ 83 → M7 k = Mx k := fun k h1 h2 h3 h4 => by rw [k7 k h4]; exact fx5 k h1 h2 h3
  have hR2 : RR M7 N21 := h.scr (fun k hk => fx7 k (by omega) (by omega) (by omega) (by omega)) (fun k h1 h2 => fx7 k (by omega) (by omega) (by omega) (by omega)) ⟨fun k hk => by rw [f21 k (by omega)]; exact fn18 k (by omega) (by omega) (by omega) (by omega), by rw [f21' 2 (by omega), fn18 0 (by omega) (by omega) (by omega) (by omega)], by rw [f21' 17 (by omega), fn18 0 (by omega) (by omega) (by omega) (by omega)]⟩ (by rw [f21 1 (by omega)]; exact fn18 1 (by omega) (by omega) (by omega) (by omega))
  have row21 : N21 1 = Mm 1 := by rw [f21 1 (by omega)]; exact fn18 1 (by omega) (by omega) (by omega) (by omega)
  have hc2 : Cur 2 (N21 1) M7 D := hc.frame (fun j _ => by rw [row21]) (fun k h1 h2 => fx7 k (by omega) (by omega) (by omega) (by omega))
  obtain ⟨q8, Mm1, q9, hR3, row3, hs⟩ := hR2.ask2 hc2 (k := v) (f := 10 * (x : Int) + z / 10) (p := z % 10) hv (by omega) hpc
  have tA : fX8_followOrder (iI x) Mx = (if iI v = 0 then some M7 else if iI (flt D v (10 * (x : Int) + z / 10) (z % 10)) = 0 then (nq_b2 (fX7_send 2 (iI v) (iI x) (iI (z / 10)) (iI (z % 10)) M7) fun v29 M30 => some M30) else some M7) := by
    have m82 : M8 2 = Mx 2 := F8 2 (by omega) (by omega)
    have xt : (x : Int).toNat = x := by omega
    unfold fX8_followOrder
    rw [iI_ag (by omega) (by omega) (by omega), nq_bs, xt, a18, if_pos (by rw [il_0, iI_le (by omega) (by omega)]; omega), il_10, iI_dv (by omega) (by omega) (by omega) (by omega), nq_bs, nq_ltS, iI_rem (by omega) (by omega) (by omega) (by omega), nq_bs, nq_ltS, s0, e8, nq_b2S, nq_ltS, m82, s0, ar8, nq_bs, nq_ltS, la8, nq_bs, nq_ltS, il_0, n1, nq_bs, iI_ar (by omega) (by omega) (by omega), nq_bs, xt, k8, nq_b2S, iI_mul, iI_add, q8, nq_bs, nq_bs]
  have tB : fX9_acts (iI x) Mm = (if bo (1 ≤ v ∧ v ≤ 6) = 0 then some N21 else (nq_b2 (fX9_whyNot (iI v) (iI (10 * (x : Int) + z / 10)) (iI (z % 10)) N21) fun v26 M27 => if v26 = 0 then ((fX9_sends (iI v) (iI (10 * (x : Int) + z / 10)) (iI (z % 10)) M27).bind fun M30 => some M30) else some M27)) := by
    have t60 : (60 + (x : Int)).toNat = 60 + x := by omega
    have q0 : Mm 1 0 = iI (D 0) := h0 0 (by omega)
    have n81 : N8 1 = Mm 1 := F9 1 (by omega) (by omega) (by omega)
    unfold fX9_acts
    simp (disch := omega) only [nq_bs, nq_ltS, nq_b2S, il_60, il_10, il_0, il_1, il_2, il_3, iI_add, iI_ag, iI_as, iI_dv, iI_rem, iI_mul, t60, m60, q0, e9, wr_k, n81, ar9, la9, Int.reduceToNat]
    rw [← hN18, g9, nq_b2S]
    rw [iI_64 hv, ll_1, ll_6, in9 (by omega) (by omega) (by omega), nq_bs]
  rw [tA, tB]
  by_cases c0 : v = 0
  · subst c0
    rw [if_pos (by decide), if_pos (by rw [bo_f (by omega)]; rfl)]
    refine ⟨M7, N21, rfl, rfl, hR2, ?_, ?_⟩
    · rw [row21]; exact h0 0 (by omega)
    · rw [row21]; exact h0 1 (by omega)
  · rw [if_neg (by rw [il_0, iI_eq (by omega) (by omega)]; exact c0)]
    by_cases c1 : 1 ≤ v ∧ v ≤ 6
    · rw [bo_t c1, if_neg (show ¬ iI 1 = 0 by decide), q9, nq_b2S]
      by_cases cf : flt D v (10 * (x : Int) + z / 10) (z % 10) = 0
      · have zf : iI (flt D v (10 * (x : Int) + z / 10) (z % 10)) = 0 := by rw [cf]; rfl
        rw [if_pos zf, if_pos zf]
        obtain ⟨Mx2, Mm2, y1, y2, y3, y4, y5⟩ := hs cf
        rw [show (10 * (x : Int) + z / 10) / 10 = (x : Int) by omega, show (10 * (x : Int) + z / 10) % 10 = z / 10 by omega] at y1
        rw [y1, nq_b2S, y2, nq_bs]
        exact ⟨Mx2, Mm2, rfl, rfl, y3, y4, y5⟩
      · have fb := flt_bd D v (10 * (x : Int) + z / 10) (z % 10)
        have nf : ¬ iI (flt D v (10 * (x : Int) + z / 10) (z % 10)) = 0 := by rw [il_0, iI_eq (by omega) (by omega)]; exact cf
        rw [if_neg nf, if_neg nf]
        exact ⟨M7, Mm1, rfl, rfl, hR3, row3 0 (by omega), row3 1 (by omega)⟩
    · have cf : flt D v (10 * (x : Int) + z / 10) (z % 10) ≠ 0 := fun q => by
        have := (flt_0 q).1
        omega
      have fb := flt_bd D v (10 * (x : Int) + z / 10) (z % 10)
      have nf : ¬ iI (flt D v (10 * (x : Int) + z / 10) (z % 10)) = 0 := by rw [il_0, iI_eq (by omega) (by omega)]; exact cf
      rw [bo_f c1, if_pos (show iI 0 = 0 by decide), if_neg nf]
      refine ⟨M7, N21, rfl, rfl, hR2, ?_, ?_⟩
      · rw [row21]; exact h0 0 (by omega)
      · rw [row21]; exact h0 1 (by omega)
/-- a year's orders -/
theorem RR.year {Mx Mm : Mem} {Y P : Int} {a b : Int32} (h : RR Mx Mm) (h0 : Mm 1 0 = iI Y) (h1 : Mm 1 1 = iI P) (hY : 0 ≤ Y ∧ Y ≤ 399) (hP : 0 ≤ P ∧ P ≤ 6) : ∃ Mx' Mm', nq_lp (fun s : Int32 × Mem => fX8_live_B46_39 a b s.1 s.2) nq_fuel (iI 0, Mx) = some Mx' ∧ nq_lp (fun s : Int32 × Mem => fX9_live_B47_40 a b s.1 s.2) nq_fuel (iI 0, Mm) = some Mm' ∧ RR Mx' Mm' ∧ Mm' 1 0 = iI Y ∧ Mm' 1 1 = iI P := by
  refine lp_two (body := fun s : Int32 × Mem => fX8_live_B46_39 a b s.1 s.2) (body' := fun s : Int32 × Mem => fX9_live_B47_40 a b s.1 s.2) (s := (iI 0, Mx)) (t := (iI 0, Mm)) P.toNat (fun k s t => s.1 = iI k ∧ t.1 = iI k ∧ RR s.2 t.2 ∧ t.2 1 0 = iI Y ∧ t.2 1 1 = iI P) (fun r r' => RR r r' ∧ r' 1 0 = iI Y ∧ r' 1 1 = iI P) (by omega) ⟨rfl, rfl, h, h0, h1⟩ ?_ ?_
  · rintro k ⟨i, M⟩ ⟨i', N⟩ hk ⟨e1, e2, hR, e3, e4⟩
    dsimp only at e1 e2 hR e3 e4
    subst e1; subst e2
    left
    obtain ⟨D, hc⟩ := hR.1
    have d1 : Mm 1 1 = Mm 1 1 := rfl
    have p0 : M 3 0 = iI (D 1) := hc.2.2.1.1
    have p1 := hc.2.2.1.2.1
    have s0' := hc.2.1.2.1
    have eP : D 1 = P := by
      have := hc.1 1 (by omega)
      rw [e4, iI_eq (by omega) (by omega)] at this
      exact this.symm
    have eY : D 0 = Y := by
      have := hc.1 0 (by omega)
      rw [e3, iI_eq (by omega) (by omega)] at this
      exact this.symm
    have aim := hc.2.2.2.2.1.2.1 k (by omega)
    have m60 : N 1 (60 + k) = iI (D (60 + k)) := hc.1 _ (by omega)
    have t60 : (60 + (k : Int)).toNat = 60 + k := by omega
    have aR := aim.2
    by_cases ca : 0 ≤ D (60 + k)
    · obtain ⟨Mx', Mm', f1, f2, f3, f4, f5⟩ := hR.act hc (x := k) (by omega) ca
      refine ⟨(iI ((k + 1 : Nat) : Int), Mx'), (iI ((k + 1 : Nat) : Int), Mm'), ?_, ?_, rfl, rfl, f3, by dsimp only; rw [f4, eY], by dsimp only; rw [f5, eP]⟩
      · show fX8_live_B46_39 a b (iI k) M = _
        unfold fX8_live_B46_39
        rw [nq_ltS, p0, if_neg (by rw [iI_le (by omega) (by omega)]; omega), f1, nq_bs, nq_ltS, il_1, iI_add]
        rfl
      · show fX9_live_B47_40 a b (iI k) N = _
        unfold fX9_live_B47_40
        rw [il_1, iI_ag (by omega) (by omega) (by omega), nq_bs, show (1 : Int).toNat = 1 from rfl, e4, if_neg (by rw [iI_le (by omega) (by omega)]; omega), il_60, iI_add, iI_ag (by omega) (by omega) (by omega), nq_bs, t60, m60, if_neg (by rw [il_0, iI_lt (by omega) (by omega)]; omega), f2, nq_bs, nq_ltS, iI_add]
        rfl
    · have a18 : M 18 k = iI (D (60 + k)) := aim.1
      refine ⟨(iI ((k + 1 : Nat) : Int), M), (iI ((k + 1 : Nat) : Int), N), ?_, ?_, rfl, rfl, hR, e3, e4⟩
      · show fX8_live_B46_39 a b (iI k) M = _
        have xt : (k : Int).toNat = k := by omega
        unfold fX8_live_B46_39 fX8_followOrder
        rw [nq_ltS, p0, if_neg (by rw [iI_le (by omega) (by omega)]; omega), iI_ag (by omega) (by omega) (by omega), nq_bs, xt, a18, if_neg (by rw [il_0, iI_le (by omega) (by omega)]; exact ca), nq_bs, nq_ltS, il_1, iI_add]
        rfl
      · show fX9_live_B47_40 a b (iI k) N = _
        unfold fX9_live_B47_40
        rw [il_1, iI_ag (by omega) (by omega) (by omega), nq_bs, show (1 : Int).toNat = 1 from rfl, e4, if_neg (by rw [iI_le (by omega) (by omega)]; omega), il_60, iI_add, iI_ag (by omega) (by omega) (by omega), nq_bs, t60, m60, if_pos (by rw [il_0, iI_lt (by omega) (by omega)]; omega), nq_ltS, iI_add]
        rfl
  · rintro ⟨i, M⟩ ⟨i', N⟩ ⟨e1, e2, hR, e3, e4⟩
    dsimp only at e1 e2 hR e3 e4
    subst e1; subst e2
    obtain ⟨D, hc⟩ := hR.1
    have p0 : M 3 0 = iI (D 1) := hc.2.2.1.1
    have p1 := hc.2.2.1.2.1
    have eP : D 1 = P := by
      have := hc.1 1 (by omega)
      rw [e4, iI_eq (by omega) (by omega)] at this
      exact this.symm
    refine ⟨M, N, ?_, ?_, hR, e3, e4⟩
    · show fX8_live_B46_39 a b (iI ((P.toNat : Nat) : Int)) M = _
      unfold fX8_live_B46_39
      rw [nq_ltS, p0, if_pos (by rw [iI_le (by omega) (by omega)]; omega)]
    · show fX9_live_B47_40 a b (iI ((P.toNat : Nat) : Int)) N = _
      unfold fX9_live_B47_40
      rw [il_1, iI_ag (by omega) (by omega) (by omega), nq_bs, show (1 : Int).toNat = 1 from rfl, e4, if_pos (by rw [iI_le (by omega) (by omega)]; omega)]
/-- the year goes on -/
theorem RR.next {Mx Mm : Mem} {Y : Int} (h : RR Mx Mm) (hY0 : Mm 1 0 = iI Y) (hY : 0 ≤ Y ∧ Y < 399) : Mx 2 9 = iI Y ∧ RR (nq_wr Mx 2 9 (iI (Y + 1))) (nq_wr Mm 1 0 (iI (Y + 1))) := by
  obtain ⟨D, hc⟩ := h.1
  have hc' := hc
  obtain ⟨h0, hS, hR, hL, hA, hT⟩ := hc'
  have p0 : Mx 3 0 = iI (D 1) := hR.1
  have p1 := hR.2.1
  have p0m : Mm 1 1 = iI (D 1) := h0 1 (by omega)
  have w0m : Mm 1 2 = iI (D 2) := h0 2 (by omega)
  have w0 : Mx 6 0 = iI (D 2) := hL.1
  have w1 := hL.2.1
  obtain ⟨⟨s0, s5, s6, s7, s4, s9, s3, s10⟩, s0', s4', s5', s6', s7', s8', s9', s3', s10'⟩ := hS
  have hS := hc.2.1
  have eY : D 0 = Y := by
    have := h0 0 (by omega)
    rw [hY0, iI_eq (by omega) (by omega)] at this
    exact this.symm
  subst eY
  refine ⟨s0, ?_⟩
  refine h.upd (D := upI D 0 (D 0 + 1)) (fun k hk => by simp (disch := omega) only [wr_k]) ⟨fun k hk => by simp (disch := omega) only [wr_k], by simp (disch := omega) only [wr_k, wr_n], by simp (disch := omega) only [wr_k, wr_n]⟩ ⟨row_wr h0, ?_, (hR.frame (fun k hk1 hk2 => by simp (disch := omega) only [wr_k]) (fun j hj => by simp (disch := omega) only [upI_n])), ?_, (hA.frame (fun k hk1 hk2 => by simp (disch := omega) only [wr_k]) (fun j hj => by simp (disch := omega) only [upI_n])), (hT.frame (fun k hk1 hk2 => by simp (disch := omega) only [wr_k]) (fun j hj => by simp (disch := omega) only [upI_n]))⟩
  · unfold GS
    simp (disch := omega) only [wr_s, wr_n, upI_s, upI_n]
    exact ⟨⟨trivial, s5, s6, s7, s4, s9, s3, s10⟩, by omega, s4', s5', s6', s7', s8', s9', s3', s10'⟩
  · obtain ⟨g1, g2, g3, g4, g5, g6⟩ := hL
    have e : arrL (upI D 0 (D 0 + 1)) = arrL D := arrL_congr (upI_n (by omega)) g2.2 (fun w hw => upI_n (by omega))
    unfold GL
    rw [e, upI_n (show (2 : Nat) ≠ 0 by omega), wr_k (show (2 + 4 : Nat) ≠ 2 by omega), wr_k (show (2 + 4 + 9 : Nat) ≠ 2 by omega)]
    refine ⟨g1, g2, ?_, g4, g5, ?_⟩
    · intro w hw f hf
      rw [wr_k (by omega), upI_n (by omega)]
      exact g3 w hw f hf
    · intro w hw
      obtain ⟨a0, a1, a2, a3, a4, a5, a6, a7, a8, a9⟩ := g6 w hw
      unfold wordOK sentOK
      rw [upI_n (by omega), upI_n (by omega), upI_n (by omega), upI_n (by omega), upI_n (by omega), upI_n (by omega), upI_n (by omega), upI_n (by omega), upI_s rfl]
      exact ⟨a0, a1, a2, a3, a4, a5, a6, a7, by omega, fun v hv => by rw [upI_n (by omega)]; exact a9 v hv⟩
theorem hop_live (a0 : Int32) (Mx Mm : Mem) (h : RR Mx Mm) : ∃ (r : Int32) (Mx1 Mm1 : Mem), fX8_live a0 Mx = some (r, Mx1) ∧ fX9_live a0 Mm = some (r, Mm1) ∧ RR Mx1 Mm1 := by
  obtain ⟨D, hc⟩ := h.1
  have hc' := hc
  obtain ⟨h0, hS, hR, hL, hA, hT⟩ := hc'
  have p0 : Mx 3 0 = iI (D 1) := hR.1
  have p1 := hR.2.1
  have p0m : Mm 1 1 = iI (D 1) := h0 1 (by omega)
  have w0m : Mm 1 2 = iI (D 2) := h0 2 (by omega)
  have w0 : Mx 6 0 = iI (D 2) := hL.1
  have w1 := hL.2.1
  obtain ⟨⟨s0, s5, s6, s7, s4, s9, s3, s10⟩, s0', s4', s5', s6', s7', s8', s9', s3', s10'⟩ := hS
  have hS := hc.2.1
  obtain ⟨x, hx, rfl⟩ := iI_of a0
  have q0 : Mm 1 0 = iI (D 0) := h0 0 (by omega)
  by_cases g1 : 1 ≤ x ∧ x ≤ 50
  · by_cases g2 : D 0 + x ≤ 399
    · obtain ⟨r, r', l8, l9, hRr, hY⟩ := lp_two (body := fun s : Int32 × Mem => fX8_live_B39 (iI x) s.1 s.2) (body' := fun s : Int32 × Mem => fX9_live_B40 (iI x) s.1 s.2) (s := (iI 0, Mx)) (t := (iI 0, Mm)) x.toNat (fun k s t => s.1 = iI k ∧ t.1 = iI k ∧ RR s.2 t.2 ∧ t.2 1 0 = iI (D 0 + k)) (fun r r' => RR r r' ∧ r' 1 0 = iI (D 0 + x)) (by omega) ⟨rfl, rfl, h, by show Mm 1 0 = iI (D 0 + ((0 : Nat) : Int)); rw [q0, show D 0 + ((0 : Nat) : Int) = D 0 by omega]⟩
        (by
          rintro k ⟨i, M⟩ ⟨i', N⟩ hk ⟨e1, e2, hR2, e3⟩
          dsimp only at e1 e2 hR2 e3
          subst e1; subst e2
          left
          obtain ⟨D2, hc2⟩ := hR2.1
          have p2 := hc2.2.2.1.2.1
          obtain ⟨Mx', Mm', f1, f2, f3, f4, f5⟩ := hR2.year (a := iI x) (b := iI k) e3 (hc2.1 1 (by omega)) (by omega) p2
          obtain ⟨n1, n2⟩ := f3.next f4 (by omega)
          refine ⟨(iI ((k + 1 : Nat) : Int), nq_wr Mx' 2 9 (iI (D 0 + k + 1))), (iI ((k + 1 : Nat) : Int), nq_wr Mm' 1 0 (iI (D 0 + k + 1))), ?_, ?_, rfl, rfl, n2, ?_⟩
          · show fX8_live_B39 (iI x) (iI k) M = _
            unfold fX8_live_B39 fX8_live_L46_39 fX8_live_L71_39
            rw [if_neg (by rw [iI_le (by omega) (by omega)]; omega), il_0, f1, nq_bs, nq_ltS, n1, nq_ltS, nq_ltS, il_1, iI_add, iI_add]
            rfl
          · show fX9_live_B40 (iI x) (iI k) N = _
            unfold fX9_live_B40 fX9_live_L47_40 fX9_live_L80_40
            rw [if_neg (by rw [iI_le (by omega) (by omega)]; omega), il_0, f2, nq_bs, iI_ag (by omega) (by omega) (by omega), nq_bs, show (0 : Int).toNat = 0 from rfl, f4, il_1, iI_add, iI_as (by omega) (by omega) (by omega), nq_bs, nq_ltS, iI_add]
            rfl
          · dsimp only
            rw [wr_s ⟨rfl, rfl⟩]
            congr 1
            omega)
        (by
          rintro ⟨i, M⟩ ⟨i', N⟩ ⟨e1, e2, hR2, e3⟩
          dsimp only at e1 e2 hR2 e3
          subst e1; subst e2
          refine ⟨M, N, ?_, ?_, hR2, ?_⟩
          · show fX8_live_B39 (iI x) (iI ((x.toNat : Nat) : Int)) M = _
            unfold fX8_live_B39
            rw [if_pos (by rw [iI_le (by omega) (by omega)]; omega)]
          · show fX9_live_B40 (iI x) (iI ((x.toNat : Nat) : Int)) N = _
            unfold fX9_live_B40
            rw [if_pos (by rw [iI_le (by omega) (by omega)]; omega)]
          · rw [e3]
            congr 1
            omega)
      obtain ⟨D3, hc3⟩ := hRr.1
      have e9 : r 2 9 = iI (D 0 + x) := by
        have a1 : r 2 9 = iI (D3 0) := hc3.2.1.1.1
        have a2 := hc3.1 0 (by omega)
        rw [hY] at a2
        rw [a1, ← a2]
      refine ⟨iI (D 0 + x), r, r', ?_, ?_, hRr⟩
      · unfold fX8_live fX8_live_L39 fX8_live_L90
        simp (disch := omega) only [il_0, il_1, il_2, il_3, il_4, il_5, il_6, il_7, il_8, il_9, il_10, il_11, il_12, il_13, il_16, il_20, il_30, il_31, il_32, il_33, il_36, il_37, il_38, il_40, il_41, il_42, il_43, il_45, il_47, il_48, il_50, il_57, il_60, il_61, il_62, il_70, il_71, il_79, il_80, il_97, il_98, il_99, il_100, il_107, il_110, il_111, il_114, il_115, il_116, il_121, il_124, il_128, il_130, il_140, il_160, il_255, il_399, il_540, il_590, il_610, il_999, il_1000, il_1250, il_10000, il_12345, il_99999, il_1000000, il_1103515245, ll_0, ll_1, ll_2, ll_3, ll_4, ll_5, ll_6, ll_7, ll_8, ll_9, ll_30, ll_48, ll_50, ll_57, ll_99, ll_100, ll_255, ll_399, ll_999, ll_99999, nq_bs, nq_ltS, nq_b2S, b2_id, bi_id, iI_add, iI_sub, iI_mul, iI_neg, lI_neg, iI_64, iI_lt, iI_le, iI_eq, iI_ag, iI_as, iI_ar, iI_dv, iI_rem, isOut8, in9, bo_nz, bo_t, bo_f, wr_s, wr_n, wr_k, if_pos, if_neg, ↓reduceIte, Nat.reduceAdd, Nat.reduceMul, Nat.reduceSub, Nat.reduceEqDiff, Int.reduceToNat, Int.toNat_natCast, Int.reduceNeg, Int.reduceAdd, Int.reduceSub, Int.reduceMul, s0, l8, e9]
      · unfold fX9_live fX9_live_L40 fX9_live_L96
        simp (disch := omega) only [il_0, il_1, il_2, il_3, il_4, il_5, il_6, il_7, il_8, il_9, il_10, il_11, il_12, il_13, il_16, il_20, il_30, il_31, il_32, il_33, il_36, il_37, il_38, il_40, il_41, il_42, il_43, il_45, il_47, il_48, il_50, il_57, il_60, il_61, il_62, il_70, il_71, il_79, il_80, il_97, il_98, il_99, il_100, il_107, il_110, il_111, il_114, il_115, il_116, il_121, il_124, il_128, il_130, il_140, il_160, il_255, il_399, il_540, il_590, il_610, il_999, il_1000, il_1250, il_10000, il_12345, il_99999, il_1000000, il_1103515245, ll_0, ll_1, ll_2, ll_3, ll_4, ll_5, ll_6, ll_7, ll_8, ll_9, ll_30, ll_48, ll_50, ll_57, ll_99, ll_100, ll_255, ll_399, ll_999, ll_99999, nq_bs, nq_ltS, nq_b2S, b2_id, bi_id, iI_add, iI_sub, iI_mul, iI_neg, lI_neg, iI_64, iI_lt, iI_le, iI_eq, iI_ag, iI_as, iI_ar, iI_dv, iI_rem, isOut8, in9, bo_nz, bo_t, bo_f, wr_s, wr_n, wr_k, if_pos, if_neg, ↓reduceIte, Nat.reduceAdd, Nat.reduceMul, Nat.reduceSub, Nat.reduceEqDiff, Int.reduceToNat, Int.toNat_natCast, Int.reduceNeg, Int.reduceAdd, Int.reduceSub, Int.reduceMul, q0, l9, hY]
    · exact h.ref 3 (by omega) (by omega) (by unfold fX8_live; simp (disch := omega) only [il_0, il_1, il_2, il_3, il_4, il_5, il_6, il_7, il_8, il_9, il_10, il_11, il_12, il_13, il_16, il_20, il_30, il_31, il_32, il_33, il_36, il_37, il_38, il_40, il_41, il_42, il_43, il_45, il_47, il_48, il_50, il_57, il_60, il_61, il_62, il_70, il_71, il_79, il_80, il_97, il_98, il_99, il_100, il_107, il_110, il_111, il_114, il_115, il_116, il_121, il_124, il_128, il_130, il_140, il_160, il_255, il_399, il_540, il_590, il_610, il_999, il_1000, il_1250, il_10000, il_12345, il_99999, il_1000000, il_1103515245, ll_0, ll_1, ll_2, ll_3, ll_4, ll_5, ll_6, ll_7, ll_8, ll_9, ll_30, ll_48, ll_50, ll_57, ll_99, ll_100, ll_255, ll_399, ll_999, ll_99999, nq_bs, nq_ltS, nq_b2S, b2_id, bi_id, iI_add, iI_sub, iI_mul, iI_neg, lI_neg, iI_64, iI_lt, iI_le, iI_eq, iI_ag, iI_as, iI_ar, iI_dv, iI_rem, isOut8, in9, bo_nz, bo_t, bo_f, wr_s, wr_n, wr_k, if_pos, if_neg, ↓reduceIte, Nat.reduceAdd, Nat.reduceMul, Nat.reduceSub, Nat.reduceEqDiff, Int.reduceToNat, Int.toNat_natCast, Int.reduceNeg, Int.reduceAdd, Int.reduceSub, Int.reduceMul, isPlace8 p0 p1, isPlace9 p0m p1, areTwo8 p0 p1, areTwo9 p0m p1, isPair8 p0 p1, areFt9 p0m p1, isPact8, isPact9, isWord8 w0 w1, isWord9 w0m w1, isSheet8, isSheet9, isPart8, isPart9, s0]) (by unfold fX9_live; simp (disch := omega) only [il_0, il_1, il_2, il_3, il_4, il_5, il_6, il_7, il_8, il_9, il_10, il_11, il_12, il_13, il_16, il_20, il_30, il_31, il_32, il_33, il_36, il_37, il_38, il_40, il_41, il_42, il_43, il_45, il_47, il_48, il_50, il_57, il_60, il_61, il_62, il_70, il_71, il_79, il_80, il_97, il_98, il_99, il_100, il_107, il_110, il_111, il_114, il_115, il_116, il_121, il_124, il_128, il_130, il_140, il_160, il_255, il_399, il_540, il_590, il_610, il_999, il_1000, il_1250, il_10000, il_12345, il_99999, il_1000000, il_1103515245, ll_0, ll_1, ll_2, ll_3, ll_4, ll_5, ll_6, ll_7, ll_8, ll_9, ll_30, ll_48, ll_50, ll_57, ll_99, ll_100, ll_255, ll_399, ll_999, ll_99999, nq_bs, nq_ltS, nq_b2S, b2_id, bi_id, iI_add, iI_sub, iI_mul, iI_neg, lI_neg, iI_64, iI_lt, iI_le, iI_eq, iI_ag, iI_as, iI_ar, iI_dv, iI_rem, isOut8, in9, bo_nz, bo_t, bo_f, wr_s, wr_n, wr_k, if_pos, if_neg, ↓reduceIte, Nat.reduceAdd, Nat.reduceMul, Nat.reduceSub, Nat.reduceEqDiff, Int.reduceToNat, Int.toNat_natCast, Int.reduceNeg, Int.reduceAdd, Int.reduceSub, Int.reduceMul, isPlace8 p0 p1, isPlace9 p0m p1, areTwo8 p0 p1, areTwo9 p0m p1, isPair8 p0 p1, areFt9 p0m p1, isPact8, isPact9, isWord8 w0 w1, isWord9 w0m w1, isSheet8, isSheet9, isPart8, isPart9, q0])
  · exact h.ref 1 (by omega) (by omega) (by unfold fX8_live; simp (disch := omega) only [il_0, il_1, il_2, il_3, il_4, il_5, il_6, il_7, il_8, il_9, il_10, il_11, il_12, il_13, il_16, il_20, il_30, il_31, il_32, il_33, il_36, il_37, il_38, il_40, il_41, il_42, il_43, il_45, il_47, il_48, il_50, il_57, il_60, il_61, il_62, il_70, il_71, il_79, il_80, il_97, il_98, il_99, il_100, il_107, il_110, il_111, il_114, il_115, il_116, il_121, il_124, il_128, il_130, il_140, il_160, il_255, il_399, il_540, il_590, il_610, il_999, il_1000, il_1250, il_10000, il_12345, il_99999, il_1000000, il_1103515245, ll_0, ll_1, ll_2, ll_3, ll_4, ll_5, ll_6, ll_7, ll_8, ll_9, ll_30, ll_48, ll_50, ll_57, ll_99, ll_100, ll_255, ll_399, ll_999, ll_99999, nq_bs, nq_ltS, nq_b2S, b2_id, bi_id, iI_add, iI_sub, iI_mul, iI_neg, lI_neg, iI_64, iI_lt, iI_le, iI_eq, iI_ag, iI_as, iI_ar, iI_dv, iI_rem, isOut8, in9, bo_nz, bo_t, bo_f, wr_s, wr_n, wr_k, if_pos, if_neg, ↓reduceIte, Nat.reduceAdd, Nat.reduceMul, Nat.reduceSub, Nat.reduceEqDiff, Int.reduceToNat, Int.toNat_natCast, Int.reduceNeg, Int.reduceAdd, Int.reduceSub, Int.reduceMul, isPlace8 p0 p1, isPlace9 p0m p1, areTwo8 p0 p1, areTwo9 p0m p1, isPair8 p0 p1, areFt9 p0m p1, isPact8, isPact9, isWord8 w0 w1, isWord9 w0m w1, isSheet8, isSheet9, isPart8, isPart9, s0]) (by unfold fX9_live; simp (disch := omega) only [il_0, il_1, il_2, il_3, il_4, il_5, il_6, il_7, il_8, il_9, il_10, il_11, il_12, il_13, il_16, il_20, il_30, il_31, il_32, il_33, il_36, il_37, il_38, il_40, il_41, il_42, il_43, il_45, il_47, il_48, il_50, il_57, il_60, il_61, il_62, il_70, il_71, il_79, il_80, il_97, il_98, il_99, il_100, il_107, il_110, il_111, il_114, il_115, il_116, il_121, il_124, il_128, il_130, il_140, il_160, il_255, il_399, il_540, il_590, il_610, il_999, il_1000, il_1250, il_10000, il_12345, il_99999, il_1000000, il_1103515245, ll_0, ll_1, ll_2, ll_3, ll_4, ll_5, ll_6, ll_7, ll_8, ll_9, ll_30, ll_48, ll_50, ll_57, ll_99, ll_100, ll_255, ll_399, ll_999, ll_99999, nq_bs, nq_ltS, nq_b2S, b2_id, bi_id, iI_add, iI_sub, iI_mul, iI_neg, lI_neg, iI_64, iI_lt, iI_le, iI_eq, iI_ag, iI_as, iI_ar, iI_dv, iI_rem, isOut8, in9, bo_nz, bo_t, bo_f, wr_s, wr_n, wr_k, if_pos, if_neg, ↓reduceIte, Nat.reduceAdd, Nat.reduceMul, Nat.reduceSub, Nat.reduceEqDiff, Int.reduceToNat, Int.toNat_natCast, Int.reduceNeg, Int.reduceAdd, Int.reduceSub, Int.reduceMul, isPlace8 p0 p1, isPlace9 p0m p1, areTwo8 p0 p1, areTwo9 p0m p1, isPair8 p0 p1, areFt9 p0m p1, isPact8, isPact9, isWord8 w0 w1, isWord9 w0m w1, isSheet8, isSheet9, isPart8, isPart9, h0])
