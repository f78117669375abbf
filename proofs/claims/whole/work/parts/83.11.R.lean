/-! 11: what stands between the class's memory and the reference's -/
def upI (D : Nat → Int) (i : Nat) (v : Int) : Nat → Int := fun j => if j = i then v else D j
theorem upI_s {D : Nat → Int} {i j : Nat} {v : Int} (h : j = i) : upI D i v j = v := by simp [upI, h]
theorem upI_n {D : Nat → Int} {i j : Nat} {v : Int} (h : j ≠ i) : upI D i v j = D j := by simp [upI, h]
/-- the words that come, by years, then by numbers -/
def arrL (D : Nat → Int) : List Nat := (List.range 11000).flatMap fun (y : Nat) => (List.range (D 2).toNat).filter fun w => decide (D (615 + 8 * w) = (y : Int))
/-- sent in years that do not go back -/
def sentOK (D : Nat → Int) (w : Nat) : Prop := D (614 + 8 * w) ≤ D 0 ∧ ∀ v, v < w → D (614 + 8 * v) ≤ D (614 + 8 * w)
theorem sentOK.frame {D D' : Nat → Int} {w : Nat} (h : sentOK D w) (h0 : D' 0 = D 0) (hd : ∀ v, v ≤ w → D' (614 + 8 * v) = D (614 + 8 * v)) : sentOK D' w := by
  obtain ⟨h1, h2⟩ := h
  refine ⟨by rw [hd w (Nat.le_refl _), h0]; exact h1, fun v hv => ?_⟩
  rw [hd v (by omega), hd w (Nat.le_refl _)]; exact h2 v hv
def wordOK (D : Nat → Int) (w : Nat) : Prop :=
  (0 ≤ D (610 + 8 * w) ∧ D (610 + 8 * w) ≤ 6) ∧ (0 ≤ D (611 + 8 * w) ∧ D (611 + 8 * w) ≤ 5) ∧ (0 ≤ D (612 + 8 * w) ∧ D (612 + 8 * w) ≤ 5) ∧ (0 ≤ D (613 + 8 * w) ∧ D (613 + 8 * w) ≤ 3) ∧
  (0 ≤ D (614 + 8 * w) ∧ D (614 + 8 * w) ≤ 399) ∧ (-1 ≤ D (615 + 8 * w) ∧ D (615 + 8 * w) ≤ 10500) ∧ (0 ≤ D (616 + 8 * w) ∧ D (616 + 8 * w) ≤ 99) ∧ (1 ≤ D (617 + 8 * w) ∧ D (617 + 8 * w) ≤ w + 1) ∧ sentOK D w
def GS (M : Mem) (p : Nat) (D : Nat → Int) : Prop :=
  (M p 9 = iI (D 0) ∧ M p 10 = iI (D 5) ∧ M p 11 = iI (D 6) ∧ M p 12 = iI (10 * D 7 + D 8) ∧ M p 13 = iI (D 4) ∧ M p 14 = iI (D 9) ∧ M p 15 = iI (D 3) ∧ M p 16 = iI (D 10)) ∧
  (0 ≤ D 0 ∧ D 0 ≤ 399) ∧ inR (D 4) ∧ (0 ≤ D 5 ∧ D 5 ≤ 99) ∧ (2 ≤ D 6 ∧ D 6 ≤ 9) ∧ (0 ≤ D 7 ∧ D 7 ≤ D 8) ∧ (1 ≤ D 8 ∧ D 8 ≤ 9) ∧ (0 ≤ D 9 ∧ D 9 ≤ 50) ∧ (0 ≤ D 3 ∧ D 3 ≤ 8) ∧ (0 ≤ D 10 ∧ D 10 ≤ 20)
def nearN (D : Nat → Int) (j : Nat) : Nat := (D (20 + j)).toNat
def GR (M : Mem) (p : Nat) (D : Nat → Int) : Prop :=
  M p 0 = iI (D 1) ∧ (0 ≤ D 1 ∧ D 1 ≤ 6) ∧ (∀ j, j < 36 → M (p + 1) j = iI (D (20 + j)) ∧ 0 ≤ D (20 + j) ∧ D (20 + j) ≤ 30) ∧ (∀ a, a < 6 → D (20 + 7 * a) = 0) ∧ (∀ j, j < 36 → M (p + 2) j = nI (ml (nearN D) 6 j))
def GL (M : Mem) (p : Nat) (D : Nat → Int) : Prop :=
  M p 0 = iI (D 2) ∧ (0 ≤ D 2 ∧ D 2 ≤ 80) ∧ (∀ w, w < 80 → ∀ f, f < 8 → M (p + 1 + f) w = iI (D (610 + 8 * w + f))) ∧ M p 9 = nI (arrL D).length ∧ (∀ i, i < (arrL D).length → M (p + 9) i = nI ((arrL D).getD i 0)) ∧ (∀ w : Nat, (w : Int) < D 2 → wordOK D w)
def GA (M : Mem) (p : Nat) (D : Nat → Int) : Prop :=
  (∀ j, j < 50 → M p j = iI (D (540 + j)) ∧ 0 ≤ D (540 + j) ∧ D (540 + j) ≤ 255) ∧
  (∀ j, j < 6 → M (p + 1) j = iI (D (60 + j)) ∧ -1 ≤ D (60 + j) ∧ D (60 + j) ≤ 59 ∧ D (60 + j) % 10 ≠ 4 ∧ D (60 + j) % 10 ≠ 5 ∧ D (60 + j) % 10 ≠ 6 ∧ D (60 + j) % 10 ≠ 7 ∧ D (60 + j) % 10 ≠ 8) ∧
  (∀ j, j < 32 → M (p + 2) j = iI (D (70 + j)) ∧ -99 ≤ D (70 + j) ∧ D (70 + j) ≤ 99) ∧
  (∀ j, j < 8 → M (p + 3) j = iI (D (110 + 2 * j)) ∧ M (p + 4) j = iI (D (111 + 2 * j)) ∧ 0 ≤ D (110 + 2 * j) ∧ D (110 + 2 * j) ≤ 999 ∧ 0 ≤ D (111 + 2 * j) ∧ D (111 + 2 * j) ≤ 999) ∧
  (∀ j, j < 20 → M (p + 5) j = iI (D (590 + j)) ∧ inR (D (590 + j)))
def GT (M : Mem) (p : Nat) (D : Nat → Int) : Prop :=
  ∀ u, u < 8 → TxR u (M (p + 2 * u) 1) (M (p + 2 * u + 1)) (D (130 + u)) (fun i => D (140 + 50 * u + i))
def Cur (b : Nat) (row : Nat → Int32) (M : Mem) (D : Nat → Int) : Prop :=
  (∀ j, j < 1250 → row j = iI (D j)) ∧ GS M b D ∧ GR M (b + 1) D ∧ GL M (b + 4) D ∧ GA M (b + 15) D ∧ GT M (b + 21) D
def OT (Mx Mm : Mem) : Prop :=
  (∀ j, j < 6 → Mx 1 j = Mm 3 j) ∧ (∃ t : Nat, t ≤ 40 ∧ Mx 84 1 = iI t ∧ Mm 0 17 = iI t) ∧ (∀ j, j < 40 → Mx 85 j = Mm 10 j) ∧
  (∀ i, i < 4 → Mx (87 + 2 * i) 0 = Mm 11 i ∧ (∃ s : Nat, s ≤ 40 ∧ Mx (87 + 2 * i) 1 = iI s ∧ Mm 12 i = iI s) ∧ ∀ k, k < 40 → Mx (88 + 2 * i) k = Mm 13 (40 * i + k))
def RR (Mx Mm : Mem) : Prop :=
  (∃ D, Cur 2 (Mm 1) Mx D) ∧ Mx 0 3 = Mm 0 2 ∧ (Mx 0 3 ≠ 0 → ∃ D, Cur 39 (Mm 2) Mx D) ∧ OT Mx Mm
theorem GS.frame {M M' : Mem} {p : Nat} {D D' : Nat → Int} (h : GS M p D) (hm : M' p = M p) (hd : ∀ j, (j = 0 ∨ (3 ≤ j ∧ j ≤ 10)) → D' j = D j) : GS M' p D' := by
  unfold GS at *
  rw [hm, hd 0 (by omega), hd 3 (by omega), hd 4 (by omega), hd 5 (by omega), hd 6 (by omega), hd 7 (by omega), hd 8 (by omega), hd 9 (by omega), hd 10 (by omega)]
  exact h
theorem GR.frame {M M' : Mem} {p : Nat} {D D' : Nat → Int} (h : GR M p D) (hm : ∀ k, p ≤ k → k < p + 3 → M' k = M k) (hd : ∀ j, (j = 1 ∨ (20 ≤ j ∧ j < 56)) → D' j = D j) : GR M' p D' := by
  unfold GR at *
  have hn : ∀ j, j < 36 → D' (20 + j) = D (20 + j) := fun j hj => hd _ (by omega)
  have hml : ∀ b j, b ≤ 6 → j < 36 → ml (nearN D') b j = ml (nearN D) b j := by
    intro b
    induction b with
    | zero =>
      intro j _ hj
      have e : nearN D' j = nearN D j := by simp only [nearN, hn j hj]
      show ml0 (nearN D') j = ml0 (nearN D) j
      unfold ml0
      rw [e]
    | succ b ih => intro j hb hj; simp only [ml]; rw [ih j (by omega) hj, ih _ (by omega) (by omega), ih _ (by omega) (by omega)]
  obtain ⟨h1, h2, h3, h4, h5⟩ := h
  refine ⟨?_, ?_, ?_, ?_, ?_⟩
  · rw [hm p (by omega) (by omega), hd 1 (by omega)]; exact h1
  · rw [hd 1 (by omega)]; exact h2
  · intro j hj; rw [hm (p + 1) (by omega) (by omega), hn j hj]; exact h3 j hj
  · intro a ha; rw [hn (7 * a) (by omega)]; exact h4 a ha
  · intro j hj; rw [hm (p + 2) (by omega) (by omega), hml 6 j (by omega) hj]; exact h5 j hj
theorem arrL_congr {D D' : Nat → Int} (h2 : D' 2 = D 2) (h3 : D 2 ≤ 80) (hd : ∀ w, w < 80 → D' (615 + 8 * w) = D (615 + 8 * w)) : arrL D' = arrL D := by
  unfold arrL
  rw [h2]
  congr 1
  funext y
  apply List.filter_congr
  intro w hw
  rw [List.mem_range] at hw
  rw [hd w (by omega)]
theorem GL.frame {M M' : Mem} {p : Nat} {D D' : Nat → Int} (h : GL M p D) (hm : ∀ k, p ≤ k → k < p + 10 → M' k = M k) (hd : ∀ j, (j = 0 ∨ j = 2 ∨ (610 ≤ j ∧ j < 1250)) → D' j = D j) : GL M' p D' := by
  unfold GL at *
  obtain ⟨h1, h2, h3, h4, h5, h6⟩ := h
  have e : arrL D' = arrL D := arrL_congr (hd 2 (by omega)) h2.2 (fun w hw => hd _ (by omega))
  rw [e, hd 2 (by omega), hm p (by omega) (by omega), hm (p + 9) (by omega) (by omega)]
  refine ⟨h1, h2, ?_, h4, h5, ?_⟩
  · intro w hw f hf; rw [hm _ (by omega) (by omega), hd _ (by omega)]; exact h3 w hw f hf
  · intro w hw
    obtain ⟨a0, a1, a2, a3, a4, a5, a6, a7, a8⟩ := h6 w hw
    unfold wordOK
    rw [hd (610 + 8 * w) (by omega), hd (611 + 8 * w) (by omega), hd (612 + 8 * w) (by omega), hd (613 + 8 * w) (by omega), hd (614 + 8 * w) (by omega), hd (615 + 8 * w) (by omega), hd (616 + 8 * w) (by omega), hd (617 + 8 * w) (by omega)]
    exact ⟨a0, a1, a2, a3, a4, a5, a6, a7, a8.frame (hd 0 (by omega)) (fun v hv => hd _ (by omega))⟩
theorem GA.frame {M M' : Mem} {p : Nat} {D D' : Nat → Int} (h : GA M p D) (hm : ∀ k, p ≤ k → k < p + 6 → M' k = M k) (hd : ∀ j, (540 ≤ j ∧ j < 610) ∨ (60 ≤ j ∧ j < 126) → D' j = D j) : GA M' p D' := by
  unfold GA at *
  obtain ⟨h1, h2, h3, h4, h5⟩ := h
  rw [hm p (by omega) (by omega), hm (p + 1) (by omega) (by omega), hm (p + 2) (by omega) (by omega), hm (p + 3) (by omega) (by omega), hm (p + 4) (by omega) (by omega), hm (p + 5) (by omega) (by omega)]
  refine ⟨?_, ?_, ?_, ?_, ?_⟩
  · intro j hj; rw [hd _ (by omega)]; exact h1 j hj
  · intro j hj; rw [hd _ (by omega)]; exact h2 j hj
  · intro j hj; rw [hd _ (by omega)]; exact h3 j hj
  · intro j hj; rw [hd _ (by omega), hd _ (by omega)]; exact h4 j hj
  · intro j hj; rw [hd _ (by omega)]; exact h5 j hj
theorem GT.frame {M M' : Mem} {p : Nat} {D D' : Nat → Int} (h : GT M p D) (hm : ∀ k, p ≤ k → k < p + 16 → M' k = M k) (hd : ∀ j, (130 ≤ j ∧ j < 138) ∨ (140 ≤ j ∧ j < 540) → D' j = D j) : GT M' p D' := by
  unfold GT at *
  intro u hu
  rw [hm _ (by omega) (by omega), hm _ (by omega) (by omega), hd _ (by omega)]
  exact TxR.frame (h u hu) (fun _ _ _ i _ => rfl) (fun i hi => hd _ (by omega))
theorem Cur.frame {b : Nat} {row row' : Nat → Int32} {M M' : Mem} {D : Nat → Int} (h : Cur b row M D) (hr : ∀ j, j < 1250 → row' j = row j) (hm : ∀ k, b ≤ k → k < b + 37 → M' k = M k) : Cur b row' M' D := by
  obtain ⟨h0, h1, h2, h3, h4, h5⟩ := h
  exact ⟨fun j hj => (hr j hj).trans (h0 j hj), h1.frame (hm b (by omega) (by omega)) (fun _ _ => rfl), h2.frame (fun k a c => hm k (by omega) (by omega)) (fun _ _ => rfl), h3.frame (fun k a c => hm k (by omega) (by omega)) (fun _ _ => rfl), h4.frame (fun k a c => hm k (by omega) (by omega)) (fun _ _ => rfl), h5.frame (fun k a c => hm k (by omega) (by omega)) (fun _ _ => rfl)⟩
/-- what else must stay when the world changes -/
def KeepX (Mx Mx' : Mem) : Prop := ∀ k, (k < 2 ∨ (39 ≤ k ∧ k < 76) ∨ 84 ≤ k) → Mx' k = Mx k
def KeepM (Mm Mm' : Mem) : Prop := (∀ k, (k = 2 ∨ k = 3 ∨ (10 ≤ k ∧ k < 14)) → Mm' k = Mm k) ∧ Mm' 0 2 = Mm 0 2 ∧ Mm' 0 17 = Mm 0 17
theorem RR.upd {Mx Mm Mx' Mm' : Mem} {D : Nat → Int} (h : RR Mx Mm) (hx : KeepX Mx Mx') (hm : KeepM Mm Mm') (hc : Cur 2 (Mm' 1) Mx' D) : RR Mx' Mm' := by
  obtain ⟨_, h2, h3, o1, o2, o3, o4⟩ := h
  obtain ⟨m1, m2, m3⟩ := hm
  refine ⟨⟨D, hc⟩, ?_, ?_, ?_, ?_, ?_, ?_⟩
  · rw [hx 0 (by omega), m2]; exact h2
  · rw [hx 0 (by omega)]
    intro hi
    obtain ⟨D2, hc2⟩ := h3 hi
    exact ⟨D2, hc2.frame (fun j _ => by rw [m1 2 (by omega)]) (fun k a c => hx k (by omega))⟩
  · intro j hj; rw [hx 1 (by omega), m1 3 (by omega)]; exact o1 j hj
  · rw [hx 84 (by omega), m3]; exact o2
  · intro j hj; rw [hx 85 (by omega), m1 10 (by omega)]; exact o3 j hj
  · intro i hi
    rw [hx _ (by omega), hx _ (by omega), m1 11 (by omega), m1 12 (by omega), m1 13 (by omega)]
    exact o4 i hi
/-- scratch changes alone -/
theorem RR.scr {Mx Mm Mx' Mm' : Mem} (h : RR Mx Mm) (hx : KeepX Mx Mx') (hx2 : ∀ k, 2 ≤ k → k < 39 → Mx' k = Mx k) (hm : KeepM Mm Mm') (hm1 : Mm' 1 = Mm 1) : RR Mx' Mm' := by
  obtain ⟨D, hc⟩ := h.1
  exact h.upd hx hm (hc.frame (fun j _ => by rw [hm1]) (fun k a c => hx2 k (by omega) (by omega)))
theorem KeepX.refl (M : Mem) : KeepX M M := fun _ _ => rfl
theorem KeepM.refl (M : Mem) : KeepM M M := ⟨fun _ _ => rfl, rfl, rfl⟩
theorem RR.out {Mx Mm Mx' Mm' : Mem} (h : RR Mx Mm) (hx : ∀ k, (k = 0 ∨ (2 ≤ k ∧ k < 76)) → Mx' k = Mx k) (hm : Mm' 1 = Mm 1 ∧ Mm' 2 = Mm 2 ∧ Mm' 0 2 = Mm 0 2) (ho : OT Mx' Mm') : RR Mx' Mm' := by
  obtain ⟨⟨D, hc⟩, h2, h3, _⟩ := h
  refine ⟨⟨D, hc.frame (fun j _ => by rw [hm.1]) (fun k a c => hx k (by omega))⟩, ?_, ?_, ho⟩
  · rw [hx 0 (by omega), hm.2.2]; exact h2
  · rw [hx 0 (by omega)]
    intro hi
    obtain ⟨D2, hc2⟩ := h3 hi
    exact ⟨D2, hc2.frame (fun j _ => by rw [hm.2.1]) (fun k a c => hx k (by omega))⟩
/-- an ERROR is told -/
theorem RR.refuse {Mx Mm : Mem} (h : RR Mx Mm) (k : Int) (h0 : 0 ≤ k) (h6 : k < 6) : ∃ Mx1 Mm1, fX8_refuse (iI k) Mx = some (iI (-1000000 - k), Mx1) ∧ fX9_finds (iI k) Mm = some (iI (-1000000 - k), Mm1) ∧ RR Mx1 Mm1 := by
  refine ⟨nq_wr Mx 1 k.toNat (Mx 1 k.toNat + iI 1), nq_wr Mm 3 k.toNat (Mm 3 k.toNat + iI 1), ?_, ?_, ?_⟩
  · unfold fX8_refuse
    simp (disch := omega) only [il_0, il_1, il_2, il_3, il_4, il_5, il_6, il_7, il_8, il_9, il_10, il_11, il_12, il_13, il_16, il_20, il_30, il_31, il_32, il_33, il_36, il_37, il_38, il_40, il_41, il_42, il_43, il_45, il_47, il_48, il_50, il_57, il_60, il_61, il_62, il_70, il_71, il_79, il_80, il_97, il_98, il_99, il_100, il_107, il_110, il_111, il_114, il_115, il_116, il_121, il_124, il_128, il_130, il_140, il_160, il_255, il_399, il_540, il_590, il_610, il_999, il_1000, il_1250, il_10000, il_12345, il_99999, il_1000000, il_1103515245, ll_0, ll_1, ll_2, ll_3, ll_4, ll_5, ll_6, ll_7, ll_8, ll_9, ll_30, ll_48, ll_50, ll_57, ll_99, ll_100, ll_255, ll_399, ll_999, ll_99999, nq_bs, nq_ltS, nq_b2S, b2_id, bi_id, iI_add, iI_sub, iI_mul, iI_neg, lI_neg, iI_64, iI_lt, iI_le, iI_eq, iI_ag, iI_as, iI_ar, iI_dv, iI_rem, isOut8, in9, bo_nz, bo_t, bo_f, wr_s, wr_n, wr_k, if_pos, if_neg, ↓reduceIte, Nat.reduceAdd, Nat.reduceMul, Nat.reduceSub, Nat.reduceEqDiff, Int.reduceToNat, Int.toNat_natCast, Int.reduceNeg, Int.reduceAdd, Int.reduceSub, Int.reduceMul]
  · unfold fX9_finds
    simp (disch := omega) only [il_0, il_1, il_2, il_3, il_4, il_5, il_6, il_7, il_8, il_9, il_10, il_11, il_12, il_13, il_16, il_20, il_30, il_31, il_32, il_33, il_36, il_37, il_38, il_40, il_41, il_42, il_43, il_45, il_47, il_48, il_50, il_57, il_60, il_61, il_62, il_70, il_71, il_79, il_80, il_97, il_98, il_99, il_100, il_107, il_110, il_111, il_114, il_115, il_116, il_121, il_124, il_128, il_130, il_140, il_160, il_255, il_399, il_540, il_590, il_610, il_999, il_1000, il_1250, il_10000, il_12345, il_99999, il_1000000, il_1103515245, ll_0, ll_1, ll_2, ll_3, ll_4, ll_5, ll_6, ll_7, ll_8, ll_9, ll_30, ll_48, ll_50, ll_57, ll_99, ll_100, ll_255, ll_399, ll_999, ll_99999, nq_bs, nq_ltS, nq_b2S, b2_id, bi_id, iI_add, iI_sub, iI_mul, iI_neg, lI_neg, iI_64, iI_lt, iI_le, iI_eq, iI_ag, iI_as, iI_ar, iI_dv, iI_rem, isOut8, in9, bo_nz, bo_t, bo_f, wr_s, wr_n, wr_k, if_pos, if_neg, ↓reduceIte, Nat.reduceAdd, Nat.reduceMul, Nat.reduceSub, Nat.reduceEqDiff, Int.reduceToNat, Int.toNat_natCast, Int.reduceNeg, Int.reduceAdd, Int.reduceSub, Int.reduceMul]
  · obtain ⟨o1, o2, o3, o4⟩ := h.2.2.2
    refine h.out (fun a ha => wr_k (by omega)) ⟨wr_k (by omega), wr_k (by omega), by rw [wr_k (by omega)]⟩ ⟨?_, ?_, ?_, ?_⟩
    · intro j hj
      by_cases e : j = k.toNat
      · rw [wr_s ⟨rfl, e⟩, wr_s ⟨rfl, e⟩, ← e, o1 j hj]
      · rw [wr_n (Or.inr e), wr_n (Or.inr e)]; exact o1 j hj
    · rw [wr_k (by omega), wr_k (by omega)]; exact o2
    · intro j hj; rw [wr_k (by omega), wr_k (by omega)]; exact o3 j hj
    · intro i hi
      rw [wr_k (by omega), wr_k (by omega), wr_k (by omega), wr_k (by omega), wr_k (by omega)]
      exact o4 i hi
theorem RR.ref {Mx Mm : Mem} {o8 o9 : Option (Int32 × Mem)} (h : RR Mx Mm) (k : Int) (h0 : 0 ≤ k) (h6 : k < 6) (e8 : o8 = fX8_refuse (iI k) Mx) (e9 : o9 = fX9_finds (iI k) Mm) : ∃ (r : Int32) (Mx1 Mm1 : Mem), o8 = some (r, Mx1) ∧ o9 = some (r, Mm1) ∧ RR Mx1 Mm1 := by
  obtain ⟨a, b, h8, h9, hR⟩ := h.refuse k h0 h6
  exact ⟨_, a, b, e8.trans h8, e9.trans h9, hR⟩
theorem RR.same {Mx Mm : Mem} {o8 o9 : Option (Int32 × Mem)} {v : Int32} (h : RR Mx Mm) (e8 : o8 = some (v, Mx)) (e9 : o9 = some (v, Mm)) : ∃ (r : Int32) (Mx1 Mm1 : Mem), o8 = some (r, Mx1) ∧ o9 = some (r, Mm1) ∧ RR Mx1 Mm1 := ⟨v, Mx, Mm, e8, e9, h⟩
