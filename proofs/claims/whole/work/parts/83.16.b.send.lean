/-! 16.b: a word is sent by both; hops: word -/
def zN (D : Nat → Int) : Int32 := iI (D 4 * 1103515245 + 12345)
def tN (z : Int32) : Int32 := (z.toUInt32 >>> ((iI 8).toUInt32 &&& Int32.toUInt32 (iI 31))).toInt32
def rN (D : Nat → Int) : Int32 := tN (zN D) - tN (zN D) / iI (D 8) * iI (D 8)
def zI (D : Nat → Int) : Int := (zN D).toInt
theorem zI_e (D : Nat → Int) : iI (zI D) = zN D := Int32.ofInt_toInt _
theorem zI_r (D : Nat → Int) : inR (zI D) := by
  unfold zI
  have h1 := (zN D).le_toInt
  have h2 := (zN D).toInt_lt
  omega
def cmI (D : Nat → Int) (k a b : Int) : Int := if iI (D 7) ≤ rN D then D 0 + wayI D a b + (if k = 6 then 2 else 0) else -1
def sndD (D : Nat → Int) (k a b p : Int) : Nat → Int := sD D (vF k a b p (D 0) (cmI D k a b) (D 5) (1 + dpI D a p (D 0))) (zI D)
theorem sD_2 {D v : Nat → Int} {z : Int} : sD D v z 2 = D 2 + 1 := by simp [sD]
theorem sD_4 {D v : Nat → Int} {z : Int} : sD D v z 4 = z := by simp [sD]
theorem sD_n {D v : Nat → Int} {z : Int} {j : Nat} (h : j ≠ 2 ∧ j ≠ 4 ∧ (j < 610 + 8 * (D 2).toNat ∨ 618 + 8 * (D 2).toNat ≤ j)) : sD D v z j = D j := by
  unfold sD
  rw [if_neg h.1, if_neg h.2.1, if_neg (by omega)]
theorem sD_f {D v : Nat → Int} {z : Int} {f : Nat} (h : f < 8) : sD D v z (610 + 8 * (D 2).toNat + f) = v f := by
  unfold sD
  rw [if_neg (by omega), if_neg (by omega), if_pos (by omega)]
  congr 1; omega
theorem rem_any {x : Int32} {q : Int} (h : 1 ≤ q ∧ q ≤ 9) : nq_rem x (iI q) = some (x - x / iI q * iI q) := by
  unfold nq_rem
  rw [if_neg (by rw [il_0, iI_eq (by omega) (by omega)]; omega)]
theorem max1 {q : Int} (h : 1 ≤ q ∧ q ≤ 9) : (if 1 < q then iI q else iI 1) = iI q := by
  by_cases c : q = 1
  · subst c; rw [if_neg (by decide)]
  · rw [if_pos (by omega)]
theorem send8 {Mx : Mem} {row : Nat → Int32} {D : Nat → Int} (hc : Cur 2 row Mx D) {k a b p : Int} (hk : 0 ≤ k ∧ k ≤ 6) (ha : 0 ≤ a ∧ a ≤ 5) (hb : 0 ≤ b ∧ b ≤ 5) (hp : 0 ≤ p ∧ p ≤ 3) (hw : 0 ≤ wayI D a b) (hn : D 2 < 80) : ∃ M', fX7_send 2 (iI k) (iI a) (iI b) (iI p) Mx = some (iI (D 2), M') ∧ KeepX Mx M' ∧ ∀ row' : Nat → Int32, (∀ j, j < 1250 → row' j = iI (sndD D k a b p j)) → Cur 2 row' M' (sndD D k a b p) := by
  obtain ⟨h0, hS, hR, hL, hA, hT⟩ := hc
  have hS' := hS
  obtain ⟨⟨s0, s5, s6, s7, s4, s9, s3, s10⟩, s0', s4', s5', s6', s7', s8', s9', s3', s10'⟩ := hS'
  have w1 := hL.2.1
  have bd := wayI_bd hR (i := a) (j := b) (by omega) (by omega)
  have hR2 : GR (nq_wr Mx 2 13 (zN D)) 3 D := hR.frame (fun q h1 h2 => wr_k (by omega)) (fun _ _ => rfl)
  have hL2 : GL (nq_wr Mx 2 13 (zN D)) 6 D := hL.frame (fun q h1 h2 => wr_k (by omega)) (fun _ _ => rfl)
  have k8 := years8 hR2 (i := a) (j := b) (by omega) (by omega)
  have key : ∀ c, -1 ≤ c ∧ c ≤ 10500 → c = cmI D k a b → ∃ M', fX0_add 6 (iI k) (iI (10 * a + b)) (iI p) (iI (D 0)) (iI c) (iI (D 5)) (nq_wr Mx 2 13 (zN D)) = some (iI (D 2), M') ∧ KeepX Mx M' ∧ ∀ row' : Nat → Int32, (∀ j, j < 1250 → row' j = iI (sndD D k a b p j)) → Cur 2 row' M' (sndD D k a b p) := by
    intro c hc1 hc2
    obtain ⟨M', x1, x2, x3⟩ := add8 hL2 (n := (D 2).toNat) (by omega) (by omega) (z := zI D) hk ha hb hp s0' rfl hc1 s5'
    rw [Int.toNat_of_nonneg w1.1] at x1
    refine ⟨M', x1, ?_, ?_⟩
    · intro q hq
      rw [x2 q (by omega), wr_k (by omega)]
    · intro row' hrow
      subst hc2
      refine ⟨hrow, ?_, ?_, x3, ?_, ?_⟩
      · have e2 : M' 2 = nq_wr Mx 2 13 (zN D) 2 := x2 2 (by omega)
        unfold GS sndD
        rw [e2, sD_4, sD_n (by omega), sD_n (by omega), sD_n (by omega), sD_n (by omega), sD_n (by omega), sD_n (by omega), sD_n (by omega), sD_n (by omega), zI_e]
        simp (disch := omega) only [wr_s, wr_n]
        exact ⟨⟨s0, s5, s6, s7, trivial, s9, s3, s10⟩, s0', zI_r D, s5', s6', s7', s8', s9', s3', s10'⟩
      · exact hR2.frame (fun q h1 h2 => x2 q (by omega)) (fun j hj => sD_n (by omega))
      · exact hA.frame (fun q h1 h2 => by rw [x2 q (by omega), wr_k (by omega)]) (fun j hj => sD_n (by omega))
      · exact hT.frame (fun q h1 h2 => by rw [x2 q (by omega), wr_k (by omega)]) (fun j hj => sD_n (by omega))
  have q1 : (10 * D 7 + D 8) % 10 = D 8 := by omega
  have q2 : (10 * D 7 + D 8) / 10 = D 7 := by omega
  have ez : iI (D 4 * 1103515245 + 12345) = zN D := rfl
  have et : ∀ z : Int32, (z.toUInt32 >>> ((iI 8).toUInt32 &&& Int32.toUInt32 (iI 31))).toInt32 = tN z := fun _ => rfl
  have er : tN (zN D) - tN (zN D) / iI (D 8) * iI (D 8) = rN D := rfl
  by_cases cl : iI (D 7) ≤ rN D
  · by_cases c6 : k = 6
    · obtain ⟨M', x1, x2⟩ := key (D 0 + wayI D a b + 2) (by omega) (by unfold cmI; rw [if_pos cl, if_pos c6])
      refine ⟨M', ?_, x2⟩
      unfold fX7_send fX7_send_L49 fX7_send_L76
      simp (disch := omega) only [il_0, il_1, il_2, il_3, il_4, il_5, il_6, il_7, il_8, il_9, il_10, il_11, il_12, il_13, il_16, il_20, il_30, il_31, il_32, il_33, il_36, il_37, il_38, il_40, il_41, il_42, il_43, il_45, il_47, il_48, il_50, il_57, il_60, il_61, il_62, il_70, il_71, il_79, il_80, il_97, il_98, il_99, il_100, il_107, il_110, il_111, il_114, il_115, il_116, il_121, il_124, il_128, il_130, il_140, il_160, il_255, il_399, il_540, il_590, il_610, il_999, il_1000, il_1250, il_10000, il_12345, il_99999, il_1000000, il_1103515245, ll_0, ll_1, ll_2, ll_3, ll_4, ll_5, ll_6, ll_7, ll_8, ll_9, ll_30, ll_48, ll_50, ll_57, ll_99, ll_100, ll_255, ll_399, ll_999, ll_99999, nq_bs, nq_ltS, nq_b2S, b2_id, bi_id, iI_add, iI_sub, iI_mul, iI_neg, lI_neg, iI_64, iI_lt, iI_le, iI_eq, iI_ag, iI_as, iI_ar, iI_dv, iI_rem, isOut8, in9, bo_nz, bo_t, bo_f, wr_s, wr_n, wr_k, if_pos, if_neg, ↓reduceIte, Nat.reduceAdd, Nat.reduceMul, Nat.reduceSub, Nat.reduceEqDiff, Int.reduceToNat, Int.toNat_natCast, Int.reduceNeg, Int.reduceAdd, Int.reduceSub, Int.reduceMul, s4, s7, s0, s5, q1, q2, ez, et, max1, rem_any, er, cl, k8, x1]
    · obtain ⟨M', x1, x2⟩ := key (D 0 + wayI D a b + 0) (by omega) (by unfold cmI; rw [if_pos cl, if_neg c6])
      refine ⟨M', ?_, x2⟩
      unfold fX7_send fX7_send_L49 fX7_send_L76
      simp (disch := omega) only [il_0, il_1, il_2, il_3, il_4, il_5, il_6, il_7, il_8, il_9, il_10, il_11, il_12, il_13, il_16, il_20, il_30, il_31, il_32, il_33, il_36, il_37, il_38, il_40, il_41, il_42, il_43, il_45, il_47, il_48, il_50, il_57, il_60, il_61, il_62, il_70, il_71, il_79, il_80, il_97, il_98, il_99, il_100, il_107, il_110, il_111, il_114, il_115, il_116, il_121, il_124, il_128, il_130, il_140, il_160, il_255, il_399, il_540, il_590, il_610, il_999, il_1000, il_1250, il_10000, il_12345, il_99999, il_1000000, il_1103515245, ll_0, ll_1, ll_2, ll_3, ll_4, ll_5, ll_6, ll_7, ll_8, ll_9, ll_30, ll_48, ll_50, ll_57, ll_99, ll_100, ll_255, ll_399, ll_999, ll_99999, nq_bs, nq_ltS, nq_b2S, b2_id, bi_id, iI_add, iI_sub, iI_mul, iI_neg, lI_neg, iI_64, iI_lt, iI_le, iI_eq, iI_ag, iI_as, iI_ar, iI_dv, iI_rem, isOut8, in9, bo_nz, bo_t, bo_f, wr_s, wr_n, wr_k, if_pos, if_neg, ↓reduceIte, Nat.reduceAdd, Nat.reduceMul, Nat.reduceSub, Nat.reduceEqDiff, Int.reduceToNat, Int.toNat_natCast, Int.reduceNeg, Int.reduceAdd, Int.reduceSub, Int.reduceMul, s4, s7, s0, s5, q1, q2, ez, et, max1, rem_any, er, cl, k8, x1]
  · obtain ⟨M', x1, x2⟩ := key (-1) (by omega) (by unfold cmI; rw [if_neg cl])
    refine ⟨M', ?_, x2⟩
    unfold fX7_send fX7_send_L49 fX7_send_L76
    by_cases c6 : k = 6
    · simp (disch := omega) only [il_0, il_1, il_2, il_3, il_4, il_5, il_6, il_7, il_8, il_9, il_10, il_11, il_12, il_13, il_16, il_20, il_30, il_31, il_32, il_33, il_36, il_37, il_38, il_40, il_41, il_42, il_43, il_45, il_47, il_48, il_50, il_57, il_60, il_61, il_62, il_70, il_71, il_79, il_80, il_97, il_98, il_99, il_100, il_107, il_110, il_111, il_114, il_115, il_116, il_121, il_124, il_128, il_130, il_140, il_160, il_255, il_399, il_540, il_590, il_610, il_999, il_1000, il_1250, il_10000, il_12345, il_99999, il_1000000, il_1103515245, ll_0, ll_1, ll_2, ll_3, ll_4, ll_5, ll_6, ll_7, ll_8, ll_9, ll_30, ll_48, ll_50, ll_57, ll_99, ll_100, ll_255, ll_399, ll_999, ll_99999, nq_bs, nq_ltS, nq_b2S, b2_id, bi_id, iI_add, iI_sub, iI_mul, iI_neg, lI_neg, iI_64, iI_lt, iI_le, iI_eq, iI_ag, iI_as, iI_ar, iI_dv, iI_rem, isOut8, in9, bo_nz, bo_t, bo_f, wr_s, wr_n, wr_k, if_pos, if_neg, ↓reduceIte, Nat.reduceAdd, Nat.reduceMul, Nat.reduceSub, Nat.reduceEqDiff, Int.reduceToNat, Int.toNat_natCast, Int.reduceNeg, Int.reduceAdd, Int.reduceSub, Int.reduceMul, s4, s7, s0, s5, q1, q2, ez, et, max1, rem_any, er, cl, k8, x1]
    · simp (disch := omega) only [il_0, il_1, il_2, il_3, il_4, il_5, il_6, il_7, il_8, il_9, il_10, il_11, il_12, il_13, il_16, il_20, il_30, il_31, il_32, il_33, il_36, il_37, il_38, il_40, il_41, il_42, il_43, il_45, il_47, il_48, il_50, il_57, il_60, il_61, il_62, il_70, il_71, il_79, il_80, il_97, il_98, il_99, il_100, il_107, il_110, il_111, il_114, il_115, il_116, il_121, il_124, il_128, il_130, il_140, il_160, il_255, il_399, il_540, il_590, il_610, il_999, il_1000, il_1250, il_10000, il_12345, il_99999, il_1000000, il_1103515245, ll_0, ll_1, ll_2, ll_3, ll_4, ll_5, ll_6, ll_7, ll_8, ll_9, ll_30, ll_48, ll_50, ll_57, ll_99, ll_100, ll_255, ll_399, ll_999, ll_99999, nq_bs, nq_ltS, nq_b2S, b2_id, bi_id, iI_add, iI_sub, iI_mul, iI_neg, lI_neg, iI_64, iI_lt, iI_le, iI_eq, iI_ag, iI_as, iI_ar, iI_dv, iI_rem, isOut8, in9, bo_nz, bo_t, bo_f, wr_s, wr_n, wr_k, if_pos, if_neg, ↓reduceIte, Nat.reduceAdd, Nat.reduceMul, Nat.reduceSub, Nat.reduceEqDiff, Int.reduceToNat, Int.toNat_natCast, Int.reduceNeg, Int.reduceAdd, Int.reduceSub, Int.reduceMul, s4, s7, s0, s5, q1, q2, ez, et, max1, rem_any, er, cl, k8, x1]
theorem sends9 {M Mx : Mem} {D : Nat → Int} (h0 : ∀ j, j < 1250 → M 1 j = iI (D j)) (hS : GS Mx 2 D) (hR : GR Mx 3 D) (hL : GL Mx 6 D) {k f p : Int} (hk : 0 ≤ k ∧ k ≤ 6) (hf : 0 ≤ f ∧ f ≤ 59 ∧ f % 10 ≤ 5) (hp : 0 ≤ p ∧ p ≤ 3) (hw : 0 ≤ wayI D (f / 10) (f % 10)) (hn : D 2 < 80) : ∃ M', fX9_sends (iI k) (iI f) (iI p) M = some M' ∧ KeepM M M' ∧ ∀ j, j < 1250 → M' 1 j = iI (sndD D k (f / 10) (f % 10) p j) := by
  obtain ⟨_, s0', s4', s5', s6', s7', s8', s9', s3', s10'⟩ := hS
  have w1 := hL.2.1
  have bd := wayI_bd hR (i := f / 10) (j := f % 10) (by omega) (by omega)
  obtain ⟨n, hnn⟩ := Int.eq_ofNat_of_zero_le w1.1
  have en : (D 2).toNat = n := by omega
  have hd := known9 h0 w1 hL.2.2.2.2.2 (x := f / 10) (y := p) (Y := D 0) (by omega) (by omega) (by omega)
  rw [← dpI_range s0'.1] at hd
  have bdd := dpI_bd hL (x := f / 10) (y := p) s0'.1
  have ez : iI (D 4 * 1103515245 + 12345) = zN D := rfl
  have et : ∀ z : Int32, (z.toUInt32 >>> ((iI 8).toUInt32 &&& Int32.toUInt32 (iI 31))).toInt32 = tN z := fun _ => rfl
  have er : tN (zN D) - tN (zN D) / iI (D 8) * iI (D 8) = rN D := rfl
  -- five fields first
  generalize hM5 : nq_wr (nq_wr (nq_wr (nq_wr (nq_wr M 1 (610 + 8 * n) (iI k)) 1 (611 + 8 * n) (iI (f / 10))) 1 (612 + 8 * n) (iI (f % 10))) 1 (613 + 8 * n) (iI p)) 1 (614 + 8 * n) (iI (D 0)) = M5
  have m5 : ∀ j, j < 1250 → (j < 610 + 8 * n ∨ 618 + 8 * n ≤ j) → M5 1 j = iI (D j) := by
    intro j hj hj2
    rw [← hM5, wr_n (by omega), wr_n (by omega), wr_n (by omega), wr_n (by omega), wr_n (by omega)]; exact h0 j hj
  have m5k : ∀ q, q ≠ 1 → M5 q = M q := by
    intro q hq
    rw [← hM5, wr_k hq, wr_k hq, wr_k hq, wr_k hq, wr_k hq]
  have D5 : ∃ D5 : Nat → Int, (∀ j, j < 1250 → M5 1 j = iI (D5 j)) ∧ ∀ j, (j < 610 + 8 * n ∨ 618 + 8 * n ≤ j) → D5 j = D j := by
    refine ⟨upI (upI (upI (upI (upI D (610 + 8 * n) k) (611 + 8 * n) (f / 10)) (612 + 8 * n) (f % 10)) (613 + 8 * n) p) (614 + 8 * n) (D 0), ?_, ?_⟩
    · rw [← hM5]; exact row_wr (row_wr (row_wr (row_wr (row_wr h0))))
    · intro j hj; rw [upI_n (by omega), upI_n (by omega), upI_n (by omega), upI_n (by omega), upI_n (by omega)]
  obtain ⟨D5, d5, d5n⟩ := D5
  have hR5 : GR Mx 3 D5 := hR.frame (fun _ _ _ => rfl) (fun j hj => d5n j (by omega))
  have e5 : nearN D5 = nearN D ∨ True := Or.inr trivial
  have w9 := wayOf9 d5 hR5 (i := f / 10) (j := f % 10) (by omega) (by omega)
  have wE : wayI D5 (f / 10) (f % 10) = wayI D (f / 10) (f % 10) := by
    have hY : ∀ b j, b ≤ 6 → j < 36 → fw (r0 (nearN D5)) b j = fw (r0 (nearN D)) b j := by
      intro b
      induction b with
      | zero =>
        intro j _ hj
        have e : nearN D5 j = nearN D j := by unfold nearN; rw [d5n _ (by omega)]
        show r0 (nearN D5) j = r0 (nearN D) j
        unfold r0; rw [e]
      | succ b ih => intro j hb hj; simp only [fw]; rw [ih j (by omega) hj, ih _ (by omega) (by omega), ih _ (by omega) (by omega)]
    unfold wayI YY
    rw [hY 6 _ (by omega) (by omega)]
  rw [wE] at w9
  generalize hM6 : wayM D5 M5 = M6 at w9
  have m6 : M6 1 = M5 1 := by rw [← hM6]; exact wayM_k (by omega)
  have m6k : ∀ q, q ≠ 1 → q ≠ 4 → M6 q = M q := by
    intro q h1 h4
    rw [← hM6, wayM_k h4]; exact m5k q h1
  have r6 : ∀ j, j < 1250 → (j < 610 + 8 * n ∨ 618 + 8 * n ≤ j) → M6 1 j = iI (D j) := by
    intro j hj hj2; rw [m6]; exact m5 j hj hj2
  have v6 : ∀ g : Nat, g < 5 → M6 1 (610 + g + 8 * n) = iI (vF k (f / 10) (f % 10) p (D 0) 0 0 0 g) := by
    intro g hg
    rw [m6, ← hM5]
    have : g = 0 ∨ g = 1 ∨ g = 2 ∨ g = 3 ∨ g = 4 := by omega
    rcases this with rfl | rfl | rfl | rfl | rfl <;> simp (disch := omega) only [wr_s, wr_n] <;> rfl
  -- the end
  have key : ∀ c : Int, c = cmI D k (f / 10) (f % 10) → ∀ M9 : Mem, (∀ q, q ≠ 1 → M9 q = M6 q) → (∀ j, j ≠ 2 → j ≠ 4 → j ≠ 615 + 8 * n → j ≠ 616 + 8 * n → j ≠ 617 + 8 * n → M9 1 j = M6 1 j) → M9 1 2 = iI (D 2 + 1) → M9 1 4 = zN D → M9 1 (615 + 8 * n) = iI c → M9 1 (616 + 8 * n) = iI (D 5) → M9 1 (617 + 8 * n) = iI (1 + dpI D (f / 10) p (D 0)) → KeepM M M9 ∧ ∀ j, j < 1250 → M9 1 j = iI (sndD D k (f / 10) (f % 10) p j) := by
    intro c hc M9 f9 g9 a2 a4 a5 a6 a7
    refine ⟨⟨fun q hq => by rw [f9 q (by omega)]; exact m6k q (by omega) (by omega), by rw [f9 0 (by omega), m6k 0 (by omega) (by omega)], by rw [f9 0 (by omega), m6k 0 (by omega) (by omega)]⟩, ?_⟩
    intro j hj
    unfold sndD
    by_cases e2 : j = 2
    · subst e2; rw [a2, sD_2]
    · by_cases e4 : j = 4
      · subst e4; rw [a4, sD_4, zI_e]
      · by_cases e : j < 610 + 8 * n ∨ 618 + 8 * n ≤ j
        · rw [sD_n (by omega), g9 j e2 e4 (by omega) (by omega) (by omega)]; exact r6 j hj e
        · obtain ⟨g, rfl⟩ : ∃ g, j = 610 + 8 * n + g := ⟨j - (610 + 8 * n), by omega⟩
          have sf := sD_f (D := D) (v := vF k (f / 10) (f % 10) p (D 0) (cmI D k (f / 10) (f % 10)) (D 5) (1 + dpI D (f / 10) p (D 0))) (z := zI D) (f := g) (by omega)
          rw [en] at sf
          rw [sf]
          by_cases e5 : g < 5
          · rw [g9 _ e2 e4 (by omega) (by omega) (by omega), show 610 + 8 * n + g = 610 + g + 8 * n by omega, v6 g e5]
            congr 1
            have : g = 0 ∨ g = 1 ∨ g = 2 ∨ g = 3 ∨ g = 4 := by omega
            rcases this with rfl | rfl | rfl | rfl | rfl <;> rfl
          · have : g = 5 ∨ g = 6 ∨ g = 7 := by omega
            rcases this with rfl | rfl | rfl
            · rw [show 610 + 8 * n + 5 = 615 + 8 * n by omega, a5, hc]; rfl
            · rw [show 610 + 8 * n + 6 = 616 + 8 * n by omega, a6]; rfl
            · rw [show 610 + 8 * n + 7 = 617 + 8 * n by omega, a7]; rfl
  have x0 : (610 + 8 * D 2 + 0).toNat = 610 + 8 * n := by omega
  have x1 : (610 + 8 * D 2 + 1).toNat = 611 + 8 * n := by omega
  have x2 : (610 + 8 * D 2 + 2).toNat = 612 + 8 * n := by omega
  have x3 : (610 + 8 * D 2 + 3).toNat = 613 + 8 * n := by omega
  have x4 : (610 + 8 * D 2 + 4).toNat = 614 + 8 * n := by omega
  have x5 : (610 + 8 * D 2 + 5).toNat = 615 + 8 * n := by omega
  have x6 : (610 + 8 * D 2 + 6).toNat = 616 + 8 * n := by omega
  have x7 : (610 + 8 * D 2 + 7).toNat = 617 + 8 * n := by omega
  have fin : ∀ t : Int, (t = if k = 6 then 2 else 0) → ∃ M9, fX9_sends_L133 (iI (610 + 8 * D 2)) (iI (1 + dpI D (f / 10) p (D 0))) (iI t) (iI (D 0 + wayI D (f / 10) (f % 10))) (iI (610 + 8 * D 2 + 5)) M6 = some M9 ∧ KeepM M M9 ∧ ∀ j, j < 1250 → M9 1 j = iI (sndD D k (f / 10) (f % 10) p j) := by
    intro t ht
    by_cases cl : iI (D 7) ≤ rN D
    · refine ⟨nq_wr (nq_wr (nq_wr (nq_wr (nq_wr M6 1 (615 + 8 * n) (iI (D 0 + wayI D (f / 10) (f % 10) + t))) 1 (616 + 8 * n) (iI (D 5))) 1 (617 + 8 * n) (iI (1 + dpI D (f / 10) p (D 0)))) 1 4 (zN D)) 1 2 (iI (D 2 + 1)), ?_, ?_⟩
      · unfold fX9_sends_L133 fX9_drawn fX9_sends_L195
        simp (disch := omega) only [il_0, il_1, il_2, il_3, il_4, il_5, il_6, il_7, il_8, il_9, il_10, il_11, il_12, il_13, il_16, il_20, il_30, il_31, il_32, il_33, il_36, il_37, il_38, il_40, il_41, il_42, il_43, il_45, il_47, il_48, il_50, il_57, il_60, il_61, il_62, il_70, il_71, il_79, il_80, il_97, il_98, il_99, il_100, il_107, il_110, il_111, il_114, il_115, il_116, il_121, il_124, il_128, il_130, il_140, il_160, il_255, il_399, il_540, il_590, il_610, il_999, il_1000, il_1250, il_10000, il_12345, il_99999, il_1000000, il_1103515245, ll_0, ll_1, ll_2, ll_3, ll_4, ll_5, ll_6, ll_7, ll_8, ll_9, ll_30, ll_48, ll_50, ll_57, ll_99, ll_100, ll_255, ll_399, ll_999, ll_99999, nq_bs, nq_ltS, nq_b2S, b2_id, bi_id, iI_add, iI_sub, iI_mul, iI_neg, lI_neg, iI_64, iI_lt, iI_le, iI_eq, iI_ag, iI_as, iI_ar, iI_dv, iI_rem, isOut8, in9, bo_nz, bo_t, bo_f, wr_s, wr_n, wr_k, if_pos, if_neg, ↓reduceIte, Nat.reduceAdd, Nat.reduceMul, Nat.reduceSub, Nat.reduceEqDiff, Int.reduceToNat, Int.toNat_natCast, Int.reduceNeg, Int.reduceAdd, Int.reduceSub, Int.reduceMul, x5, x6, x7, r6, ez, et, rem_any, er, cl]
      · refine key (D 0 + wayI D (f / 10) (f % 10) + t) ?_ _ ?_ ?_ ?_ ?_ ?_ ?_ ?_
        · unfold cmI; rw [if_pos cl, ht]
        · intro q hq; simp (disch := omega) only [wr_k]
        · intro j h1 h2 h3 h4 h5; simp (disch := omega) only [wr_n]
        · simp (disch := omega) only [wr_s]
        · simp (disch := omega) only [wr_s, wr_n]
        · simp (disch := omega) only [wr_s, wr_n]
        · simp (disch := omega) only [wr_s, wr_n]
        · simp (disch := omega) only [wr_s, wr_n]
    · refine ⟨nq_wr (nq_wr (nq_wr (nq_wr (nq_wr (nq_wr M6 1 (615 + 8 * n) (iI (D 0 + wayI D (f / 10) (f % 10) + t))) 1 (616 + 8 * n) (iI (D 5))) 1 (617 + 8 * n) (iI (1 + dpI D (f / 10) p (D 0)))) 1 4 (zN D)) 1 (615 + 8 * n) (iI (-1))) 1 2 (iI (D 2 + 1)), ?_, ?_⟩
      · unfold fX9_sends_L133 fX9_drawn fX9_sends_L195
        simp (disch := omega) only [il_0, il_1, il_2, il_3, il_4, il_5, il_6, il_7, il_8, il_9, il_10, il_11, il_12, il_13, il_16, il_20, il_30, il_31, il_32, il_33, il_36, il_37, il_38, il_40, il_41, il_42, il_43, il_45, il_47, il_48, il_50, il_57, il_60, il_61, il_62, il_70, il_71, il_79, il_80, il_97, il_98, il_99, il_100, il_107, il_110, il_111, il_114, il_115, il_116, il_121, il_124, il_128, il_130, il_140, il_160, il_255, il_399, il_540, il_590, il_610, il_999, il_1000, il_1250, il_10000, il_12345, il_99999, il_1000000, il_1103515245, ll_0, ll_1, ll_2, ll_3, ll_4, ll_5, ll_6, ll_7, ll_8, ll_9, ll_30, ll_48, ll_50, ll_57, ll_99, ll_100, ll_255, ll_399, ll_999, ll_99999, nq_bs, nq_ltS, nq_b2S, b2_id, bi_id, iI_add, iI_sub, iI_mul, iI_neg, lI_neg, iI_64, iI_lt, iI_le, iI_eq, iI_ag, iI_as, iI_ar, iI_dv, iI_rem, isOut8, in9, bo_nz, bo_t, bo_f, wr_s, wr_n, wr_k, if_pos, if_neg, ↓reduceIte, Nat.reduceAdd, Nat.reduceMul, Nat.reduceSub, Nat.reduceEqDiff, Int.reduceToNat, Int.toNat_natCast, Int.reduceNeg, Int.reduceAdd, Int.reduceSub, Int.reduceMul, x5, x6, x7, r6, ez, et, rem_any, er, cl]
      · refine key (-1) ?_ _ ?_ ?_ ?_ ?_ ?_ ?_ ?_
        · unfold cmI; rw [if_neg cl]
        · intro q hq; simp (disch := omega) only [wr_k]
        · intro j h1 h2 h3 h4 h5; simp (disch := omega) only [wr_n]
        · simp (disch := omega) only [wr_s]
        · simp (disch := omega) only [wr_s, wr_n]
        · simp (disch := omega) only [wr_s, wr_n]
        · simp (disch := omega) only [wr_s, wr_n]
        · simp (disch := omega) only [wr_s, wr_n]
  by_cases c6 : k = 6
  · obtain ⟨M9, y1, y2⟩ := fin 2 (by rw [if_pos c6])
    refine ⟨M9, ?_, y2⟩
    unfold fX9_sends
    simp (disch := omega) only [il_0, il_1, il_2, il_3, il_4, il_5, il_6, il_7, il_8, il_9, il_10, il_11, il_12, il_13, il_16, il_20, il_30, il_31, il_32, il_33, il_36, il_37, il_38, il_40, il_41, il_42, il_43, il_45, il_47, il_48, il_50, il_57, il_60, il_61, il_62, il_70, il_71, il_79, il_80, il_97, il_98, il_99, il_100, il_107, il_110, il_111, il_114, il_115, il_116, il_121, il_124, il_128, il_130, il_140, il_160, il_255, il_399, il_540, il_590, il_610, il_999, il_1000, il_1250, il_10000, il_12345, il_99999, il_1000000, il_1103515245, ll_0, ll_1, ll_2, ll_3, ll_4, ll_5, ll_6, ll_7, ll_8, ll_9, ll_30, ll_48, ll_50, ll_57, ll_99, ll_100, ll_255, ll_399, ll_999, ll_99999, nq_bs, nq_ltS, nq_b2S, b2_id, bi_id, iI_add, iI_sub, iI_mul, iI_neg, lI_neg, iI_64, iI_lt, iI_le, iI_eq, iI_ag, iI_as, iI_ar, iI_dv, iI_rem, isOut8, in9, bo_nz, bo_t, bo_f, wr_s, wr_n, wr_k, if_pos, if_neg, ↓reduceIte, Nat.reduceAdd, Nat.reduceMul, Nat.reduceSub, Nat.reduceEqDiff, Int.reduceToNat, Int.toNat_natCast, Int.reduceNeg, Int.reduceAdd, Int.reduceSub, Int.reduceMul, h0, hd, x0, x1, x2, x3, x4, hM5, w9, y1]
  · obtain ⟨M9, y1, y2⟩ := fin 0 (by rw [if_neg c6])
    refine ⟨M9, ?_, y2⟩
    unfold fX9_sends
    simp (disch := omega) only [il_0, il_1, il_2, il_3, il_4, il_5, il_6, il_7, il_8, il_9, il_10, il_11, il_12, il_13, il_16, il_20, il_30, il_31, il_32, il_33, il_36, il_37, il_38, il_40, il_41, il_42, il_43, il_45, il_47, il_48, il_50, il_57, il_60, il_61, il_62, il_70, il_71, il_79, il_80, il_97, il_98, il_99, il_100, il_107, il_110, il_111, il_114, il_115, il_116, il_121, il_124, il_128, il_130, il_140, il_160, il_255, il_399, il_540, il_590, il_610, il_999, il_1000, il_1250, il_10000, il_12345, il_99999, il_1000000, il_1103515245, ll_0, ll_1, ll_2, ll_3, ll_4, ll_5, ll_6, ll_7, ll_8, ll_9, ll_30, ll_48, ll_50, ll_57, ll_99, ll_100, ll_255, ll_399, ll_999, ll_99999, nq_bs, nq_ltS, nq_b2S, b2_id, bi_id, iI_add, iI_sub, iI_mul, iI_neg, lI_neg, iI_64, iI_lt, iI_le, iI_eq, iI_ag, iI_as, iI_ar, iI_dv, iI_rem, isOut8, in9, bo_nz, bo_t, bo_f, wr_s, wr_n, wr_k, if_pos, if_neg, ↓reduceIte, Nat.reduceAdd, Nat.reduceMul, Nat.reduceSub, Nat.reduceEqDiff, Int.reduceToNat, Int.toNat_natCast, Int.reduceNeg, Int.reduceAdd, Int.reduceSub, Int.reduceMul, h0, hd, x0, x1, x2, x3, x4, hM5, w9, y1]
