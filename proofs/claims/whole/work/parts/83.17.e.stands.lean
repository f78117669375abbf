/-! 17.e: the class's stances -/
def evB (D : Nat → Int) (x pc : Int) (T : Nat) : Bool := !((comeL D x pc T).isEmpty && (sentL D x pc T).isEmpty)
def SG (D : Nat → Int) (x pc : Int) (e : Nat → Bool) : Nat → Int × Int
  | 0 => (0, -1)
  | T + 1 => if e T = true then ys D x pc T (SG D x pc e T) else SG D x pc e T
theorem SG_skip {D : Nat → Int} {x pc : Int} {e : Nat → Bool} {T : Nat} : ∀ N, T ≤ N → (∀ T', T ≤ T' → T' < N → e T' = false) → SG D x pc e N = SG D x pc e T := by
  intro N
  induction N with
  | zero => intro h _; obtain rfl : T = 0 := by omega
            rfl
  | succ N ih =>
    intro h he
    by_cases c : T = N + 1
    · rw [c]
    · have : SG D x pc e (N + 1) = SG D x pc e N := by
        show (if e N = true then _ else _) = _
        rw [he N (by omega) (by omega)]; rfl
      rw [this]
      exact ih (by omega) (fun T' h1 h2 => he T' h1 (by omega))
theorem ev_no {D : Nat → Int} {x pc : Int} {T : Nat} (h : evB D x pc T = false) : comeL D x pc T = [] ∧ sentL D x pc T = [] := by
  unfold evB at h
  rw [Bool.not_eq_false', Bool.and_eq_true] at h
  exact ⟨List.isEmpty_iff.mp h.1, List.isEmpty_iff.mp h.2⟩
theorem ev_yes {D : Nat → Int} {x pc : Int} {T : Nat} (h : evB D x pc T = true) : 1 ≤ (comeL D x pc T).length + (sentL D x pc T).length := by
  cases h1 : comeL D x pc T with
  | cons a l => simp; omega
  | nil =>
    cases h2 : sentL D x pc T with
    | cons a l => simp
    | nil => unfold evB at h; rw [h1, h2] at h; cases h
theorem TM_skip {M : Mem} {p : Nat} {D : Nat → Int} {x pc : Int} {T : Nat} {t : Int × Int} {M0 : Mem} {p0 : Nat} (hL : GL M0 p0 D) : ∀ N, T ≤ N → N < 1000 → (∀ T', T ≤ T' → T' < N → evB D x pc T' = false) → TM M p D x pc T t → TM M p D x pc N t := by
  intro N
  induction N with
  | zero => intro h _ _ hT; obtain rfl : T = 0 := by omega
            exact hT
  | succ N ih =>
    intro h h1 he hT
    by_cases c : T = N + 1
    · rw [← c]; exact hT
    · have h2 := ih (by omega) (by omega) (fun T' a b => he T' a (by omega)) hT
      obtain ⟨n1, n2⟩ := ev_no (he N (by omega) (by omega))
      have e1 : RAt D x pc (N + 1) = RAt D x pc N := by
        have := RA_split (D := D) (x := x) (pc := pc) (show N < 11000 by omega)
        rw [n1, List.nil_append] at this; exact this.symm
      have e2 : RBt D x pc (N + 1) = RBt D x pc N := by
        have := RB_split hL (x := x) (pc := pc) (T := N)
        rw [n2, List.nil_append] at this; exact this.symm
      have e3 : offT D x pc (N + 1) = offT D x pc N := by
        rw [offT_succ, n1]; simp only [List.foldl_nil]
      unfold TM at *
      rw [e1, e2, e3]; exact h2
theorem RA_head {M : Mem} {p : Nat} {D : Nat → Int} (hL : GL M p D) {x pc : Int} {T : Nat} : (T : Int) ≤ hdA D (RAt D x pc T) ∨ 1000000 ≤ hdA D (RAt D x pc T) := by
  cases h : RAt D x pc T with
  | nil => right; exact Int.le_refl _
  | cons w R =>
    left
    have hm : w ∈ RAt D x pc T := by rw [h]; simp
    have := (List.mem_filter.mp hm).2
    simp only [Bool.and_eq_true, decide_eq_true_eq] at this
    exact this.2
theorem RA_none {M : Mem} {p : Nat} {D : Nat → Int} (hL : GL M p D) {x pc : Int} {T T' : Nat} (h1 : T ≤ T') (h2 : (T' : Int) < hdA D (RAt D x pc T)) : comeL D x pc T' = [] := by
  cases hc : comeL D x pc T' with
  | nil => rfl
  | cons v l =>
    have hv : v ∈ comeL D x pc T' := by rw [hc]; simp
    obtain ⟨hv1, hv2⟩ := List.mem_filter.mp hv
    obtain ⟨b1, b2⟩ := bkt_mem.mp hv1
    have w1 := hL.2.1
    have k6 := (hL.2.2.2.2.2 v (by omega)).2.2.2.2.2.1
    have hr : v ∈ RAt D x pc T := by
      unfold RAt
      rw [List.mem_filter]
      refine ⟨?_, ?_⟩
      · rw [arrL_U]; exact arrU_mem.mpr ⟨b1, by omega, by omega⟩
      · rw [hv2, Bool.true_and, decide_eq_true_eq]; omega
    have hs : (RAt D x pc T).Pairwise (fun a b => D (615 + 8 * a) ≤ D (615 + 8 * b)) := (arr_sorted 11000).filter _
    cases hR : RAt D x pc T with
    | nil => rw [hR] at hr; cases hr
    | cons w R =>
      rw [hR] at h2 hs hr
      have h3 : (T' : Int) < D (615 + 8 * w) := h2
      rcases List.mem_cons.mp hr with e | hr
      · subst e; omega
      · have := (List.pairwise_cons.mp hs).1 v hr; omega
theorem RB_none {M : Mem} {p : Nat} {D : Nat → Int} (hL : GL M p D) {x pc : Int} {T T' : Nat} (h1 : T ≤ T') (h2 : (T' : Int) < hdB D (RBt D x pc T)) : sentL D x pc T' = [] := by
  cases hc : sentL D x pc T' with
  | nil => rfl
  | cons v l =>
    have hv : v ∈ sentL D x pc T' := by rw [hc]; simp
    obtain ⟨hv1, hv2⟩ := List.mem_filter.mp hv
    simp only [Bool.and_eq_true, decide_eq_true_eq] at hv2
    have hr : v ∈ RBt D x pc T := by
      unfold RBt
      rw [List.mem_filter]
      refine ⟨hv1, ?_⟩
      rw [hv2.1, Bool.true_and, decide_eq_true_eq]; omega
    have hs : (RBt D x pc T).Pairwise (fun a b => D (614 + 8 * a) ≤ D (614 + 8 * b)) := (sent_mono hL).filter _
    cases hR : RBt D x pc T with
    | nil => rw [hR] at hr; cases hr
    | cons w R =>
      rw [hR] at h2 hs hr
      have h3 : (T' : Int) < D (614 + 8 * w) := h2
      rcases List.mem_cons.mp hr with e | hr
      · subst e; omega
      · have := (List.pairwise_cons.mp hs).1 v hr; omega
theorem nyr_spec {M : Mem} {p : Nat} {D : Nat → Int} (hL : GL M p D) {x pc : Int} {T : Nat} (hT : T < 1000) : (T : Int) ≤ nyr D (RAt D x pc T) (RBt D x pc T) ∧ (∀ T', T ≤ T' → (T' : Int) < nyr D (RAt D x pc T) (RBt D x pc T) → evB D x pc T' = false) ∧ (nyr D (RAt D x pc T) (RBt D x pc T) < 1000000 → evB D x pc (nyr D (RAt D x pc T) (RBt D x pc T)).toNat = true) := by
  have a1 : (T : Int) ≤ hdA D (RAt D x pc T) := by
    rcases RA_head hL (x := x) (pc := pc) (T := T) with h | h <;> omega
  have b1 : (T : Int) ≤ hdB D (RBt D x pc T) := by
    cases h : RBt D x pc T with
    | nil => show (T : Int) ≤ 1000000; omega
    | cons w R =>
      have hm : w ∈ RBt D x pc T := by rw [h]; simp
      have := (List.mem_filter.mp hm).2
      simp only [Bool.and_eq_true, decide_eq_true_eq] at this
      exact this.2
  refine ⟨?_, ?_, ?_⟩
  · unfold nyr
    split
    · exact b1
    · exact a1
  · intro T' h1 h2
    have c1 : (T' : Int) < hdA D (RAt D x pc T) := by unfold nyr at h2; split at h2 <;> omega
    have c2 : (T' : Int) < hdB D (RBt D x pc T) := by unfold nyr at h2; split at h2 <;> omega
    unfold evB
    rw [RA_none hL h1 c1, RB_none hL h1 c2]; rfl
  · intro hlt
    have key : (∃ v, v ∈ comeL D x pc (nyr D (RAt D x pc T) (RBt D x pc T)).toNat) ∨ (∃ v, v ∈ sentL D x pc (nyr D (RAt D x pc T) (RBt D x pc T)).toNat) := by
      unfold nyr at hlt ⊢
      split
      · right
        rename_i c
        rw [if_pos c] at hlt
        cases h : RBt D x pc T with
        | nil => rw [h] at hlt; exact absurd hlt (by show ¬ (1000000 : Int) < 1000000; omega)
        | cons w R =>
          rw [h] at b1
          have hm : w ∈ RBt D x pc T := by rw [h]; simp
          obtain ⟨h1, h2⟩ := List.mem_filter.mp hm
          simp only [Bool.and_eq_true, decide_eq_true_eq] at h2
          refine ⟨w, List.mem_filter.mpr ⟨h1, ?_⟩⟩
          rw [h2.1, Bool.true_and, decide_eq_true_eq]
          show D (614 + 8 * w) = ((D (614 + 8 * w)).toNat : Int)
          omega
      · left
        rename_i c
        rw [if_neg c] at hlt
        cases h : RAt D x pc T with
        | nil => rw [h] at hlt; exact absurd hlt (by show ¬ (1000000 : Int) < 1000000; omega)
        | cons w R =>
          have hm : w ∈ RAt D x pc T := by rw [h]; simp
          obtain ⟨h1, h2⟩ := List.mem_filter.mp hm
          simp only [Bool.and_eq_true, decide_eq_true_eq] at h2
          have h3 := arrL_mem h1
          refine ⟨w, List.mem_filter.mpr ⟨bkt_mem.mpr ⟨h3.1, ?_⟩, h2.1⟩⟩
          show D (615 + 8 * w) = ((D (615 + 8 * w)).toNat : Int)
          omega
    unfold evB
    rcases key with ⟨v, hv⟩ | ⟨v, hv⟩
    · cases hc : comeL D x pc (nyr D (RAt D x pc T) (RBt D x pc T)).toNat with
      | nil => rw [hc] at hv; cases hv
      | cons a l => rfl
    · cases hc : sentL D x pc (nyr D (RAt D x pc T) (RBt D x pc T)).toNat with
      | nil => rw [hc] at hv; cases hv
      | cons a l => simp
theorem CS.frame {M M' : Mem} {p i j : Nat} {x pc s u : Int} {off : Nat → Int} (h : CS M p x pc s u off i j) (h1 : M' p = M p) (h2 : M' (p + 1) = M (p + 1)) : CS M' p x pc s u off i j := by
  unfold CS at *
  rw [h1, h2]; exact h
theorem TM.frame {M M' : Mem} {p : Nat} {D : Nat → Int} {x pc : Int} {T : Nat} {t : Int × Int} (h : TM M p D x pc T t) (h1 : M' p = M p) (h2 : M' (p + 1) = M (p + 1)) : TM M' p D x pc T t := by
  obtain ⟨⟨i, j, a, b, c⟩, d, e⟩ := h
  exact ⟨⟨i, j, a.frame h1 h2, b, c⟩, d, e⟩
theorem begin8 {M : Mem} {p : Nat} {D : Nat → Int} {x pc : Int} (hp : 16 ≤ p) (hL : GL M 6 D) (hx : inR x) (hy : inR pc) : ∃ M', fX4_begin p 6 (iI x) (iI pc) M = some M' ∧ FX p M M' ∧ TM M' p D x pc 0 (0, -1) := by
  generalize hM7 : nq_fl (nq_wr (nq_wr (nq_wr (nq_wr (nq_wr (nq_wr M p 2 (iI x)) p 3 (iI pc)) p 4 (iI 0)) p 5 (iI (-1))) p 6 (iI 0)) p 7 (iI 0)) (p + 1) 6 (iI (-1)) = M7
  have F7 : FX p M M7 := by
    intro k h1 h2
    rw [← hM7, fl_k h2, wr_k h1, wr_k h1, wr_k h1, wr_k h1, wr_k h1, wr_k h1]
  have C7 : CS M7 p x pc 0 (-1) (fun _ => -1) 0 0 := by
    rw [← hM7]
    refine ⟨?_, ?_, ?_, ?_, ?_, ?_, ?_⟩
    · simp (disch := omega) only [fl_k, wr_s, wr_n]
    · simp (disch := omega) only [fl_k, wr_s, wr_n]
    · simp (disch := omega) only [fl_k, wr_s, wr_n]
    · simp (disch := omega) only [fl_k, wr_s, wr_n]
    · simp (disch := omega) only [fl_k, wr_s, wr_n]; rfl
    · simp (disch := omega) only [fl_k, wr_s, wr_n]; rfl
    · intro k hk; rw [fl_s ⟨rfl, hk⟩]
  obtain ⟨M', e, F, C⟩ := seek8 hp (F7.GL hp hL) hx hy C7 (Nat.zero_le _) (Nat.zero_le _)
  have e1 : ((arrL D).drop 0).filter (qF D x pc) = RAt D x pc 0 := by
    unfold RAt
    rw [List.drop_zero]
    apply List.filter_congr
    intro w hw
    have := arrL_mem hw
    rw [decide_eq_true (show ((0 : Nat) : Int) ≤ D (615 + 8 * w) by omega), Bool.and_true]
  have e2 : ((List.range (D 2).toNat).drop 0).filter (qB D x pc) = RBt D x pc 0 := by
    unfold RBt
    rw [List.drop_zero]
    apply List.filter_congr
    intro w hw
    rw [List.mem_range] at hw
    have := (hL.2.2.2.2.2 w (by omega)).2.2.2.2.1
    rw [decide_eq_true (show ((0 : Nat) : Int) ≤ D (614 + 8 * w) by omega), Bool.and_true]
  rw [e1, e2] at C
  refine ⟨M', ?_, F7.trans F, C, ?_, ?_⟩
  · unfold fX4_begin
    simp (disch := omega) only [il_0, il_1, il_2, il_3, il_4, il_5, il_6, il_7, il_8, il_9, il_10, il_11, il_12, il_13, il_16, il_20, il_30, il_31, il_32, il_33, il_36, il_37, il_38, il_40, il_41, il_42, il_43, il_45, il_47, il_48, il_50, il_57, il_60, il_61, il_62, il_70, il_71, il_79, il_80, il_97, il_98, il_99, il_100, il_107, il_110, il_111, il_114, il_115, il_116, il_121, il_124, il_128, il_130, il_140, il_160, il_255, il_399, il_540, il_590, il_610, il_999, il_1000, il_1250, il_10000, il_12345, il_99999, il_1000000, il_1103515245, ll_0, ll_1, ll_2, ll_3, ll_4, ll_5, ll_6, ll_7, ll_8, ll_9, ll_30, ll_48, ll_50, ll_57, ll_99, ll_100, ll_255, ll_399, ll_999, ll_99999, iI_neg, nq_ltS, nq_fillE, nq_bs, hM7, e]
  · unfold SR; dsimp only; omega
  · intro k hk
    show -1 ≤ (-1 : Int) ∧ (-1 : Int) ≤ 498
    omega
theorem RAB_len {M : Mem} {p : Nat} {D : Nat → Int} (hL : GL M p D) {x pc : Int} {T : Nat} (hT : T < 1000) : (RAt D x pc T).length = (comeL D x pc T).length + (RAt D x pc (T + 1)).length ∧ (RBt D x pc T).length = (sentL D x pc T).length + (RBt D x pc (T + 1)).length := by
  refine ⟨?_, ?_⟩
  · rw [RA_split (show T < 11000 by omega), List.length_append]
  · rw [RB_split hL (T := T), List.length_append]
theorem stands8 {M : Mem} {p : Nat} {D : Nat → Int} {x pc Y : Int} (hp : 16 ≤ p) (hL : GL M 6 D) (hx : inR x) (hy : inR pc) (hY : 0 ≤ Y ∧ Y ≤ 399) : ∃ M', fX4_standsIn p 6 (iI x) (iI pc) (iI Y) M = some (iI (endS Y (SG D x pc (evB D x pc) (Y.toNat + 1))).1, M') ∧ FX p M M' := by
  obtain ⟨M0, e0, F0, T0⟩ := begin8 hp hL hx hy
  have w1 := hL.2.1
  have len := arrL_len w1
  have l0 : (RAt D x pc 0).length + (RBt D x pc 0).length ≤ 160 := by
    obtain ⟨⟨i, j, _, hA, hB⟩, _⟩ := T0
    have a := hA.len
    have b := hB.len
    rw [List.length_range] at b
    omega
  have key := nq_for0 (body := fun s : Int32 × Mem => fX4_standsIn_B9 p 6 (iI Y) s.1 s.2) 161 (fun k s => s.1 = iI k ∧ FX p M s.2 ∧ ∃ T : Nat, (T : Int) ≤ Y + 1 ∧ TM s.2 p D x pc T (SG D x pc (evB D x pc) T) ∧ k + (RAt D x pc T).length + (RBt D x pc T).length ≤ 160) (fun r => FX p M r ∧ ∃ T : Nat, TM r p D x pc T (SG D x pc (evB D x pc) (Y.toNat + 1))) (s := (iI 0, M0)) (by omega) ⟨rfl, F0, 0, by omega, T0, by omega⟩
    (by
      rintro k ⟨c, M1⟩ hk ⟨h1, hF, T, hT, hTM, hm⟩
      dsimp only at h1 hF hTM
      subst h1
      have hL1 := hF.GL hp hL
      obtain ⟨ny, nb⟩ := nextYear8 hL1 hTM.1
      obtain ⟨s1, s2, s3⟩ := nyr_spec hL (x := x) (pc := pc) (T := T) (by omega)
      generalize nyr D (RAt D x pc T) (RBt D x pc T) = N at *
      by_cases c : N ≤ Y
      · left
        obtain ⟨N, rfl⟩ := Int.eq_ofNat_of_zero_le nb.1
        have hskip : ∀ T', T ≤ T' → T' < N → evB D x pc T' = false := fun T' a b => s2 T' a (by omega)
        have hTN := TM_skip hL N (by omega) (by omega) hskip hTM
        have hev : evB D x pc N = true := s3 (by omega)
        rw [← SG_skip N (by omega) hskip] at hTN
        obtain ⟨M2, e2, F2, T2⟩ := pass8 hp hL1 hx hy (by omega) hTN
        have hlen : (RAt D x pc N).length = (RAt D x pc T).length ∧ (RBt D x pc N).length = (RBt D x pc T).length := by
          have : ∀ N', T ≤ N' → N' ≤ N → (RAt D x pc N').length = (RAt D x pc T).length ∧ (RBt D x pc N').length = (RBt D x pc T).length := by
            intro N'
            induction N' with
            | zero => intro a _; obtain rfl : T = 0 := by omega
                      exact ⟨rfl, rfl⟩
            | succ N' ih =>
              intro a b
              by_cases e : T = N' + 1
              · rw [e]; exact ⟨rfl, rfl⟩
              · obtain ⟨i1, i2⟩ := ih (by omega) (by omega)
                obtain ⟨n1, n2⟩ := ev_no (hskip N' (by omega) (by omega))
                obtain ⟨r1, r2⟩ := RAB_len hL (x := x) (pc := pc) (T := N') (by omega)
                rw [n1] at r1; rw [n2] at r2
                simp only [List.length_nil] at r1 r2
                omega
          exact this N (by omega) (Nat.le_refl _)
        obtain ⟨r1, r2⟩ := RAB_len hL (x := x) (pc := pc) (T := N) (by omega)
        have := ev_yes hev
        refine ⟨(iI ((k + 1 : Nat) : Int), M2), ?_, rfl, hF.trans F2, N + 1, by omega, ?_, by omega⟩
        · show fX4_standsIn_B9 p 6 (iI Y) (iI k) M1 = _
          unfold fX4_standsIn_B9
          simp (disch := omega) only [il_0, il_1, il_2, il_3, il_4, il_5, il_6, il_7, il_8, il_9, il_10, il_11, il_12, il_13, il_16, il_20, il_30, il_31, il_32, il_33, il_36, il_37, il_38, il_40, il_41, il_42, il_43, il_45, il_47, il_48, il_50, il_57, il_60, il_61, il_62, il_70, il_71, il_79, il_80, il_97, il_98, il_99, il_100, il_107, il_110, il_111, il_114, il_115, il_116, il_121, il_124, il_128, il_130, il_140, il_160, il_255, il_399, il_540, il_590, il_610, il_999, il_1000, il_1250, il_10000, il_12345, il_99999, il_1000000, il_1103515245, ll_0, ll_1, ll_2, ll_3, ll_4, ll_5, ll_6, ll_7, ll_8, ll_9, ll_30, ll_48, ll_50, ll_57, ll_99, ll_100, ll_255, ll_399, ll_999, ll_99999, nq_bs, nq_ltS, nq_b2S, b2_id, bi_id, iI_add, iI_sub, iI_mul, iI_neg, lI_neg, iI_64, iI_lt, iI_le, iI_eq, iI_ag, iI_as, iI_ar, iI_dv, iI_rem, isOut8, in9, bo_nz, bo_t, bo_f, wr_s, wr_n, wr_k, if_pos, if_neg, ↓reduceIte, Nat.reduceAdd, Nat.reduceMul, Nat.reduceSub, Nat.reduceEqDiff, Int.reduceToNat, Int.toNat_natCast, Int.reduceNeg, Int.reduceAdd, Int.reduceSub, Int.reduceMul, ny, e2]
          rfl
        · have : SG D x pc (evB D x pc) (N + 1) = ys D x pc N (SG D x pc (evB D x pc) N) := by
            show (if evB D x pc N = true then _ else _) = _
            rw [if_pos hev]
          rw [this]; exact T2
      · right
        refine ⟨M1, ?_, hF, T, ?_⟩
        · show fX4_standsIn_B9 p 6 (iI Y) (iI k) M1 = _
          unfold fX4_standsIn_B9
          simp (disch := omega) only [il_0, il_1, il_2, il_3, il_4, il_5, il_6, il_7, il_8, il_9, il_10, il_11, il_12, il_13, il_16, il_20, il_30, il_31, il_32, il_33, il_36, il_37, il_38, il_40, il_41, il_42, il_43, il_45, il_47, il_48, il_50, il_57, il_60, il_61, il_62, il_70, il_71, il_79, il_80, il_97, il_98, il_99, il_100, il_107, il_110, il_111, il_114, il_115, il_116, il_121, il_124, il_128, il_130, il_140, il_160, il_255, il_399, il_540, il_590, il_610, il_999, il_1000, il_1250, il_10000, il_12345, il_99999, il_1000000, il_1103515245, ll_0, ll_1, ll_2, ll_3, ll_4, ll_5, ll_6, ll_7, ll_8, ll_9, ll_30, ll_48, ll_50, ll_57, ll_99, ll_100, ll_255, ll_399, ll_999, ll_99999, nq_bs, nq_ltS, nq_b2S, b2_id, bi_id, iI_add, iI_sub, iI_mul, iI_neg, lI_neg, iI_64, iI_lt, iI_le, iI_eq, iI_ag, iI_as, iI_ar, iI_dv, iI_rem, isOut8, in9, bo_nz, bo_t, bo_f, wr_s, wr_n, wr_k, if_pos, if_neg, ↓reduceIte, Nat.reduceAdd, Nat.reduceMul, Nat.reduceSub, Nat.reduceEqDiff, Int.reduceToNat, Int.toNat_natCast, Int.reduceNeg, Int.reduceAdd, Int.reduceSub, Int.reduceMul, ny]
        · rw [SG_skip (T := T) (Y.toNat + 1) (by omega) (fun T' a b => s2 T' a (by omega))]
          exact hTM)
    (by
      rintro ⟨c, M1⟩ ⟨h1, hF, T, hT, hTM, hm⟩
      omega)
  obtain ⟨M1, x1, x2, T, x3⟩ := key
  obtain ⟨⟨i, j, hC, hA, hB⟩, ht, ho⟩ := x3
  obtain ⟨M2, e2, F2, C2⟩ := endOver8 hC ht (Y := Y) (by omega)
  refine ⟨M2, ?_, x2.trans F2⟩
  unfold fX4_standsIn fX4_standsIn_L9 fX4_standsIn_L44
  rw [e0, nq_bs, il_0, x1, nq_bs, e2, nq_bs, nq_ltS, C2.2.2.1]
