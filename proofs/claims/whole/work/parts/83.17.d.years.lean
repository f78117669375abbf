/-! 17.d: years of a stance, by what is left -/
def comeL (D : Nat → Int) (x pc : Int) (T : Nat) : List Nat := (bkt D T).filter (qF D x pc)
def sentL (D : Nat → Int) (x pc : Int) (T : Nat) : List Nat := (List.range (D 2).toNat).filter (fun w => qB D x pc w && decide (D (614 + 8 * w) = (T : Int)))
def RAt (D : Nat → Int) (x pc : Int) (T : Nat) : List Nat := (arrL D).filter (fun w => qF D x pc w && decide ((T : Int) ≤ D (615 + 8 * w)))
def RBt (D : Nat → Int) (x pc : Int) (T : Nat) : List Nat := (List.range (D 2).toNat).filter (fun w => qB D x pc w && decide ((T : Int) ≤ D (614 + 8 * w)))
def offT (D : Nat → Int) (x pc : Int) (T : Nat) (k : Nat) : Int := ((arrU D T).filter (qF D x pc)).foldl (offG D k) (-1)
theorem offT_succ {D : Nat → Int} {x pc : Int} {T : Nat} : offT D x pc (T + 1) = fun (k : Nat) => (comeL D x pc T).foldl (offG D (k : Int)) (offT D x pc T k) := by
  funext k
  unfold offT comeL
  rw [arrU_succ, List.filter_append, List.foldl_append]
theorem RA_split {D : Nat → Int} {x pc : Int} {T : Nat} (hT : T < 11000) : RAt D x pc T = comeL D x pc T ++ RAt D x pc (T + 1) := by
  obtain ⟨R, e, hR⟩ := arrU_split (D := D) (show T + 1 ≤ 11000 by omega)
  have e1 : arrL D = arrU D T ++ (bkt D T ++ R) := by rw [arrL_U, e, arrU_succ, List.append_assoc]
  unfold RAt comeL
  rw [e1, List.filter_append, List.filter_append, List.filter_append, List.filter_append]
  have a1 : (arrU D T).filter (fun w => qF D x pc w && decide ((T : Int) ≤ D (615 + 8 * w))) = [] := by
    rw [List.filter_eq_nil_iff]
    intro w hw
    have := arrU_mem.mp hw
    simp only [Bool.and_eq_true, decide_eq_true_eq]; omega
  have a2 : (bkt D T).filter (fun w => qF D x pc w && decide ((T : Int) ≤ D (615 + 8 * w))) = (bkt D T).filter (qF D x pc) := by
    apply List.filter_congr
    intro w hw
    have := bkt_mem.mp hw
    rw [decide_eq_true (by omega), Bool.and_true]
  have a3 : (arrU D T).filter (fun w => qF D x pc w && decide (((T + 1 : Nat) : Int) ≤ D (615 + 8 * w))) = [] := by
    rw [List.filter_eq_nil_iff]
    intro w hw
    have := arrU_mem.mp hw
    simp only [Bool.and_eq_true, decide_eq_true_eq]; omega
  have a4 : (bkt D T).filter (fun w => qF D x pc w && decide (((T + 1 : Nat) : Int) ≤ D (615 + 8 * w))) = [] := by
    rw [List.filter_eq_nil_iff]
    intro w hw
    have := bkt_mem.mp hw
    simp only [Bool.and_eq_true, decide_eq_true_eq]; omega
  have a5 : R.filter (fun w => qF D x pc w && decide ((T : Int) ≤ D (615 + 8 * w))) = R.filter (fun w => qF D x pc w && decide (((T + 1 : Nat) : Int) ≤ D (615 + 8 * w))) := by
    apply List.filter_congr
    intro w hw
    have := hR w hw
    rw [decide_eq_true (by omega), decide_eq_true (by omega)]
  rw [a1, a2, a3, a4, a5]
  rfl
theorem mono_split {f : Nat → Int} {q : Nat → Bool} {T : Int} : ∀ (l : List Nat), l.Pairwise (fun a b => f a ≤ f b) → l.filter (fun w => q w && decide (T ≤ f w)) = l.filter (fun w => q w && decide (f w = T)) ++ l.filter (fun w => q w && decide (T + 1 ≤ f w)) := by
  intro l
  induction l with
  | nil => intro _; rfl
  | cons a l ih =>
    intro h
    obtain ⟨h1, h2⟩ := List.pairwise_cons.mp h
    rw [List.filter_cons, List.filter_cons, List.filter_cons, ih h2]
    cases hq : q a with
    | false => simp
    | true =>
      by_cases c1 : f a = T
      · have b1 : decide (T ≤ f a) = true := decide_eq_true (by omega)
        have b2 : decide (T + 1 ≤ f a) = false := decide_eq_false (by omega)
        have b3 : decide (f a = T) = true := decide_eq_true c1
        simp [b1, b2, b3]
      · by_cases c2 : T ≤ f a
        · have e : l.filter (fun w => q w && decide (f w = T)) = [] := by
            rw [List.filter_eq_nil_iff]
            intro w hw
            have := h1 w hw
            simp only [Bool.and_eq_true, decide_eq_true_eq]; omega
          have b1 : decide (T ≤ f a) = true := decide_eq_true c2
          have b2 : decide (T + 1 ≤ f a) = true := decide_eq_true (by omega)
          have b3 : decide (f a = T) = false := decide_eq_false c1
          simp [b1, b2, b3, e]
        · have b1 : decide (T ≤ f a) = false := decide_eq_false c2
          have b2 : decide (T + 1 ≤ f a) = false := decide_eq_false (by omega)
          have b3 : decide (f a = T) = false := decide_eq_false c1
          simp [b1, b2, b3]
theorem sent_mono {M : Mem} {p : Nat} {D : Nat → Int} (hL : GL M p D) : (List.range (D 2).toNat).Pairwise (fun a b => D (614 + 8 * a) ≤ D (614 + 8 * b)) := by
  have w1 := hL.2.1
  refine List.Pairwise.imp_of_mem ?_ (List.pairwise_lt_range (n := (D 2).toNat))
  intro a b ha hb hab
  rw [List.mem_range] at hb
  exact (hL.2.2.2.2.2 b (by omega)).2.2.2.2.2.2.2.2.2 a hab
theorem RB_split {M : Mem} {p : Nat} {D : Nat → Int} {x pc : Int} {T : Nat} (hL : GL M p D) : RBt D x pc T = sentL D x pc T ++ RBt D x pc (T + 1) := mono_split (f := fun w => D (614 + 8 * w)) (q := qB D x pc) (T := (T : Int)) _ (sent_mono hL)
theorem arr_sorted {D : Nat → Int} : ∀ Y, (arrU D Y).Pairwise (fun a b => D (615 + 8 * a) ≤ D (615 + 8 * b)) := by
  intro Y
  induction Y with
  | zero => exact List.Pairwise.nil
  | succ Y ih =>
    rw [arrU_succ, List.pairwise_append]
    refine ⟨ih, ?_, ?_⟩
    · refine List.Pairwise.imp_of_mem (R := fun _ _ => True) ?_ (List.pairwise_of_forall (fun _ _ => trivial))
      intro a b ha hb _
      have h1 := bkt_mem.mp ha
      have h2 := bkt_mem.mp hb
      omega
    · intro a ha b hb
      have h1 := arrU_mem.mp ha
      have h2 := bkt_mem.mp hb
      omega
theorem dropWhile_all {p : Nat → Bool} {l1 l2 : List Nat} (h1 : ∀ w, w ∈ l1 → p w = true) (h2 : ∀ w, w ∈ l2 → p w = false) : (l1 ++ l2).dropWhile p = l2 := by
  induction l1 with
  | nil =>
    cases l2 with
    | nil => rfl
    | cons w l => simp [h2 w (by simp)]
  | cons w l ih =>
    simp only [List.cons_append, List.dropWhile_cons, h1 w (by simp), if_true]
    exact ih (fun w hw => h1 w (by simp [hw]))
theorem RA_tw {D : Nat → Int} {x pc : Int} {T : Nat} (hT : T < 11000) : (RAt D x pc T).takeWhile (fun w => decide (D (615 + 8 * w) ≤ (T : Int))) = comeL D x pc T ∧ (RAt D x pc T).dropWhile (fun w => decide (D (615 + 8 * w) ≤ (T : Int))) = RAt D x pc (T + 1) := by
  rw [RA_split hT]
  have h1 : ∀ w, w ∈ comeL D x pc T → decide (D (615 + 8 * w) ≤ (T : Int)) = true := by
    intro w hw
    have := bkt_mem.mp (List.mem_filter.mp hw).1
    rw [decide_eq_true_eq]; omega
  have h2 : ∀ w, w ∈ RAt D x pc (T + 1) → decide (D (615 + 8 * w) ≤ (T : Int)) = false := by
    intro w hw
    have := (List.mem_filter.mp hw).2
    simp only [Bool.and_eq_true, decide_eq_true_eq] at this
    rw [decide_eq_false_iff_not]; omega
  exact ⟨takeWhile_all h1 h2, dropWhile_all h1 h2⟩
theorem RB_tw {M : Mem} {p : Nat} {D : Nat → Int} {x pc : Int} {T : Nat} (hL : GL M p D) : (RBt D x pc T).takeWhile (fun w => decide (D (614 + 8 * w) ≤ (T : Int))) = sentL D x pc T ∧ (RBt D x pc T).dropWhile (fun w => decide (D (614 + 8 * w) ≤ (T : Int))) = RBt D x pc (T + 1) := by
  rw [RB_split hL]
  have h1 : ∀ w, w ∈ sentL D x pc T → decide (D (614 + 8 * w) ≤ (T : Int)) = true := by
    intro w hw
    have := (List.mem_filter.mp hw).2
    simp only [Bool.and_eq_true, decide_eq_true_eq] at this
    rw [decide_eq_true_eq]; omega
  have h2 : ∀ w, w ∈ RBt D x pc (T + 1) → decide (D (614 + 8 * w) ≤ (T : Int)) = false := by
    intro w hw
    have := (List.mem_filter.mp hw).2
    simp only [Bool.and_eq_true, decide_eq_true_eq] at this
    rw [decide_eq_false_iff_not]; omega
  exact ⟨takeWhile_all h1 h2, dropWhile_all h1 h2⟩
/-- a whole year -/
def ys (D : Nat → Int) (x pc : Int) (T : Nat) (t : Int × Int) : Int × Int := (sentL D x pc T).foldl (sy D (offT D x pc (T + 1)) (T : Int)) ((comeL D x pc T).foldl (rcv D) (endS (T : Int) t))
/-- the class stands ahead of a year -/
def TM (M : Mem) (p : Nat) (D : Nat → Int) (x pc : Int) (T : Nat) (t : Int × Int) : Prop := CL M p D x pc t.1 t.2 (offT D x pc T) (RAt D x pc T) (RBt D x pc T) ∧ SR t ∧ OR (offT D x pc T)
theorem pass8 {M : Mem} {p : Nat} {D : Nat → Int} {x pc : Int} {T : Nat} {t : Int × Int} (hp : 16 ≤ p) (hL : GL M 6 D) (hx : inR x) (hy : inR pc) (hT : T < 1000) (h : TM M p D x pc T t) : ∃ M', fX4_pass p 6 (iI T) M = some M' ∧ FX p M M' ∧ TM M' p D x pc (T + 1) (ys D x pc T t) := by
  obtain ⟨⟨i, j, hC, hA, hB⟩, ht, ho⟩ := h
  have w1 := hL.2.1
  have len := arrL_len w1
  obtain ⟨M1, e1, F1, C1⟩ := endOver8 hC ht (Y := (T : Int)) (by omega)
  have lA := hA.len
  have lB := hB.len
  rw [List.length_range] at lB
  obtain ⟨M2, e2, F2, s2, o2, C2⟩ := recvAll (M := M) (off := offT D x pc T) hp hx hy (Y := (T : Int)) (by omega) (RAt D x pc T).length (RAt D x pc T) (RBt D x pc T) 0 M1 (endS T t) (offT D x pc T) nq_fuel (Nat.le_refl _) (by omega) (by unfold nq_fuel; omega) F1 (F1.GL hp hL) ⟨i, j, C1, hA, hB⟩ (endS_SR ht) ho
  rw [(RA_tw (show T < 11000 by omega)).1, (RA_tw (show T < 11000 by omega)).2, ← offT_succ] at C2
  rw [(RA_tw (show T < 11000 by omega)).1, ← offT_succ] at o2
  rw [(RA_tw (show T < 11000 by omega)).1] at s2
  obtain ⟨M3, e3, F3, s3, C3⟩ := sayAll (M := M) hp hx hy (Y := (T : Int)) (by omega) (RBt D x pc T).length (RAt D x pc (T + 1)) (RBt D x pc T) 0 M2 _ nq_fuel (Nat.le_refl _) (by omega) (by unfold nq_fuel; omega) F2 (F2.GL hp hL) C2 s2 o2
  rw [(RB_tw hL).1, (RB_tw hL).2] at C3
  rw [(RB_tw hL).1] at s3
  refine ⟨M3, ?_, F3, C3, s3, o2⟩
  unfold fX4_pass fX4_pass_L7 fX4_pass_L74 fX4_pass_L76 fX4_pass_L137
  rw [e1, nq_bs, show (0 : Int32) = iI ((0 : Nat) : Int) from rfl, e2, nq_bs, e3]
  rfl
def hdA (D : Nat → Int) (R : List Nat) : Int := match R with | [] => 1000000 | w :: _ => D (615 + 8 * w)
def hdB (D : Nat → Int) (R : List Nat) : Int := match R with | [] => 1000000 | w :: _ => D (614 + 8 * w)
def nyr (D : Nat → Int) (RA RB : List Nat) : Int := if hdB D RB < hdA D RA then hdB D RB else hdA D RA
theorem nextYear8 {M : Mem} {p : Nat} {D : Nat → Int} {x pc s u : Int} {off : Nat → Int} {RA RB : List Nat} (hL : GL M 6 D) (h : CL M p D x pc s u off RA RB) : fX4_nextYear p 6 M = some (iI (nyr D RA RB)) ∧ (0 ≤ nyr D RA RB ∧ nyr D RA RB ≤ 1000000) := by
  obtain ⟨i, j, ⟨c2, c3, c4, c5, c6, c7, c8⟩, hA, hB⟩ := h
  have w1 := hL.2.1
  have len := arrL_len w1
  have n9 : M 6 9 = iI (arrL D).length := by rw [← iI_nat]; exact hL.2.2.2.1
  have n0 : M 6 0 = iI (D 2) := hL.1
  have sB : ∀ a : Int, 0 ≤ a ∧ a ≤ 1000000 → fX4_nextYear_L32 p 6 (iI a) M = some (iI (if hdB D RB < a then hdB D RB else a)) ∧ 0 ≤ hdB D RB ∧ hdB D RB ≤ 1000000 := by
    intro a ha
    rcases hB.2.2 with ⟨e, hj⟩ | ⟨w, R, e, hj, hg, hR⟩
    · subst e
      rw [List.length_range] at hj
      unfold fX4_nextYear_L32 fX4_hasSent hdB
      refine ⟨?_, by dsimp only; omega, by dsimp only; omega⟩
      dsimp only
      have : ¬ (1000000 : Int) < a := by omega
      simp (disch := omega) only [il_0, il_1, il_2, il_3, il_4, il_5, il_6, il_7, il_8, il_9, il_10, il_11, il_12, il_13, il_16, il_20, il_30, il_31, il_32, il_33, il_36, il_37, il_38, il_40, il_41, il_42, il_43, il_45, il_47, il_48, il_50, il_57, il_60, il_61, il_62, il_70, il_71, il_79, il_80, il_97, il_98, il_99, il_100, il_107, il_110, il_111, il_114, il_115, il_116, il_121, il_124, il_128, il_130, il_140, il_160, il_255, il_399, il_540, il_590, il_610, il_999, il_1000, il_1250, il_10000, il_12345, il_99999, il_1000000, il_1103515245, ll_0, ll_1, ll_2, ll_3, ll_4, ll_5, ll_6, ll_7, ll_8, ll_9, ll_30, ll_48, ll_50, ll_57, ll_99, ll_100, ll_255, ll_399, ll_999, ll_99999, nq_bs, nq_ltS, nq_b2S, b2_id, bi_id, iI_add, iI_sub, iI_mul, iI_neg, lI_neg, iI_64, iI_lt, iI_le, iI_eq, iI_ag, iI_as, iI_ar, iI_dv, iI_rem, isOut8, in9, bo_nz, bo_t, bo_f, wr_s, wr_n, wr_k, if_pos, if_neg, ↓reduceIte, Nat.reduceAdd, Nat.reduceMul, Nat.reduceSub, Nat.reduceEqDiff, Int.reduceToNat, Int.toNat_natCast, Int.reduceNeg, Int.reduceAdd, Int.reduceSub, Int.reduceMul, c7, n0]
    · subst e
      rw [List.length_range] at hj
      rw [range_getD hj] at hg
      subst hg
      have f5 : M 11 j = iI (D (614 + 8 * j)) := (hL.fld (show j < 80 by omega)).2.2.2.2.1
      have k4 := (hL.2.2.2.2.2 j (by omega)).2.2.2.2.1
      unfold fX4_nextYear_L32 fX4_hasSent hdB
      refine ⟨?_, by dsimp only; omega, by dsimp only; omega⟩
      dsimp only
      by_cases c : D (614 + 8 * j) < a
      · simp (disch := omega) only [il_0, il_1, il_2, il_3, il_4, il_5, il_6, il_7, il_8, il_9, il_10, il_11, il_12, il_13, il_16, il_20, il_30, il_31, il_32, il_33, il_36, il_37, il_38, il_40, il_41, il_42, il_43, il_45, il_47, il_48, il_50, il_57, il_60, il_61, il_62, il_70, il_71, il_79, il_80, il_97, il_98, il_99, il_100, il_107, il_110, il_111, il_114, il_115, il_116, il_121, il_124, il_128, il_130, il_140, il_160, il_255, il_399, il_540, il_590, il_610, il_999, il_1000, il_1250, il_10000, il_12345, il_99999, il_1000000, il_1103515245, ll_0, ll_1, ll_2, ll_3, ll_4, ll_5, ll_6, ll_7, ll_8, ll_9, ll_30, ll_48, ll_50, ll_57, ll_99, ll_100, ll_255, ll_399, ll_999, ll_99999, nq_bs, nq_ltS, nq_b2S, b2_id, bi_id, iI_add, iI_sub, iI_mul, iI_neg, lI_neg, iI_64, iI_lt, iI_le, iI_eq, iI_ag, iI_as, iI_ar, iI_dv, iI_rem, isOut8, in9, bo_nz, bo_t, bo_f, wr_s, wr_n, wr_k, if_pos, if_neg, ↓reduceIte, Nat.reduceAdd, Nat.reduceMul, Nat.reduceSub, Nat.reduceEqDiff, Int.reduceToNat, Int.toNat_natCast, Int.reduceNeg, Int.reduceAdd, Int.reduceSub, Int.reduceMul, c7, n0, f5]
      · simp (disch := omega) only [il_0, il_1, il_2, il_3, il_4, il_5, il_6, il_7, il_8, il_9, il_10, il_11, il_12, il_13, il_16, il_20, il_30, il_31, il_32, il_33, il_36, il_37, il_38, il_40, il_41, il_42, il_43, il_45, il_47, il_48, il_50, il_57, il_60, il_61, il_62, il_70, il_71, il_79, il_80, il_97, il_98, il_99, il_100, il_107, il_110, il_111, il_114, il_115, il_116, il_121, il_124, il_128, il_130, il_140, il_160, il_255, il_399, il_540, il_590, il_610, il_999, il_1000, il_1250, il_10000, il_12345, il_99999, il_1000000, il_1103515245, ll_0, ll_1, ll_2, ll_3, ll_4, ll_5, ll_6, ll_7, ll_8, ll_9, ll_30, ll_48, ll_50, ll_57, ll_99, ll_100, ll_255, ll_399, ll_999, ll_99999, nq_bs, nq_ltS, nq_b2S, b2_id, bi_id, iI_add, iI_sub, iI_mul, iI_neg, lI_neg, iI_64, iI_lt, iI_le, iI_eq, iI_ag, iI_as, iI_ar, iI_dv, iI_rem, isOut8, in9, bo_nz, bo_t, bo_f, wr_s, wr_n, wr_k, if_pos, if_neg, ↓reduceIte, Nat.reduceAdd, Nat.reduceMul, Nat.reduceSub, Nat.reduceEqDiff, Int.reduceToNat, Int.toNat_natCast, Int.reduceNeg, Int.reduceAdd, Int.reduceSub, Int.reduceMul, c7, n0, f5]
  have key : (0 ≤ hdA D RA ∧ hdA D RA ≤ 1000000) ∧ fX4_nextYear p 6 M = fX4_nextYear_L32 p 6 (iI (hdA D RA)) M := by
    rcases hA.2.2 with ⟨e, hi⟩ | ⟨w, R, e, hi, hg, hR⟩
    · subst e
      rw [hi] at c6
      unfold fX4_nextYear fX4_hasArrival hdA
      refine ⟨by dsimp only; omega, ?_⟩
      dsimp only
      simp (disch := omega) only [il_0, il_1, il_2, il_3, il_4, il_5, il_6, il_7, il_8, il_9, il_10, il_11, il_12, il_13, il_16, il_20, il_30, il_31, il_32, il_33, il_36, il_37, il_38, il_40, il_41, il_42, il_43, il_45, il_47, il_48, il_50, il_57, il_60, il_61, il_62, il_70, il_71, il_79, il_80, il_97, il_98, il_99, il_100, il_107, il_110, il_111, il_114, il_115, il_116, il_121, il_124, il_128, il_130, il_140, il_160, il_255, il_399, il_540, il_590, il_610, il_999, il_1000, il_1250, il_10000, il_12345, il_99999, il_1000000, il_1103515245, ll_0, ll_1, ll_2, ll_3, ll_4, ll_5, ll_6, ll_7, ll_8, ll_9, ll_30, ll_48, ll_50, ll_57, ll_99, ll_100, ll_255, ll_399, ll_999, ll_99999, nq_bs, nq_ltS, nq_b2S, b2_id, bi_id, iI_add, iI_sub, iI_mul, iI_neg, lI_neg, iI_64, iI_lt, iI_le, iI_eq, iI_ag, iI_as, iI_ar, iI_dv, iI_rem, isOut8, in9, bo_nz, bo_t, bo_f, wr_s, wr_n, wr_k, if_pos, if_neg, ↓reduceIte, Nat.reduceAdd, Nat.reduceMul, Nat.reduceSub, Nat.reduceEqDiff, Int.reduceToNat, Int.toNat_natCast, Int.reduceNeg, Int.reduceAdd, Int.reduceSub, Int.reduceMul, c6, n9]
    · subst e
      have mm := arrL_getD hi
      rw [hg] at mm
      have gk : M 15 i = iI (w : Nat) := by rw [← hg, ← iI_nat]; exact hL.2.2.2.2.1 i hi
      have f6 : M 12 w = iI (D (615 + 8 * w)) := (hL.fld (show w < 80 by omega)).2.2.2.2.2.1
      have k6 := (hL.2.2.2.2.2 w (by omega)).2.2.2.2.2.1
      unfold fX4_nextYear fX4_hasArrival hdA
      refine ⟨by dsimp only; omega, ?_⟩
      dsimp only
      simp (disch := omega) only [il_0, il_1, il_2, il_3, il_4, il_5, il_6, il_7, il_8, il_9, il_10, il_11, il_12, il_13, il_16, il_20, il_30, il_31, il_32, il_33, il_36, il_37, il_38, il_40, il_41, il_42, il_43, il_45, il_47, il_48, il_50, il_57, il_60, il_61, il_62, il_70, il_71, il_79, il_80, il_97, il_98, il_99, il_100, il_107, il_110, il_111, il_114, il_115, il_116, il_121, il_124, il_128, il_130, il_140, il_160, il_255, il_399, il_540, il_590, il_610, il_999, il_1000, il_1250, il_10000, il_12345, il_99999, il_1000000, il_1103515245, ll_0, ll_1, ll_2, ll_3, ll_4, ll_5, ll_6, ll_7, ll_8, ll_9, ll_30, ll_48, ll_50, ll_57, ll_99, ll_100, ll_255, ll_399, ll_999, ll_99999, nq_bs, nq_ltS, nq_b2S, b2_id, bi_id, iI_add, iI_sub, iI_mul, iI_neg, lI_neg, iI_64, iI_lt, iI_le, iI_eq, iI_ag, iI_as, iI_ar, iI_dv, iI_rem, isOut8, in9, bo_nz, bo_t, bo_f, wr_s, wr_n, wr_k, if_pos, if_neg, ↓reduceIte, Nat.reduceAdd, Nat.reduceMul, Nat.reduceSub, Nat.reduceEqDiff, Int.reduceToNat, Int.toNat_natCast, Int.reduceNeg, Int.reduceAdd, Int.reduceSub, Int.reduceMul, c6, n9, gk, f6]
  have k2 := sB (hdA D RA) key.1
  refine ⟨?_, ?_⟩
  · rw [key.2, k2.1]; rfl
  · have := key.1
    have := k2.2
    unfold nyr
    split <;> omega
