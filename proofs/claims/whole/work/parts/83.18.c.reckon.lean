/-! 18.c: codes are worked out -/
def exe1 (nm : Nat → Int32) (c : Int32) (st : List Int32) : Option (List Int32) :=
  if c < 0 then (if c = iI (-33) then (match st with | x :: r => some ((if x = 0 then 1 else 0) :: r) | [] => none) else (match st with | y :: x :: r => some (jn (-c).toInt x y :: r) | _ => none))
  else if 0 ≤ c - 10000 then (if 5 ≤ c - 10000 then some (0 :: st) else some (nm (c - 10000).toNatClampNeg :: st)) else some (c :: st)
def exe (nm : Nat → Int32) : List Int32 → List Int32 → Option (List Int32)
  | [], st => some st
  | c :: cs, st => (exe1 nm c st).bind (exe nm cs)
theorem exe_app {nm : Nat → Int32} : ∀ (c1 c2 st : List Int32), exe nm (c1 ++ c2) st = (exe nm c1 st).bind (exe nm c2) := by
  intro c1
  induction c1 with
  | nil => intro c2 st; rfl
  | cons c c1 ih =>
    intro c2 st
    simp only [List.cons_append, exe]
    cases exe1 nm c st with
    | none => rfl
    | some s => exact ih c2 s
def EvC (cs : List Int32) (v : (Nat → Int32) → Int32) : Prop := ∀ (nm : Nat → Int32) (st : List Int32), exe nm cs st = some (v nm :: st)
theorem exe1_num {nm : Nat → Int32} {z : Int} {st : List Int32} (h : 0 ≤ z ∧ z ≤ 9999) : exe1 nm (iI z) st = some (iI z :: st) := by
  unfold exe1
  simp (disch := omega) only [il_0, il_1, il_2, il_3, il_4, il_5, il_6, il_7, il_8, il_9, il_10, il_11, il_12, il_13, il_16, il_20, il_30, il_31, il_32, il_33, il_36, il_37, il_38, il_40, il_41, il_42, il_43, il_45, il_47, il_48, il_50, il_57, il_60, il_61, il_62, il_70, il_71, il_79, il_80, il_97, il_98, il_99, il_100, il_107, il_110, il_111, il_114, il_115, il_116, il_121, il_124, il_128, il_130, il_140, il_160, il_255, il_399, il_540, il_590, il_610, il_999, il_1000, il_1250, il_10000, il_12345, il_99999, il_1000000, il_1103515245, ll_0, ll_1, ll_2, ll_3, ll_4, ll_5, ll_6, ll_7, ll_8, ll_9, ll_30, ll_48, ll_50, ll_57, ll_99, ll_100, ll_255, ll_399, ll_999, ll_99999, iI_sub, iI_lt, iI_le]
  rw [if_neg (by omega), if_neg (by omega)]
theorem exe1_name {nm : Nat → Int32} {z : Int} {st : List Int32} (h : 0 ≤ z ∧ z < 5) : exe1 nm (iI (10000 + z)) st = some (nm z.toNat :: st) := by
  unfold exe1
  simp (disch := omega) only [il_0, il_1, il_2, il_3, il_4, il_5, il_6, il_7, il_8, il_9, il_10, il_11, il_12, il_13, il_16, il_20, il_30, il_31, il_32, il_33, il_36, il_37, il_38, il_40, il_41, il_42, il_43, il_45, il_47, il_48, il_50, il_57, il_60, il_61, il_62, il_70, il_71, il_79, il_80, il_97, il_98, il_99, il_100, il_107, il_110, il_111, il_114, il_115, il_116, il_121, il_124, il_128, il_130, il_140, il_160, il_255, il_399, il_540, il_590, il_610, il_999, il_1000, il_1250, il_10000, il_12345, il_99999, il_1000000, il_1103515245, ll_0, ll_1, ll_2, ll_3, ll_4, ll_5, ll_6, ll_7, ll_8, ll_9, ll_30, ll_48, ll_50, ll_57, ll_99, ll_100, ll_255, ll_399, ll_999, ll_99999, iI_sub, iI_lt, iI_le, iI_clamp]
  rw [if_neg (by omega), if_pos (by omega), if_neg (by omega), show 10000 + z - 10000 = z by omega]
theorem exe1_sign {nm : Nat → Int32} {z : Int} {x y : Int32} {st : List Int32} (h : 34 ≤ z ∧ z ≤ 255) : exe1 nm (iI (-z)) (y :: x :: st) = some (jn z x y :: st) := by
  unfold exe1
  rw [if_pos (by rw [il_0, iI_lt (by omega) (by omega)]; omega), if_neg (by rw [iI_eq (by omega) (by omega)]; omega), iI_neg, iI_toInt (by omega), show -(-z) = z by omega]
theorem sgn_in {lv : Nat} {c : Int} (h : sgn lv c = true) : 34 ≤ c ∧ c ≤ 255 := by
  unfold sgn at h
  split at h <;> rw [decide_eq_true_eq] at h <;> omega
theorem pLoop_ev {h : Nat → Int} {lv : Nat} {g : Nat → PR} (hg : ∀ a, (g a).1 = true → EvC (g a).2.2.1 (g a).2.2.2) : ∀ k a cs v, EvC cs v → (pLoop h lv g k a cs v).1 = true → EvC (pLoop h lv g k a cs v).2.2.1 (pLoop h lv g k a cs v).2.2.2 := by
  intro k
  induction k with
  | zero => intro a cs v hv _; exact hv
  | succ k ih =>
    intro a cs v hv
    simp only [pLoop]
    split
    · rename_i c
      split
      · rename_i c2
        apply ih
        intro nm st
        rw [exe_app, exe_app, hv nm st]
        simp only [nq_bs]
        rw [hg _ c2 nm]
        simp only [nq_bs, exe]
        rw [exe1_sign (sgn_in c)]
        rfl
      · intro hf; cases hf
    · intro _; exact hv
theorem pr_ev {h : Nat → Int} {o : Bool} : ∀ f lv op a, (pr h o f lv op a).1 = true → EvC (pr h o f lv op a).2.2.1 (pr h o f lv op a).2.2.2 := by
  intro f
  induction f with
  | zero => intro lv op a hf; cases hf
  | succ f ih =>
    intro lv op a
    simp only [pr]
    split
    · split
      · rename_i c
        exact pLoop_ev (fun a ha => ih (lv + 1) op a ha) _ _ _ _ (ih (lv + 1) op a c)
      · intro hf; cases hf
    · split
      · intro _ nm st
        simp only [exe]
        rw [exe1_num pN_v]; rfl
      · split
        · rename_i c
          intro _ nm st
          simp only [exe]
          rw [exe1_name ⟨c, (nm_in c).2⟩]; rfl
        · split
          · split
            · rename_i c
              intro _ nm st
              dsimp only
              rw [exe_app, ih 5 (op + 1) (a + 1) c nm st]
              simp only [nq_bs, exe]
              unfold exe1
              rw [if_pos (by decide), if_pos rfl]
              rfl
            · intro hf; cases hf
          · split
            · split
              · rename_i c
                split
                · intro _; exact ih 0 (op + 1) (a + 1) c
                · intro hf; cases hf
              · intro hf; cases hf
            · intro hf; cases hf
theorem join8 {c : Int} {l r : Int32} {M : Mem} (hc : inR c) : fX5_join (iI c) l r M = some (jn c l r) := by
  have dv : ∀ x y : Int32, ¬ y = 0 → nq_dv x y = some (x / y) := fun x y hy => by unfold nq_dv; rw [if_neg hy]
  have rm : ∀ x y : Int32, ¬ y = 0 → nq_rem x y = some (x - x / y * y) := fun x y hy => by unfold nq_rem; rw [if_neg hy]
  have ei : ∀ m : Int, inR m → ((iI c = iI m) ↔ c = m) := fun m hm => iI_eq hc hm
  have e37 := ei 37 (by omega)
  have e38 := ei 38 (by omega)
  have e42 := ei 42 (by omega)
  have e43 := ei 43 (by omega)
  have e45 := ei 45 (by omega)
  have e47 := ei 47 (by omega)
  have e60 := ei 60 (by omega)
  have e61 := ei 61 (by omega)
  have e62 := ei 62 (by omega)
  have e124 := ei 124 (by omega)
  unfold fX5_join jn
  rw [il_37, il_38, il_42, il_43, il_45, il_47, il_60, il_61, il_62, il_124]
  by_cases c37 : c = 37
  · rw [if_pos (e37.mpr c37), if_pos c37]
    by_cases hy : r = 0
    · rw [if_pos hy, if_pos hy]
    · rw [if_neg hy, if_neg hy, rm _ _ hy, nq_bs]
  rw [if_neg (fun z => c37 (e37.mp z)), if_neg c37]
  by_cases c38 : c = 38
  · rw [if_pos (e38.mpr c38), if_pos c38]
    split
    · rfl
    · split <;> rfl
  rw [if_neg (fun z => c38 (e38.mp z)), if_neg c38]
  by_cases c42 : c = 42
  · rw [if_pos (e42.mpr c42), if_pos c42]
  rw [if_neg (fun z => c42 (e42.mp z)), if_neg c42]
  by_cases c43 : c = 43
  · rw [if_pos (e43.mpr c43), if_pos c43]
  rw [if_neg (fun z => c43 (e43.mp z)), if_neg c43]
  by_cases c45 : c = 45
  · rw [if_pos (e45.mpr c45), if_pos c45]
  rw [if_neg (fun z => c45 (e45.mp z)), if_neg c45]
  by_cases c47 : c = 47
  · rw [if_pos (e47.mpr c47), if_pos c47]
    by_cases hy : r = 0
    · rw [if_pos hy, if_pos hy]
    · rw [if_neg hy, if_neg hy, dv _ _ hy, nq_bs]
  rw [if_neg (fun z => c47 (e47.mp z)), if_neg c47]
  by_cases c60 : c = 60
  · rw [if_pos (e60.mpr c60), if_pos c60]
    split <;> rfl
  rw [if_neg (fun z => c60 (e60.mp z)), if_neg c60]
  by_cases c61 : c = 61
  · rw [if_pos (e61.mpr c61), if_pos c61]
    split <;> rfl
  rw [if_neg (fun z => c61 (e61.mp z)), if_neg c61]
  by_cases c62 : c = 62
  · rw [if_pos (e62.mpr c62), if_pos c62]
    split <;> rfl
  rw [if_neg (fun z => c62 (e62.mp z)), if_neg c62]
  by_cases c124 : c = 124
  · rw [if_pos (e124.mpr c124), if_pos c124]
    split
    · split <;> rfl
    · rfl
  rw [if_neg (fun z => c124 (e124.mp z)), if_neg c124]
theorem exe_pre {nm : Nat → Int32} {cs st st' : List Int32} {k : Nat} (h : exe nm cs st = some st') : ∃ s, exe nm (cs.take k) st = some s ∧ exe nm (cs.drop k) s = some st' := by
  rw [← List.take_append_drop k cs, exe_app] at h
  cases hs : exe nm (cs.take k) st with
  | none => rw [hs] at h; cases h
  | some s => rw [hs] at h; exact ⟨s, rfl, h⟩
/-- reckon() over the codes of a text -/
theorem reckon8 {M : Mem} {p : Nat} {cs : List Int32} {v : (Nat → Int32) → Int32} (hp : p + 1 < 82) (hl : M p 1 = iI cs.length) (hlen : cs.length ≤ 50) (hcs : ∀ i, i < cs.length → M (p + 1) i = cs.getD i 0) (hcr : ∀ i, i < cs.length → ∃ z : Int, -255 ≤ z ∧ z ≤ 10004 ∧ cs.getD i 0 = iI z) (hv : cs = [] ∧ (∀ nm, v nm = 0) ∨ EvC cs v) : ∃ M', fX5_reckon p 82 83 M = some (v (M 82), M') ∧ ∀ k, k ≠ 83 → M' k = M k := by
  have hex : ∃ st', exe (M 82) cs [] = some st' ∧ (st' = [v (M 82)] ∨ (cs = [] ∧ st' = [] ∧ v (M 82) = 0)) := by
    rcases hv with ⟨h1, h2⟩ | h
    · refine ⟨[], by rw [h1]; rfl, Or.inr ⟨h1, rfl, h2 _⟩⟩
    · exact ⟨_, h (M 82) [], Or.inl rfl⟩
  obtain ⟨st', hrun, hst'⟩ := hex
  obtain ⟨M2, e2, F2, R2⟩ := nq_for0 (body := fun s : Int32 × Int32 × Mem => fX5_reckon_B9 p 82 83 s.1 s.2.1 s.2.2) cs.length (fun k s => ∃ st, exe (M 82) (cs.take k) [] = some st ∧ s.1 = iI st.length ∧ s.2.1 = iI k ∧ st.length ≤ k ∧ (∀ j, j < st.length → s.2.2 83 j = st.getD (st.length - 1 - j) 0) ∧ (k = 0 → s.2.2 83 0 = iI 0) ∧ ∀ a, a ≠ 83 → s.2.2 a = M a) (fun r => (∀ a, a ≠ 83 → r a = M a) ∧ r 83 0 = v (M 82)) (s := (iI 0, iI 0, nq_wr M 83 0 (iI 0))) (by omega) ⟨[], rfl, rfl, rfl, Nat.le_refl _, fun j hj => absurd hj (Nat.not_lt_zero j), fun _ => (show nq_wr M 83 0 (iI 0) 83 0 = iI 0 from wr_s ⟨rfl, rfl⟩), fun a ha => wr_k ha⟩
    (by
      rintro k ⟨tp, i, M1⟩ hk ⟨st, h1, h2, h3, h4, h5, h6, h7⟩
      dsimp only at h2 h3 h5 h6 h7
      subst h2; subst h3
      left
      have q1 : M1 p 1 = iI cs.length := by rw [h7 p (by omega)]; exact hl
      have q2 : M1 (p + 1) k = cs.getD k 0 := by rw [h7 (p + 1) (by omega)]; exact hcs k hk
      obtain ⟨sq, a1, a2⟩ := exe_pre (k := k) hrun
      rw [h1] at a1
      have esq : st = sq := Option.some.inj a1
      subst esq
      have ek : cs.getD k 0 = cs[k] := by rw [List.getD_eq_getElem?_getD, List.getElem?_eq_getElem hk, Option.getD_some]
      have et : cs.take (k + 1) = cs.take k ++ [cs.getD k 0] := by rw [List.take_succ_eq_append_getElem hk, ek]
      rw [List.drop_eq_getElem_cons hk, ← ek] at a2
      simp only [exe] at a2
      obtain ⟨z, z1, z2, ez⟩ := hcr k hk
      cases h8 : exe1 (M 82) (cs.getD k 0) st with
      | none => rw [h8] at a2; cases a2
      | some s2 =>
        have hrun2 : exe (M 82) (cs.take (k + 1)) [] = some s2 := by
          rw [et, exe_app, h1]
          simp only [nq_bs, exe]
          rw [h8]; rfl
        rw [ez] at h8 q2
        have q82 : M1 82 = M 82 := h7 82 (by omega)
        by_cases c0 : z < 0
        · by_cases c33 : z = -33
          · subst c33
            unfold exe1 at h8
            rw [if_pos (by decide), if_pos rfl] at h8
            cases st with
            | nil => cases h8
            | cons x r =>
              cases h8
              simp only [List.length_cons] at h4 h5
              have s0 := h5 r.length (by omega)
              rw [show r.length + 1 - 1 - r.length = 0 by omega] at s0
              have s0' : M1 83 r.length = x := s0
              have hb : ∀ w : Int32, w = (if x = 0 then (1 : Int32) else 0) → fX5_reckon_B9 p 82 83 (iI ((r.length + 1 : Nat) : Int)) (iI k) M1 = some (.inl (iI ((r.length + 1 : Nat) : Int), iI ((k + 1 : Nat) : Int), nq_wr M1 83 r.length w)) := by
                intro w hw
                have t1 : ((r.length + 1 : Nat) : Int) - 1 = (r.length : Int) := by omega
                unfold fX5_reckon_B9 fX5_reckon_L53_9
                by_cases cx : x = iI 0
                · rw [if_pos (show x = 0 from cx)] at hw
                  subst hw
                  simp (disch := omega) only [il_0, il_1, il_2, il_3, il_4, il_5, il_6, il_7, il_8, il_9, il_10, il_11, il_12, il_13, il_16, il_20, il_30, il_31, il_32, il_33, il_36, il_37, il_38, il_40, il_41, il_42, il_43, il_45, il_47, il_48, il_50, il_57, il_60, il_61, il_62, il_70, il_71, il_79, il_80, il_97, il_98, il_99, il_100, il_107, il_110, il_111, il_114, il_115, il_116, il_121, il_124, il_128, il_130, il_140, il_160, il_255, il_399, il_540, il_590, il_610, il_999, il_1000, il_1250, il_10000, il_12345, il_99999, il_1000000, il_1103515245, ll_0, ll_1, ll_2, ll_3, ll_4, ll_5, ll_6, ll_7, ll_8, ll_9, ll_30, ll_48, ll_50, ll_57, ll_99, ll_100, ll_255, ll_399, ll_999, ll_99999, nq_bs, nq_ltS, nq_b2S, b2_id, bi_id, iI_add, iI_sub, iI_mul, iI_neg, lI_neg, iI_64, iI_lt, iI_le, iI_eq, iI_ag, iI_as, iI_ar, iI_dv, iI_rem, isOut8, in9, bo_nz, bo_t, bo_f, wr_s, wr_n, wr_k, if_pos, if_neg, ↓reduceIte, Nat.reduceAdd, Nat.reduceMul, Nat.reduceSub, Nat.reduceEqDiff, Int.reduceToNat, Int.toNat_natCast, Int.reduceNeg, Int.reduceAdd, Int.reduceSub, Int.reduceMul, q1, q2, t1, s0', cx]
                  rfl
                · rw [if_neg (show ¬ x = 0 from cx)] at hw
                  subst hw
                  simp (disch := omega) only [il_0, il_1, il_2, il_3, il_4, il_5, il_6, il_7, il_8, il_9, il_10, il_11, il_12, il_13, il_16, il_20, il_30, il_31, il_32, il_33, il_36, il_37, il_38, il_40, il_41, il_42, il_43, il_45, il_47, il_48, il_50, il_57, il_60, il_61, il_62, il_70, il_71, il_79, il_80, il_97, il_98, il_99, il_100, il_107, il_110, il_111, il_114, il_115, il_116, il_121, il_124, il_128, il_130, il_140, il_160, il_255, il_399, il_540, il_590, il_610, il_999, il_1000, il_1250, il_10000, il_12345, il_99999, il_1000000, il_1103515245, ll_0, ll_1, ll_2, ll_3, ll_4, ll_5, ll_6, ll_7, ll_8, ll_9, ll_30, ll_48, ll_50, ll_57, ll_99, ll_100, ll_255, ll_399, ll_999, ll_99999, nq_bs, nq_ltS, nq_b2S, b2_id, bi_id, iI_add, iI_sub, iI_mul, iI_neg, lI_neg, iI_64, iI_lt, iI_le, iI_eq, iI_ag, iI_as, iI_ar, iI_dv, iI_rem, isOut8, in9, bo_nz, bo_t, bo_f, wr_s, wr_n, wr_k, if_pos, if_neg, ↓reduceIte, Nat.reduceAdd, Nat.reduceMul, Nat.reduceSub, Nat.reduceEqDiff, Int.reduceToNat, Int.toNat_natCast, Int.reduceNeg, Int.reduceAdd, Int.reduceSub, Int.reduceMul, q1, q2, t1, s0', cx]
                  rfl
              refine ⟨(iI ((r.length + 1 : Nat) : Int), iI ((k + 1 : Nat) : Int), nq_wr M1 83 r.length (if x = 0 then (1 : Int32) else 0)), hb _ rfl, _, hrun2, ?_, rfl, ?_, ?_, fun c => absurd c (by omega), ?_⟩
              · simp
              · simp; omega
              · intro j hj
                simp only [List.length_cons] at hj ⊢
                by_cases e : j = r.length
                · subst e; rw [wr_s ⟨rfl, rfl⟩, show r.length + 1 - 1 - r.length = 0 by omega]; rfl
                · rw [wr_n (Or.inr e), h5 j hj, show r.length + 1 - 1 - j = (r.length - 1 - j) + 1 by omega]; rfl
              · intro a ha; dsimp only; rw [wr_k ha]; exact h7 a ha
          · unfold exe1 at h8
            rw [if_pos (by rw [il_0, iI_lt (by omega) (by omega)]; omega), if_neg (by rw [iI_eq (by omega) (by omega)]; exact c33)] at h8
            cases st with
            | nil => cases h8
            | cons y r1 =>
              cases r1 with
              | nil => cases h8
              | cons x r =>
                cases h8
                simp only [List.length_cons] at h4 h5
                have sy := h5 (r.length + 1) (by omega)
                have sx := h5 r.length (by omega)
                rw [show r.length + 1 + 1 - 1 - (r.length + 1) = 0 by omega] at sy
                rw [show r.length + 1 + 1 - 1 - r.length = 1 by omega] at sx
                have sy' : M1 83 (r.length + 1) = y := sy
                have sx' : M1 83 r.length = x := sx
                have hj := join8 (c := -z) (l := x) (r := y) (M := M1) (by omega)
                have ejn : (-iI z).toInt = -z := by rw [iI_neg, iI_toInt (by omega)]
                rw [ejn] at hrun2
                refine ⟨(iI ((r.length + 1 : Nat) : Int), iI ((k + 1 : Nat) : Int), nq_wr M1 83 r.length (jn (-z) x y)), ?_, _, hrun2, ?_, rfl, ?_, ?_, fun c => absurd c (by omega), ?_⟩
                · show fX5_reckon_B9 p 82 83 (iI ((r.length + 1 + 1 : Nat) : Int)) (iI k) M1 = _
                  have t1 : ((r.length + 1 + 1 : Nat) : Int) + -1 = ((r.length + 1 : Nat) : Int) := by omega
                  have t2 : ((r.length + 1 : Nat) : Int) - 1 = (r.length : Int) := by omega
                  unfold fX5_reckon_B9 fX5_reckon_L53_9 fX5_reckon_L85_9
                  simp (disch := omega) only [il_0, il_1, il_2, il_3, il_4, il_5, il_6, il_7, il_8, il_9, il_10, il_11, il_12, il_13, il_16, il_20, il_30, il_31, il_32, il_33, il_36, il_37, il_38, il_40, il_41, il_42, il_43, il_45, il_47, il_48, il_50, il_57, il_60, il_61, il_62, il_70, il_71, il_79, il_80, il_97, il_98, il_99, il_100, il_107, il_110, il_111, il_114, il_115, il_116, il_121, il_124, il_128, il_130, il_140, il_160, il_255, il_399, il_540, il_590, il_610, il_999, il_1000, il_1250, il_10000, il_12345, il_99999, il_1000000, il_1103515245, ll_0, ll_1, ll_2, ll_3, ll_4, ll_5, ll_6, ll_7, ll_8, ll_9, ll_30, ll_48, ll_50, ll_57, ll_99, ll_100, ll_255, ll_399, ll_999, ll_99999, nq_bs, nq_ltS, nq_b2S, b2_id, bi_id, iI_add, iI_sub, iI_mul, iI_neg, lI_neg, iI_64, iI_lt, iI_le, iI_eq, iI_ag, iI_as, iI_ar, iI_dv, iI_rem, isOut8, in9, bo_nz, bo_t, bo_f, wr_s, wr_n, wr_k, if_pos, if_neg, ↓reduceIte, Nat.reduceAdd, Nat.reduceMul, Nat.reduceSub, Nat.reduceEqDiff, Int.reduceToNat, Int.toNat_natCast, Int.reduceNeg, Int.reduceAdd, Int.reduceSub, Int.reduceMul, q1, q2, t1, t2, sy', sx', hj]
                  rfl
                · simp
                · simp; omega
                · intro j hj
                  simp only [List.length_cons] at hj ⊢
                  by_cases e : j = r.length
                  · subst e; rw [wr_s ⟨rfl, rfl⟩, show r.length + 1 - 1 - r.length = 0 by omega]; rfl
                  · rw [wr_n (Or.inr e), h5 j (by omega), show r.length + 1 + 1 - 1 - j = (r.length - 1 - j) + 1 + 1 by omega, show r.length + 1 - 1 - j = (r.length - 1 - j) + 1 by omega]; rfl
                · intro a ha; dsimp only; rw [wr_k ha]; exact h7 a ha
        · -- a number or a name
          have hpush : ∃ w, s2 = w :: st ∧ fX5_valueOf 82 (iI z) M1 = some w := by
            unfold exe1 at h8
            unfold fX5_valueOf
            by_cases cn : 10000 ≤ z
            · by_cases c5 : 5 ≤ z - 10000
              · exact absurd c5 (by omega)
              · refine ⟨M 82 (z - 10000).toNat, ?_, ?_⟩
                · simp (disch := omega) only [il_0, il_1, il_2, il_3, il_4, il_5, il_6, il_7, il_8, il_9, il_10, il_11, il_12, il_13, il_16, il_20, il_30, il_31, il_32, il_33, il_36, il_37, il_38, il_40, il_41, il_42, il_43, il_45, il_47, il_48, il_50, il_57, il_60, il_61, il_62, il_70, il_71, il_79, il_80, il_97, il_98, il_99, il_100, il_107, il_110, il_111, il_114, il_115, il_116, il_121, il_124, il_128, il_130, il_140, il_160, il_255, il_399, il_540, il_590, il_610, il_999, il_1000, il_1250, il_10000, il_12345, il_99999, il_1000000, il_1103515245, ll_0, ll_1, ll_2, ll_3, ll_4, ll_5, ll_6, ll_7, ll_8, ll_9, ll_30, ll_48, ll_50, ll_57, ll_99, ll_100, ll_255, ll_399, ll_999, ll_99999, iI_sub, iI_lt, iI_le, iI_clamp] at h8
                  rw [if_neg (by omega), if_pos (by omega), if_neg (by omega)] at h8
                  exact (Option.some.inj h8).symm
                · simp (disch := omega) only [il_0, il_1, il_2, il_3, il_4, il_5, il_6, il_7, il_8, il_9, il_10, il_11, il_12, il_13, il_16, il_20, il_30, il_31, il_32, il_33, il_36, il_37, il_38, il_40, il_41, il_42, il_43, il_45, il_47, il_48, il_50, il_57, il_60, il_61, il_62, il_70, il_71, il_79, il_80, il_97, il_98, il_99, il_100, il_107, il_110, il_111, il_114, il_115, il_116, il_121, il_124, il_128, il_130, il_140, il_160, il_255, il_399, il_540, il_590, il_610, il_999, il_1000, il_1250, il_10000, il_12345, il_99999, il_1000000, il_1103515245, ll_0, ll_1, ll_2, ll_3, ll_4, ll_5, ll_6, ll_7, ll_8, ll_9, ll_30, ll_48, ll_50, ll_57, ll_99, ll_100, ll_255, ll_399, ll_999, ll_99999, nq_bs, nq_ltS, nq_b2S, b2_id, bi_id, iI_add, iI_sub, iI_mul, iI_neg, lI_neg, iI_64, iI_lt, iI_le, iI_eq, iI_ag, iI_as, iI_ar, iI_dv, iI_rem, isOut8, in9, bo_nz, bo_t, bo_f, wr_s, wr_n, wr_k, if_pos, if_neg, ↓reduceIte, Nat.reduceAdd, Nat.reduceMul, Nat.reduceSub, Nat.reduceEqDiff, Int.reduceToNat, Int.toNat_natCast, Int.reduceNeg, Int.reduceAdd, Int.reduceSub, Int.reduceMul, q82]
            · refine ⟨iI z, ?_, ?_⟩
              · simp (disch := omega) only [il_0, il_1, il_2, il_3, il_4, il_5, il_6, il_7, il_8, il_9, il_10, il_11, il_12, il_13, il_16, il_20, il_30, il_31, il_32, il_33, il_36, il_37, il_38, il_40, il_41, il_42, il_43, il_45, il_47, il_48, il_50, il_57, il_60, il_61, il_62, il_70, il_71, il_79, il_80, il_97, il_98, il_99, il_100, il_107, il_110, il_111, il_114, il_115, il_116, il_121, il_124, il_128, il_130, il_140, il_160, il_255, il_399, il_540, il_590, il_610, il_999, il_1000, il_1250, il_10000, il_12345, il_99999, il_1000000, il_1103515245, ll_0, ll_1, ll_2, ll_3, ll_4, ll_5, ll_6, ll_7, ll_8, ll_9, ll_30, ll_48, ll_50, ll_57, ll_99, ll_100, ll_255, ll_399, ll_999, ll_99999, iI_sub, iI_lt, iI_le, iI_clamp] at h8
                rw [if_neg (by omega), if_neg (by omega)] at h8
                exact (Option.some.inj h8).symm
              · simp (disch := omega) only [il_0, il_1, il_2, il_3, il_4, il_5, il_6, il_7, il_8, il_9, il_10, il_11, il_12, il_13, il_16, il_20, il_30, il_31, il_32, il_33, il_36, il_37, il_38, il_40, il_41, il_42, il_43, il_45, il_47, il_48, il_50, il_57, il_60, il_61, il_62, il_70, il_71, il_79, il_80, il_97, il_98, il_99, il_100, il_107, il_110, il_111, il_114, il_115, il_116, il_121, il_124, il_128, il_130, il_140, il_160, il_255, il_399, il_540, il_590, il_610, il_999, il_1000, il_1250, il_10000, il_12345, il_99999, il_1000000, il_1103515245, ll_0, ll_1, ll_2, ll_3, ll_4, ll_5, ll_6, ll_7, ll_8, ll_9, ll_30, ll_48, ll_50, ll_57, ll_99, ll_100, ll_255, ll_399, ll_999, ll_99999, nq_bs, nq_ltS, nq_b2S, b2_id, bi_id, iI_add, iI_sub, iI_mul, iI_neg, lI_neg, iI_64, iI_lt, iI_le, iI_eq, iI_ag, iI_as, iI_ar, iI_dv, iI_rem, isOut8, in9, bo_nz, bo_t, bo_f, wr_s, wr_n, wr_k, if_pos, if_neg, ↓reduceIte, Nat.reduceAdd, Nat.reduceMul, Nat.reduceSub, Nat.reduceEqDiff, Int.reduceToNat, Int.toNat_natCast, Int.reduceNeg, Int.reduceAdd, Int.reduceSub, Int.reduceMul]
          obtain ⟨w, rfl, hw⟩ := hpush
          refine ⟨(iI ((st.length + 1 : Nat) : Int), iI ((k + 1 : Nat) : Int), nq_wr M1 83 st.length w), ?_, _, hrun2, ?_, rfl, ?_, ?_, fun c => absurd c (by omega), ?_⟩
          · show fX5_reckon_B9 p 82 83 (iI (st.length : Int)) (iI k) M1 = _
            unfold fX5_reckon_B9
            simp (disch := omega) only [il_0, il_1, il_2, il_3, il_4, il_5, il_6, il_7, il_8, il_9, il_10, il_11, il_12, il_13, il_16, il_20, il_30, il_31, il_32, il_33, il_36, il_37, il_38, il_40, il_41, il_42, il_43, il_45, il_47, il_48, il_50, il_57, il_60, il_61, il_62, il_70, il_71, il_79, il_80, il_97, il_98, il_99, il_100, il_107, il_110, il_111, il_114, il_115, il_116, il_121, il_124, il_128, il_130, il_140, il_160, il_255, il_399, il_540, il_590, il_610, il_999, il_1000, il_1250, il_10000, il_12345, il_99999, il_1000000, il_1103515245, ll_0, ll_1, ll_2, ll_3, ll_4, ll_5, ll_6, ll_7, ll_8, ll_9, ll_30, ll_48, ll_50, ll_57, ll_99, ll_100, ll_255, ll_399, ll_999, ll_99999, nq_bs, nq_ltS, nq_b2S, b2_id, bi_id, iI_add, iI_sub, iI_mul, iI_neg, lI_neg, iI_64, iI_lt, iI_le, iI_eq, iI_ag, iI_as, iI_ar, iI_dv, iI_rem, isOut8, in9, bo_nz, bo_t, bo_f, wr_s, wr_n, wr_k, if_pos, if_neg, ↓reduceIte, Nat.reduceAdd, Nat.reduceMul, Nat.reduceSub, Nat.reduceEqDiff, Int.reduceToNat, Int.toNat_natCast, Int.reduceNeg, Int.reduceAdd, Int.reduceSub, Int.reduceMul, q1, q2, hw]
            rfl
          · simp
          · simp; omega
          · intro j hj
            simp only [List.length_cons] at hj ⊢
            by_cases e : j = st.length
            · subst e; rw [wr_s ⟨rfl, rfl⟩, show st.length + 1 - 1 - st.length = 0 by omega]; rfl
            · rw [wr_n (Or.inr e), h5 j (by omega), show st.length + 1 - 1 - j = (st.length - 1 - j) + 1 by omega]; rfl
          · intro a ha; dsimp only; rw [wr_k ha]; exact h7 a ha)
    (by
      rintro ⟨tp, i, M1⟩ ⟨st, h1, h2, h3, h4, h5, h6, h7⟩
      dsimp only at h2 h3 h5 h6 h7
      subst h2; subst h3
      rw [List.take_length, hrun] at h1
      cases h1
      have q1 : M1 p 1 = iI cs.length := by rw [h7 p (by omega)]; exact hl
      refine ⟨M1, ?_, h7, ?_⟩
      · show fX5_reckon_B9 p 82 83 (iI (st'.length : Int)) (iI (cs.length : Int)) M1 = _
        unfold fX5_reckon_B9
        simp (disch := omega) only [il_0, il_1, il_2, il_3, il_4, il_5, il_6, il_7, il_8, il_9, il_10, il_11, il_12, il_13, il_16, il_20, il_30, il_31, il_32, il_33, il_36, il_37, il_38, il_40, il_41, il_42, il_43, il_45, il_47, il_48, il_50, il_57, il_60, il_61, il_62, il_70, il_71, il_79, il_80, il_97, il_98, il_99, il_100, il_107, il_110, il_111, il_114, il_115, il_116, il_121, il_124, il_128, il_130, il_140, il_160, il_255, il_399, il_540, il_590, il_610, il_999, il_1000, il_1250, il_10000, il_12345, il_99999, il_1000000, il_1103515245, ll_0, ll_1, ll_2, ll_3, ll_4, ll_5, ll_6, ll_7, ll_8, ll_9, ll_30, ll_48, ll_50, ll_57, ll_99, ll_100, ll_255, ll_399, ll_999, ll_99999, nq_bs, nq_ltS, nq_b2S, b2_id, bi_id, iI_add, iI_sub, iI_mul, iI_neg, lI_neg, iI_64, iI_lt, iI_le, iI_eq, iI_ag, iI_as, iI_ar, iI_dv, iI_rem, isOut8, in9, bo_nz, bo_t, bo_f, wr_s, wr_n, wr_k, if_pos, if_neg, ↓reduceIte, Nat.reduceAdd, Nat.reduceMul, Nat.reduceSub, Nat.reduceEqDiff, Int.reduceToNat, Int.toNat_natCast, Int.reduceNeg, Int.reduceAdd, Int.reduceSub, Int.reduceMul, q1]
      · rcases hst' with e | ⟨e1, e2, e3⟩
        · subst e
          exact h5 0 (by simp)
        · rw [h6 (by rw [e1]; rfl), e3]; rfl)
  refine ⟨M2, ?_, F2⟩
  unfold fX5_reckon fX5_reckon_L9 fX5_reckon_L118
  simp (disch := omega) only [il_0, il_1, il_2, il_3, il_4, il_5, il_6, il_7, il_8, il_9, il_10, il_11, il_12, il_13, il_16, il_20, il_30, il_31, il_32, il_33, il_36, il_37, il_38, il_40, il_41, il_42, il_43, il_45, il_47, il_48, il_50, il_57, il_60, il_61, il_62, il_70, il_71, il_79, il_80, il_97, il_98, il_99, il_100, il_107, il_110, il_111, il_114, il_115, il_116, il_121, il_124, il_128, il_130, il_140, il_160, il_255, il_399, il_540, il_590, il_610, il_999, il_1000, il_1250, il_10000, il_12345, il_99999, il_1000000, il_1103515245, ll_0, ll_1, ll_2, ll_3, ll_4, ll_5, ll_6, ll_7, ll_8, ll_9, ll_30, ll_48, ll_50, ll_57, ll_99, ll_100, ll_255, ll_399, ll_999, ll_99999, iI_as, nq_bs, Int.reduceToNat]
  rw [e2]
  simp (disch := omega) only [nq_bs, iI_ag, Int.reduceToNat, R2]
