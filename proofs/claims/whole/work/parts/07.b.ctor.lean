/-! 07.b: a constructor's contract, its walk, and its call -/
def nq_QC (E : Ev) (h0 : Nat) (kf : (Nat → Nat) → (Nat → Nat) → List Sh) (Mf : Mem) (n : Nat) : Array Value → State → Outcome → State → Prop := fun _ st oc t =>
  oc = .returned none ∧ (∃ L : List Nat, L.length = n ∧ nq_AB (nq_Ew E (nq_adL (h0 :: L))) (kf (nq_adL (h0 :: L)) (nq_xa E)) Mf t.heap) ∧ va_F (nq_A E) st t
def nq_CT (l : Launch) (y : MethodName) (ws : List Cond) (rm : Room) (ci : Nat) (fs0 : List (Int32 → Value)) (As : List Value) (kf : (Nat → Nat) → (Nat → Nat) → List Sh) (Mf : Mem) (mc ms n : Nat) : Prop :=
  ∀ (E : Ev) (h0 sz : Nat), nq_A E = (fun q => q = h0 ∨ sz ≤ q) → Met l y ws rm (va_Pc (.ref h0 :: As) (fun U => U.heap.size = sz ∧ nq_CC U ∧ nq_EV E U U.heap ∧ nq_AB (nq_Ew E (nq_adL [h0])) [.inr (.inr (ci, fs0))] (fun _ _ => 0) U.heap)) (nq_QC E h0 kf Mf n) mc ms (nq_A E)
def nq_RC (Y : Cy) (E : Ev) (h0 : Nat) (kf : (Nat → Nat) → (Nat → Nat) → List Sh) (Mf : Mem) (mc ms n : Nat) : Prop :=
  Y.2.2.2.2.2.2.2.2.1.sig.returnType = none ∧ Y.2.2.2.2.2.2.2.2.2.2 = MQ Y.2.2.2.2.2.2.2.1 (nq_QC E h0 kf Mf n) Y.2.2.2.2.2.2.1 (nq_Ys Y) mc ms (nq_A E)
theorem nq_vretC {Y : Cy} {E : Ev} {l : Launch} {rm : Room} {cc : ByteArray} {nL pc cs ss h0 n : Nat} {own : String} {ws : List Cond} {lv : List (Nat × Value)} {K : List Sh} {M Mf : Mem} {L : List Nat} {kf : (Nat → Nat) → (Nat → Nat) → List Sh} (hX : nq_OK (nq_X Y cs ss) (nq_Ew E (nq_adL (h0 :: L))) l rm cc nL own ws) (hr : nq_RC Y E h0 kf Mf cs ss n) (hn : L.length = n) (hws : nq_ws (nq_Ew E (nq_adL (h0 :: L))) K M = nq_ws (nq_Ew E (nq_adL (h0 :: L))) (kf (nq_adL (h0 :: L)) (nq_xa E)) Mf) (hdg : decode cc pc = .ok (.return_, 1)) : nq_G (nq_X Y cs ss) (nq_Ew E (nq_adL (h0 :: L))) nL pc lv [] K M := by
  obtain ⟨p, l', e, R, s, m, args, below, meth, c, Q⟩ := Y
  obtain ⟨hx, hb, hml, hown, hts, hlk, hev, hl', hR, hcs, hss⟩ := hX
  intro H locs ls hl hA hS
  obtain ⟨hr, hQ⟩ := hr
  have hQ : Q = MQ below (nq_QC E h0 kf Mf n) args s cs ss (nq_A E) := hQ
  subst hQ
  refine W.vret hx hb hr (fun t ht _ => ⟨rfl, ⟨L, hn, ?_⟩, hS.F ht⟩) hS.2.2 hdg hlk
  rw [ht]
  unfold nq_AB at hA ⊢
  rw [← hws]
  exact hA
theorem nq_metC {l : Launch} {y : MethodName} {ws ws' : List Cond} {rm : Room} {ci : Nat} {fs0 : List (Int32 → Value)} {As : List Value} {kf : (Nat → Nat) → (Nat → Nat) → List Sh} {Mf : Mem} {mc ms n : Nat} {cc : ByteArray} {maxL : Nat} {own : String} (hy : plainName y.cls = true) (ho : y.cls = own) (hi : y.name = "<init>") (hw : ws = Cond.code y cc maxL none :: ws') (hn : ∀ h0, (lg_sl (.ref h0 :: As)).length ≤ maxL)
    (body : ∀ (Y : Cy) (E : Ev) (h0 : Nat), nq_OK (nq_X Y 0 0) E l rm cc maxL own ws → nq_Ini (nq_X Y 0 0) → nq_CC (nq_Ys Y) → (∀ q, (nq_Ys Y).heap.size ≤ q → nq_A E q) → nq_RC Y E h0 kf Mf mc ms n → nq_G (nq_X Y 0 0) (nq_Ew E (nq_adL [h0])) maxL 0 (lv_args 0 (.ref h0 :: As)) [] [.inr (.inr (ci, fs0))] (fun _ _ => 0)) : nq_CT l y ws rm ci fs0 As kf Mf mc ms n := by
  intro E h0 sz hAE
  refine Met.ofW (cc := cc) (maxL := maxL) (ret := none) hy hw ?_
  intro p e s m args below meth c s₁ B hml hv
  obtain ⟨rfl, hsz, hcc, hev, hab⟩ := hv
  have hts := atoms_spec (ws := ws) B.pre
  have hown : s.vm.findClass own = some m.cls := by rw [← ho]; exact findClass_of_methodNamed B.named
  have hin : meth.name = "<init>" := (name_of_methodNamed B.named B.method).1.trans hi
  have hl := lv_entry (.ref h0 :: As) (n := maxL) (hn h0)
  rw [lg_entry_eq]
  generalize (lg_sl (.ref h0 :: As) ++ List.replicate (maxL - (lg_sl (.ref h0 :: As)).length) Slot.unset).toArray = ls at hl ⊢
  have hA : ∀ q, s.heap.size ≤ q → nq_A E q := fun q h => by rw [hAE]; exact Or.inr (by omega)
  exact body (p, l, e, rm, s, m, (Value.ref h0 :: As).toArray, below, meth, c, MQ below (nq_QC E h0 kf Mf n) (Value.ref h0 :: As).toArray s mc ms (nq_A E)) E h0 ⟨B.exec, B.bytes, hml, hown, hts, B.notSynchronized, hev, rfl, rfl, Nat.zero_le _, Nat.zero_le _⟩ hin hcc hA ⟨B.returns, rfl⟩ s.heap [] ls hl hab va_S.rf
theorem nq_blindC {E : Ev} {av : List Value} {K : List Sh} {M : Mem} {sz : Nat} {E' : Ev} : FrameBlind (va_Pc av (fun U => U.heap.size = sz ∧ nq_CC U ∧ nq_EV E U U.heap ∧ nq_AB E' K M U.heap)) := by
  intro a U g mk h
  obtain ⟨h1, h0, hc, h2, h3⟩ := h
  exact ⟨h1, h0, nq_CC.same (s := U) rfl hc, nq_EV.same (s := U) rfl h2, h3⟩
/-- the memory behind a constructor: its own from place n on -/
def nq_mg (n : Nat) (M Mc : Mem) : Mem := fun k => if k < n then M k else Mc (k - n)
theorem nq_ws_app {E : Ev} {L1 : List Nat} {Lc : List Nat} {K1 Kc : List Sh} {M Mc : Mem} (h : L1.length = K1.length) : nq_ws (nq_Ew E (nq_adL (L1 ++ Lc))) (K1 ++ Kc) (nq_mg K1.length M Mc) = nq_ws (nq_Ew E (nq_adL L1)) K1 M ++ nq_ws (nq_Ew E (nq_adL Lc)) Kc Mc := by
  apply List.ext_getElem?
  intro j
  unfold nq_ws
  by_cases hj : j < K1.length
  · rw [List.getElem?_append_left (by simpa using hj), List.getElem?_mapIdx, List.getElem?_mapIdx, List.getElem?_append_left hj]
    have e1 : nq_ad (nq_Ew E (nq_adL (L1 ++ Lc))) j = nq_ad (nq_Ew E (nq_adL L1)) j := by
      show (L1 ++ Lc).getD j 0 = L1.getD j 0
      simp [List.getD, List.getElem?_append_left (show j < L1.length by omega)]
    have e2 : nq_mg K1.length M Mc j = M j := by simp [nq_mg, hj]
    cases hk : K1[j]? with
    | none => rfl
    | some x => simp only [Option.map_some, e1, e2]; rfl
  · rw [List.getElem?_append_right (by simpa using hj), List.getElem?_mapIdx, List.getElem?_mapIdx, List.getElem?_append_right (by omega)]
    simp only [List.length_mapIdx]
    have e1 : nq_ad (nq_Ew E (nq_adL (L1 ++ Lc))) j = nq_ad (nq_Ew E (nq_adL Lc)) (j - K1.length) := by
      show (L1 ++ Lc).getD j 0 = Lc.getD (j - K1.length) 0
      simp [List.getD, List.getElem?_append_right (show L1.length ≤ j by omega), h]
    have e2 : nq_mg K1.length M Mc j = Mc (j - K1.length) := by simp [nq_mg, hj]
    cases hk : Kc[j - K1.length]? with
    | none => rfl
    | some x => simp only [Option.map_some, e1, e2]; rfl
section RowsE
variable {Y : Cy} {E : Ev} {l : Launch} {rm : Room} {cc : ByteArray} {nL pc cs ss : Nat} {own : String} {ws : List Cond} {lv : List (Nat × Value)} {st : List Value} {K1 : List Sh} {M : Mem} {L1 : List Nat}
theorem nq_initR {q : Nat} {rmy : Room} {y : MethodName} {wy : List Cond} {i ci mc ms nc : Nat} {fs0 : List (Int32 → Value)} {As : List Value} {kf : (Nat → Nat) → (Nat → Nat) → List Sh} {Mf : Mem} {H : Heap} {locs : List Loc} {ls : Array Slot} {st0 : List Value} (hev : nq_EV E (nq_Ys Y) (nq_Ys Y).heap)
    (hr : va_Run Y.1 Y.2.1 Y.2.2.1 Y.2.2.2.1 (nq_Ys Y) Y.2.2.2.2.2.1 Y.2.2.2.2.2.2.1 Y.2.2.2.2.2.2.2.1 Y.2.2.2.2.2.2.2.2.1 Y.2.2.2.2.2.2.2.2.2.1 H locs cs ss mc ms (F0 Y.2.2.2.2.2.1 pc ls st0) st (nq_QC (E.1, E.2.1, (fun z => z = q ∨ H.size ≤ z), E.2.2.2) q kf Mf nc (Value.ref q :: As).toArray) (fun z => z = q ∨ H.size ≤ z))
    (hA : nq_AB (nq_Ew E (nq_adL (L1 ++ [q]))) (K1 ++ [.inr (.inr (ci, fs0))]) M H) (hS : va_S (nq_A E) (nq_Ys Y).heap H locs) (hA0 : ∀ z, (nq_Ys Y).heap.size ≤ z → nq_A E z) (hL : L1.length = K1.length)
    (kk : ∀ (Lc : List Nat) (H1 : Heap) (locs1 : List Loc), Lc.length = nc → nq_AB (nq_Ew E (nq_adL (L1 ++ q :: Lc))) (K1 ++ kf (nq_adL (q :: Lc)) (nq_xa E)) (nq_mg K1.length M Mf) H1 → va_S (nq_A E) (nq_Ys Y).heap H1 locs1 → W Y.1 Y.2.1 Y.2.2.1 Y.2.2.2.1 (nq_Ys Y) Y.2.2.2.2.2.1 Y.2.2.2.2.2.2.1 Y.2.2.2.2.2.2.2.1 Y.2.2.2.2.2.2.2.2.1 Y.2.2.2.2.2.2.2.2.2.1 H1 locs1 (cs + mc) (ss + ms) Y.2.2.2.2.2.2.2.2.2.2 (F0 Y.2.2.2.2.2.1 (pc + 3) ls st)) :
    W Y.1 Y.2.1 Y.2.2.1 Y.2.2.2.1 (nq_Ys Y) Y.2.2.2.2.2.1 Y.2.2.2.2.2.2.1 Y.2.2.2.2.2.2.2.1 Y.2.2.2.2.2.2.2.2.1 Y.2.2.2.2.2.2.2.2.2.1 H locs cs ss Y.2.2.2.2.2.2.2.2.2.2 (F0 Y.2.2.2.2.2.1 pc ls st0) := by
  intro T hT X
  obtain ⟨v, st₀, t, T', Lo, h0, X', hLo, e1, e2, ⟨hv, ⟨Lc, hLc, hab⟩, hz, hk⟩, stp⟩ := hr T hT X
  cases hv
  rw [h0] at hz hk
  have hk : ∀ z : Nat, z < H.size → ¬ (z = q ∨ H.size ≤ z) → t.heap[z]? = H[z]? := hk
  have hw0 : nq_ws (nq_Ew E (nq_adL (L1 ++ [q]))) (K1 ++ [.inr (.inr (ci, fs0))]) M = nq_ws (nq_Ew E (nq_adL L1)) K1 M ++ [(q, nq_cell E (.inr (.inr (ci, fs0))) (M K1.length))] := nq_ws_push hL
  obtain ⟨hP, hD⟩ := hA
  rw [hw0] at hP hD
  have hP1 : va_P E.1 vwCl (nq_ws (nq_Ew E (nq_adL L1)) K1 M) H := fun k x hx => hP k x (by rw [List.getElem?_append_left ((List.getElem?_eq_some_iff.mp hx).1)]; exact hx)
  have hq : (nq_ws (nq_Ew E (nq_adL L1)) K1 M ++ [(q, nq_cell E (.inr (.inr (ci, fs0))) (M K1.length))])[(nq_ws (nq_Ew E (nq_adL L1)) K1 M).length]? = some (q, nq_cell E (.inr (.inr (ci, fs0))) (M K1.length)) := by
    rw [List.getElem?_append_right (Nat.le_refl _)]; simp
  have hqA : nq_A E q := hD.2 _ _ hq
  have ne : ∀ (k : Nat) (x : Nat × va_E), (nq_ws (nq_Ew E (nq_adL L1)) K1 M)[k]? = some x → x.1 < H.size ∧ ¬ (x.1 = q ∨ H.size ≤ x.1) := by
    intro k x hx
    have hl := (List.getElem?_eq_some_iff.mp hx).1
    have hlt := (hP1 k x hx).lt
    refine ⟨hlt, fun h => ?_⟩
    rcases h with h | h
    · have := hD.1 k _ x _ (by rw [List.getElem?_append_left hl]; exact hx) hq h
      omega
    · omega
  have hsub : ∀ z, (z = q ∨ H.size ≤ z) → nq_A E z := by
    intro z h
    rcases h with h | h
    · rw [h]; exact hqA
    · exact hA0 z (Nat.le_trans hS.1 h)
  have hD1 : va_D (nq_A E) (nq_ws (nq_Ew E (nq_adL L1)) K1 M) := by
    refine ⟨fun i j a b ha hb hab => ?_, fun k x hx => ?_⟩
    · exact hD.1 i j a b (by rw [List.getElem?_append_left ((List.getElem?_eq_some_iff.mp ha).1)]; exact ha) (by rw [List.getElem?_append_left ((List.getElem?_eq_some_iff.mp hb).1)]; exact hb) hab
    · exact hD.2 k x (by rw [List.getElem?_append_left ((List.getElem?_eq_some_iff.mp hx).1)]; exact hx)
  obtain ⟨hPc, hDc⟩ := hab
  have hPc : va_P E.1 vwCl (nq_ws (nq_Ew E (nq_adL (q :: Lc))) (kf (nq_adL (q :: Lc)) (nq_xa E)) Mf) t.heap := hPc
  have hDc : va_D (fun z => z = q ∨ H.size ≤ z) (nq_ws (nq_Ew E (nq_adL (q :: Lc))) (kf (nq_adL (q :: Lc)) (nq_xa E)) Mf) := hDc
  have hfin : nq_AB (nq_Ew E (nq_adL (L1 ++ q :: Lc))) (K1 ++ kf (nq_adL (q :: Lc)) (nq_xa E)) (nq_mg K1.length M Mf) t.heap := by
    unfold nq_AB
    rw [nq_ws_app hL]
    refine ⟨va_P.app (hP1.kept (fun k x hx => hk x.1 (ne k x hx).1 (ne k x hx).2)) hPc, va_D.app hD1 (hDc.weaken (fun k x _ h => hsub x.1 h)) (fun i j a b ha hb hab => ?_)⟩
    exact (ne i a ha).2 (by rw [hab]; exact hDc.2 j b hb)
  obtain ⟨t2, a1, b1⟩ := kk Lc T'.heap (locs ++ Lo) hLc (by rw [e1]; exact hfin)
    ⟨Nat.le_trans hS.1 (by rw [e1]; exact hz), fun z h1 h2 => by rw [e1, hk z (Nat.lt_of_lt_of_le h1 hS.1) (fun w => h2 (hsub z w))]; exact hS.2.1 z h1 h2, fun z hz' => by
      rcases List.mem_append.mp hz' with h | h
      · exact hS.2.2 z h
      · exact hsub _ (hLo z h)⟩ T' rfl X'
  exact ⟨t2, stp t2 a1, b1⟩
theorem nq_initC {q : Nat} {rmy : Room} {y : MethodName} {wy wy' : List Cond} {bytes : ByteArray} {maxL i ci mc ms nc : Nat} {fs0 : List (Int32 → Value)} {As st0 : List Value} {kf : (Nat → Nat) → (Nat → Nat) → List Sh} {Mf : Mem} (hX : nq_OK (nq_X Y cs ss) (nq_Ew E (nq_adL (L1 ++ [q]))) l rm cc nL own ws) (hcc : nq_CC (nq_Ys Y)) (hA0 : ∀ z, (nq_Ys Y).heap.size ≤ z → nq_A E z) (hM : nq_CT l y wy rmy ci fs0 As kf Mf mc ms nc) (hG : GoodIn ws wy) (hw : wy = Cond.code y bytes maxL none :: wy') (hlk : (Cond.methodLink own i y ∈ ws) ∨ ∃ host, va_Nw (.methodLinkNest own i y host) (nq_Ys Y)) (hini : Cond.initialized y.cls ∈ ws) (hins : Cond.instanceMethod y ∈ ws) (hy1 : y.name = "<init>")
    (hd : y.cls ≠ "java/lang/invoke/MethodHandle" ∧ y.cls ≠ "java/lang/invoke/VarHandle" ∧ (parseMethodDescriptor y.desc).map (fun d => d.parameters.length) = some As.length) (hroom : rmy.cells = mc ∧ rmy.slots = ms ∧ rmy.frames + 1 ≤ rm.frames ∧ 8 + (maxL + 11) + rmy.locals ≤ rm.locals) (hf : cs + mc ≤ rm.cells ∧ ss + ms ≤ rm.slots) (hL : L1.length = K1.length) (hM0 : M K1.length = fun _ => 0)
    (hst : st0 = As.reverse ++ .ref q :: st) (hW : (st.map fun v => v.category).sum ≤ 8) (hdg : decode cc pc = .ok (.invokespecial i, 3))
    (kk : ∀ Lc : List Nat, Lc.length = nc → nq_G (nq_X Y (cs + mc) (ss + ms)) (nq_Ew E (nq_adL (L1 ++ q :: Lc))) nL (pc + 3) lv st (K1 ++ kf (nq_adL (q :: Lc)) (nq_xa E)) (nq_mg K1.length M Mf)) : nq_G (nq_X Y cs ss) (nq_Ew E (nq_adL (L1 ++ [q]))) nL pc lv st0 (K1 ++ [.inr (.inr (ci, fs0))]) M := by
  obtain ⟨hx, hb, hml, hown, hts, hlk2, hev, hl', hR, hcs, hss⟩ := hX
  intro H locs ls hl hA hS
  have hR : Y.2.2.2.1 = rm := hR
  have hl' : Y.2.1 = l := hl'
  have hqA : nq_A E q := by
    have hw0 : nq_ws (nq_Ew E (nq_adL (L1 ++ [q]))) (K1 ++ [.inr (.inr (ci, fs0))]) M = nq_ws (nq_Ew E (nq_adL L1)) K1 M ++ [(q, nq_cell E (.inr (.inr (ci, fs0))) (M K1.length))] := nq_ws_push hL
    have hD := hA.2
    rw [hw0] at hD
    exact hD.2 _ (q, nq_cell E (.inr (.inr (ci, fs0))) (M K1.length)) (by rw [List.getElem?_append_right (Nat.le_refl _)]; simp)
  have hsub : ∀ z, (z = q ∨ H.size ≤ z) → nq_A E z := by
    intro z h
    rcases h with h | h
    · rw [h]; exact hqA
    · exact hA0 z (Nat.le_trans hS.1 h)
  have hP0 : nq_AB (nq_Ew (E.1, E.2.1, (fun z => z = q ∨ H.size ≤ z), E.2.2.2) (nq_adL [q])) [.inr (.inr (ci, fs0))] (fun _ _ => 0) H := by
    have hw0 : nq_ws (nq_Ew E (nq_adL (L1 ++ [q]))) (K1 ++ [.inr (.inr (ci, fs0))]) M = nq_ws (nq_Ew E (nq_adL L1)) K1 M ++ [(q, nq_cell E (.inr (.inr (ci, fs0))) (M K1.length))] := nq_ws_push hL
    obtain ⟨hP, hD⟩ := hA
    rw [hw0] at hP hD
    have hq : (nq_ws (nq_Ew E (nq_adL L1)) K1 M ++ [(q, nq_cell E (.inr (.inr (ci, fs0))) (M K1.length))])[(nq_ws (nq_Ew E (nq_adL L1)) K1 M).length]? = some (q, nq_cell E (.inr (.inr (ci, fs0))) (M K1.length)) := by
      rw [List.getElem?_append_right (Nat.le_refl _)]; simp
    rw [hM0] at hq
    rw [hM0] at hP
    have h1 := hP _ _ hq
    refine ⟨fun k x hx => ?_, fun i j a b ha hb _ => ?_, fun k x hx => ?_⟩
    · have hz : k < 1 := by simpa [nq_ws] using (List.getElem?_eq_some_iff.mp hx).1
      rw [show k = 0 by omega] at hx
      cases hx
      exact h1
    · have hz : i < 1 := by simpa [nq_ws] using (List.getElem?_eq_some_iff.mp ha).1
      have hz2 : j < 1 := by simpa [nq_ws] using (List.getElem?_eq_some_iff.mp hb).1
      omega
    · have hz : k < 1 := by simpa [nq_ws] using (List.getElem?_eq_some_iff.mp hx).1
      rw [show k = 0 by omega] at hx
      cases hx
      exact Or.inl rfl
  have hpre : PreS (nq_Ys Y) H (va_Pc (.ref q :: As) (fun U => U.heap.size = H.size ∧ nq_CC U ∧ nq_EV (E.1, E.2.1, (fun z => z = q ∨ H.size ≤ z), E.2.2.2) U U.heap ∧ nq_AB (nq_Ew (E.1, E.2.1, (fun z => z = q ∨ H.size ≤ z), E.2.2.2) (nq_adL [q])) [.inr (.inr (ci, fs0))] (fun _ _ => 0) U.heap)) (.ref q :: As) := by
    refine ⟨nq_blindC, fun U hU hWm => ⟨rfl, by rw [hU], hcc.warm hWm, ?_, by rw [hU]; exact hP0⟩⟩
    rw [hU]
    exact nq_EV.narrow (E := E) rfl rfl rfl hsub (nq_EV.warm (E := E) hWm (fun a h1 h2 => hS.2.1 a h1 h2) hev)
  have hMt := hM (E.1, E.2.1, (fun z => z = q ∨ H.size ≤ z), E.2.2.2) q H.size rfl
  rw [← hl'] at hMt
  rw [← hR] at hf hroom
  have hfix : CallFix Y.1 Y.2.2.2.2.2.1 Y.2.2.2.2.2.2.2.2.2.1 cc nL (nq_Ys Y) Y.2.2.2.2.2.2.1 ws own := ⟨hx, hb, hml, hown, hts⟩
  refine nq_initR (q := q) (ci := ci) (fs0 := fs0) (nc := nc) (kf := kf) (Mf := Mf) (mc := mc) (ms := ms) (As := As) (y := y) (wy := wy) (i := i) (rmy := rmy) hev ?_ hA hS hA0 hL (fun Lc H1 locs1 h1 h2 h3 => kk Lc h1 H1 locs1 ls hl h2 h3)
  rcases hlk with hlk | ⟨host, hlk⟩
  · exact va_runI (n := As.length) (As := As) (rest := st) (b := q) hfix hMt (cwI As.length hts hG hw hroom.1 hroom.2.1 (hts _ hini) (hts _ hlk) (hts _ hins) hy1 hd ⟨hroom.2.2.1, hroom.2.2.2⟩) hpre rfl rfl hl.1 hst (lv_room hW) hdg hf
  · exact va_runIN (n := As.length) (As := As) (rest := st) (b := q) hfix hMt ⟨va_cnB As.length hts hG hw hroom.1 hroom.2.1 hlk (hts _ hini) hd ⟨hroom.2.2.1, hroom.2.2.2⟩, hy1, hts _ hins⟩ hpre rfl rfl hl.1 hst (lv_room hW) hdg hf
end RowsE
