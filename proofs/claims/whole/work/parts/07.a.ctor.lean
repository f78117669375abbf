/-! 07.ctor: rows for constructors: cells are made, their addresses come to a list -/
abbrev Cy : Type := Program × Launch × Env × Room × State × MethodId × Array Value × List Frame × Method × Code × (State → Prop)
def nq_X (Y : Cy) (cs ss : Nat) : Cx := (Y.1, Y.2.1, Y.2.2.1, Y.2.2.2.1, Y.2.2.2.2.1, Y.2.2.2.2.2.1, Y.2.2.2.2.2.2.1, Y.2.2.2.2.2.2.2.1, Y.2.2.2.2.2.2.2.2.1, Y.2.2.2.2.2.2.2.2.2.1, Y.2.2.2.2.2.2.2.2.2.2, cs, ss)
abbrev nq_Ys (Y : Cy) : State := Y.2.2.2.2.1
def nq_Ew (E : Ev) (ad : Nat → Nat) : Ev := (E.1, E.2.1, E.2.2.1, ad, E.2.2.2.2)
def nq_adL (L : List Nat) : Nat → Nat := fun k => L.getD k 0
/-- what the constructors need besides -/
def nq_CC (U : State) : Prop := va_AO "NineYears$Text" U ∧ va_AO "NineYears$Sheet" U ∧
  va_Nw (.methodLinkNest "NineYears$World" 20 ⟨"NineYears$Letters", "<init>", "()V"⟩ "NineYears") U ∧ va_Nw (.methodLinkNest "NineYears$World" 75 ⟨"NineYears$Text", "<init>", "()V"⟩ "NineYears") U ∧
  va_Nw (.methodLinkNest "NineYears" 58 ⟨"NineYears$Voices", "<init>", "()V"⟩ "NineYears") U ∧ va_Nw (.methodLinkNest "NineYears" 69 ⟨"NineYears$Sheet", "<init>", "()V"⟩ "NineYears") U
theorem nq_CC.warm {s U : State} (hW : s.WarmedH U.vm) (h : nq_CC s) : nq_CC U := by
  obtain ⟨a, b, c, d, e, f⟩ := h
  exact ⟨va_AO.moved hW.alike a, va_AO.moved hW.alike b, va_Nw.warmM hW c, va_Nw.warmM hW d, va_Nw.warmM hW e, va_Nw.warmM hW f⟩
theorem nq_CC.same {s U : State} (hv : U.vm = s.vm) (h : nq_CC s) : nq_CC U := by
  have ha : s.vm.Alike U.vm := by rw [hv]; exact Vm.Alike.refl _
  obtain ⟨a, b, c, d, e, f⟩ := h
  exact ⟨va_AO.moved ha a, va_AO.moved ha b, va_Nw.same rfl hv.symm c, va_Nw.same rfl hv.symm d, va_Nw.same rfl hv.symm e, va_Nw.same rfl hv.symm f⟩
theorem nq_EV.narrow {E E' : Ev} {U : State} {H : Heap} (h1 : E'.1 = E.1) (h2 : E'.2.1 = E.2.1) (hx : E'.2.2.2.2 = E.2.2.2.2) (hA : ∀ q, nq_A E' q → nq_A E q) (h : nq_EV E U H) : nq_EV E' U H := by
  obtain ⟨hK, ⟨a1, a2⟩, ⟨b1, b2⟩, c1, d1, e1, f1⟩ := h
  obtain ⟨D, cl, A, ad, xx⟩ := E
  obtain ⟨D', cl', A', ad', xx'⟩ := E'
  cases h1; cases h2; cases hx
  exact ⟨hK, ⟨a1.narrow hA, a2.narrow hA⟩, ⟨b1.narrow hA, b2.narrow hA⟩, c1.narrow hA, d1.narrow hA, e1, f1⟩
theorem nq_OKx {Y : Cy} {E : Ev} {ad : Nat → Nat} {l : Launch} {rm : Room} {cc : ByteArray} {nL cs ss : Nat} {own : String} {ws : List Cond} (h : nq_OK (nq_X Y 0 0) E l rm cc nL own ws) (h1 : cs ≤ rm.cells) (h2 : ss ≤ rm.slots) : nq_OK (nq_X Y cs ss) (nq_Ew E ad) l rm cc nL own ws := by
  obtain ⟨hx, hb, hml, hown, hts, hlk, hev, hl', hR, hcs, hss⟩ := h
  refine ⟨hx, hb, hml, hown, hts, hlk, hev, hl', hR, ?_, ?_⟩
  · show cs ≤ (Y.2.2.2.1).cells
    rw [show Y.2.2.2.1 = rm from hR]; exact h1
  · show ss ≤ (Y.2.2.2.1).slots
    rw [show Y.2.2.2.1 = rm from hR]; exact h2
theorem nq_adL_lt {L : List Nat} {q k : Nat} (h : k < L.length) : nq_adL (L ++ [q]) k = nq_adL L k := by
  simp [nq_adL, List.getD, List.getElem?_append_left h]
theorem nq_adL_eq {L : List Nat} {q : Nat} : nq_adL (L ++ [q]) L.length = q := by
  simp [nq_adL, List.getD]
theorem nq_ws_push {E : Ev} {L : List Nat} {K : List Sh} {M : Mem} {sh : Sh} {q : Nat} (h : L.length = K.length) : nq_ws (nq_Ew E (nq_adL (L ++ [q]))) (K ++ [sh]) M = nq_ws (nq_Ew E (nq_adL L)) K M ++ [(q, nq_cell E sh (M K.length))] := by
  unfold nq_ws
  rw [List.mapIdx_append]
  congr 1
  · apply List.ext_getElem?
    intro j
    simp only [List.getElem?_mapIdx]
    cases hj : K[j]? with
    | none => rfl
    | some x =>
      have hl : j < K.length := (List.getElem?_eq_some_iff.mp hj).1
      have : nq_ad (nq_Ew E (nq_adL (L ++ [q]))) j = nq_ad (nq_Ew E (nq_adL L)) j := nq_adL_lt (by omega)
      simp only [Option.map_some, this]
      rfl
  · simp only [List.mapIdx_cons, List.mapIdx_nil]
    have : nq_ad (nq_Ew E (nq_adL (L ++ [q]))) (0 + K.length) = q := by rw [Nat.zero_add, ← h]; exact nq_adL_eq
    rw [this, Nat.zero_add]
    rfl
section RowsC
variable {Y : Cy} {E : Ev} {L : List Nat} {l : Launch} {rm : Room} {cc : ByteArray} {nL pc cs ss : Nat} {own : String} {ws : List Cond} {lv : List (Nat × Value)} {st : List Value} {K : List Sh} {M : Mem}
theorem nq_new (hX : nq_OK (nq_X Y cs ss) (nq_Ew E (nq_adL L)) l rm cc nL own ws) {C : String} {T : u_T} {N ci i : Nat} (hin : ∀ w ∈ u_ws C T N, w ∈ ws) (ty : Nat → FieldType) (hty : ∀ k, k < N → parseFieldDescriptor (T k).2.2.1 = some (ty k)) (hc : vwCl[ci]? = some (C, T, N)) (hcl : Cond.classLink own i C ∈ ws) (hinst : Cond.instantiable C N ∈ ws) (hini : Cond.initialized C ∈ ws) (fs : List (Int32 → Value)) (hfs : ∀ j, j < N → defaultValue (ty j) = vp_V (fs.mapIdx (nq_fv (fun _ => 0))) j) (hA : ∀ q, (nq_Ys Y).heap.size ≤ q → nq_A E q) (hL : L.length = K.length) (hM : M K.length = fun _ => 0) (hcells : cs + 1 ≤ rm.cells) (hslots : ss + N ≤ rm.slots) (hdg : decode cc pc = .ok (.new i, 3))
    (kk : ∀ q, nq_G (nq_X Y (cs + 1) (ss + N)) (nq_Ew E (nq_adL (L ++ [q]))) nL (pc + 3) lv (.ref q :: st) (K ++ [.inr (.inr (ci, fs))]) M) : nq_G (nq_X Y cs ss) (nq_Ew E (nq_adL L)) nL pc lv st K M := by
  obtain ⟨p, l', e, R, s, m, args, below, meth, c, Q⟩ := Y
  obtain ⟨hx, hb, hml, hown, hts, hlk, hev, hl', hR, hcs, hss⟩ := hX
  intro H locs ls hl hA' hS
  subst hR
  refine va_new (ci := ci) (fs := fs.mapIdx (nq_fv (fun _ => 0))) hx hb hts hin ty hty hown (hts _ hcl) (hts _ hinst) (hts _ hini) hev.1 hA'.1 hA'.2 hS hA hc hfs hcells hslots hdg (fun q H1 h1 h2 h3 => kk q H1 locs ls hl ?_ h3)
  have e1 : nq_ws (nq_Ew E (nq_adL (L ++ [q]))) (K ++ [.inr (.inr (ci, fs))]) M = nq_ws (nq_Ew E (nq_adL L)) K M ++ [(q, .inr (ci, fs.mapIdx (nq_fv (fun _ => 0))))] := by
    rw [nq_ws_push hL, hM]; rfl
  exact ⟨e1 ▸ h1, e1 ▸ h2⟩
theorem nq_cls {U : State} {E : Ev} (h : va_K E.1 vwCl (nq_tys E) U) {cA : ClassId} : (∀ t, va_K E.1 vwCl (nq_tys E ++ [(cA, t)]) U → (t = .int → cA = E.2.1 0) ∧ (t = .boolean → cA = E.2.1 1) ∧ (t = .object "NineYears$Text" → cA = E.2.1 2) ∧ (t = .object "NineYears$Sheet" → cA = E.2.1 3)) := by
  intro t h2
  have hn := (h2.2 4 (cA, t) rfl).2
  refine ⟨fun e => ?_, fun e => ?_, fun e => ?_, fun e => ?_⟩
  · subst e
    have h0 := (h.2 0 (E.2.1 0, .int) rfl).2
    exact Option.some.inj (hn.symm.trans h0)
  · subst e
    have h0 := (h.2 1 (E.2.1 1, .boolean) rfl).2
    exact Option.some.inj (hn.symm.trans h0)
  · subst e
    obtain ⟨kA, comp, g1, g2, g3, g4⟩ := hn
    obtain ⟨kB, comp2, k1, k2, k3, k4⟩ := (h.2 2 (E.2.1 2, .object "NineYears$Text") rfl).2
    exact Option.some.inj (g4.symm.trans k4)
  · subst e
    obtain ⟨kA, comp, g1, g2, g3, g4⟩ := hn
    obtain ⟨kB, comp2, k1, k2, k3, k4⟩ := (h.2 3 (E.2.1 3, .object "NineYears$Sheet") rfl).2
    exact Option.some.inj (g4.symm.trans k4)
theorem nq_newaI (hX : nq_OK (nq_X Y cs ss) (nq_Ew E (nq_adL L)) l rm cc nL own ws) (harr : Cond.arrayClass .int ∈ ws) (hA : ∀ q, (nq_Ys Y).heap.size ≤ q → nq_A E q) (hL : L.length = K.length) (hM : M K.length = fun _ => 0) {n : Int32} {N : Nat} (hn : ¬ n < 0) (hN : n.toNatClampNeg = N) (hbytes : N * 4 ≤ 536870912) (hcells : cs + 1 ≤ rm.cells) (hslots : ss + N ≤ rm.slots) (hdg : decode cc pc = .ok (.newarray .int, 2))
    (kk : ∀ q, nq_G (nq_X Y (cs + 1) (ss + N)) (nq_Ew E (nq_adL (L ++ [q]))) nL (pc + 2) lv (.ref q :: st) (K ++ [.inl (0, N)]) M) : nq_G (nq_X Y cs ss) (nq_Ew E (nq_adL L)) nL pc lv (.int n :: st) K M := by
  obtain ⟨p, l', e, R, s, m, args, below, meth, c, Q⟩ := Y
  obtain ⟨hx, hb, hml, hown, hts, hlk, hev, hl', hR, hcs, hss⟩ := hX
  intro H locs ls hl hA' hS
  subst hR
  refine va_newa (atype := .int) (ty := .int) (a0 := (N, .inl (fun _ => 0))) hx hb (hts _ harr) rfl hev.1 hA'.1 hA'.2 hS hA (fun cA => rfl) hn hN hbytes hcells hslots hdg (fun q cA H1 hk h1 h2 h3 => kk q H1 locs ls hl ?_ h3)
  have hcA := (nq_cls (E := nq_Ew E (nq_adL L)) hev.1 _ hk).1 rfl
  subst hcA
  have e1 : nq_ws (nq_Ew E (nq_adL (L ++ [q]))) (K ++ [.inl (0, N)]) M = nq_ws (nq_Ew E (nq_adL L)) K M ++ [(q, .inl (E.2.1 0, N, .inl (fun _ => 0)))] := by
    rw [nq_ws_push hL, hM]; rfl
  exact ⟨e1 ▸ h1, e1 ▸ h2⟩
theorem nq_newaZ (hX : nq_OK (nq_X Y cs ss) (nq_Ew E (nq_adL L)) l rm cc nL own ws) (harr : Cond.arrayClass .boolean ∈ ws) (hA : ∀ q, (nq_Ys Y).heap.size ≤ q → nq_A E q) (hL : L.length = K.length) (hM : M K.length = fun _ => 0) {n : Int32} {N : Nat} (hn : ¬ n < 0) (hN : n.toNatClampNeg = N) (hbytes : N * 1 ≤ 536870912) (hcells : cs + 1 ≤ rm.cells) (hslots : ss + N ≤ rm.slots) (hdg : decode cc pc = .ok (.newarray .boolean, 2))
    (kk : ∀ q, nq_G (nq_X Y (cs + 1) (ss + N)) (nq_Ew E (nq_adL (L ++ [q]))) nL (pc + 2) lv (.ref q :: st) (K ++ [.inl (1, N)]) M) : nq_G (nq_X Y cs ss) (nq_Ew E (nq_adL L)) nL pc lv (.int n :: st) K M := by
  obtain ⟨p, l', e, R, s, m, args, below, meth, c, Q⟩ := Y
  obtain ⟨hx, hb, hml, hown, hts, hlk, hev, hl', hR, hcs, hss⟩ := hX
  intro H locs ls hl hA' hS
  subst hR
  refine va_newa (atype := .boolean) (ty := .boolean) (a0 := (N, .inl (fun _ => 0))) hx hb (hts _ harr) rfl hev.1 hA'.1 hA'.2 hS hA (fun cA => rfl) hn hN hbytes hcells hslots hdg (fun q cA H1 hk h1 h2 h3 => kk q H1 locs ls hl ?_ h3)
  have hcA := (nq_cls (E := nq_Ew E (nq_adL L)) hev.1 _ hk).2.1 rfl
  subst hcA
  have e1 : nq_ws (nq_Ew E (nq_adL (L ++ [q]))) (K ++ [.inl (1, N)]) M = nq_ws (nq_Ew E (nq_adL L)) K M ++ [(q, .inl (E.2.1 1, N, .inl (fun _ => 0)))] := by
    rw [nq_ws_push hL, hM]; rfl
  exact ⟨e1 ▸ h1, e1 ▸ h2⟩
theorem nq_newq (hX : nq_OK (nq_X Y cs ss) (nq_Ew E (nq_adL L)) l rm cc nL own ws) (t : Nat) {C : String} {i : Nat} (ht : (t = 2 ∧ C = "NineYears$Text") ∨ (t = 3 ∧ C = "NineYears$Sheet")) (hover : va_AO C (nq_Ys Y)) (hcl : Cond.classLink own i C ∈ ws) (hA : ∀ q, (nq_Ys Y).heap.size ≤ q → nq_A E q) (hL : L.length = K.length) {n : Int32} {N : Nat} (hn : ¬ n < 0) (hN : n.toNatClampNeg = N) (hbytes : N * 4 ≤ 536870912) (hcells : cs + 1 ≤ rm.cells) (hslots : ss + N ≤ rm.slots) (hdg : decode cc pc = .ok (.anewarray i, 3))
    (kk : ∀ q, nq_G (nq_X Y (cs + 1) (ss + N)) (nq_Ew E (nq_adL (L ++ [q]))) nL (pc + 3) lv (.ref q :: st) (K ++ [.inr (.inl (t, List.replicate N none))]) M) : nq_G (nq_X Y cs ss) (nq_Ew E (nq_adL L)) nL pc lv (.int n :: st) K M := by
  obtain ⟨p, l', e, R, s, m, args, below, meth, c, Q⟩ := Y
  obtain ⟨hx, hb, hml, hown, hts, hlk, hev, hl', hR, hcs, hss⟩ := hX
  intro H locs ls hl hA' hS
  subst hR
  refine va_newq hx hb hown (hts _ hcl) hover hev.1 hA'.1 hA'.2 hS hA hn hN hbytes hcells hslots hdg (fun q cA H1 hk h1 h2 h3 => kk q H1 locs ls hl ?_ h3)
  have hcA : cA = E.2.1 t := by
    rcases ht with ⟨rfl, rfl⟩ | ⟨rfl, rfl⟩
    · exact (nq_cls (E := nq_Ew E (nq_adL L)) hev.1 _ hk).2.2.1 rfl
    · exact (nq_cls (E := nq_Ew E (nq_adL L)) hev.1 _ hk).2.2.2 rfl
  subst hcA
  have e1 : nq_ws (nq_Ew E (nq_adL (L ++ [q]))) (K ++ [.inr (.inl (t, List.replicate N none))]) M = nq_ws (nq_Ew E (nq_adL L)) K M ++ [(q, .inl (E.2.1 t, N, .inr (.inr (.inr (.inr (fun _ => none))))))] := by
    rw [nq_ws_push hL]
    have : (fun i => (List.replicate N (none : Option Nat)).getD i none) = fun _ => none := by
      funext i
      simp only [List.getD]
      cases hq : (List.replicate N (none : Option Nat))[i]? with
      | none => rfl
      | some x =>
        have := List.getElem?_replicate (n := N) (a := (none : Option Nat)) (i := i)
        rw [hq] at this
        split at this
        · cases this; rfl
        · cases this
    simp only [nq_cell, List.length_replicate, this]
  exact ⟨e1 ▸ h1, e1 ▸ h2⟩
end RowsC
theorem nq_ws_setK {E : Ev} {K : List Sh} {M : Mem} {k : Nat} (h : k < K.length) (sh : Sh) : (nq_ws E K M).set k (nq_ad E k, nq_cell E sh (M k)) = nq_ws E (K.set k sh) M := by
  apply List.ext_getElem?
  intro j
  by_cases hj : k = j
  · subst hj
    rw [List.getElem?_set_self (by simpa [nq_ws] using h)]
    unfold nq_ws
    rw [List.getElem?_mapIdx, List.getElem?_set_self h]
    rfl
  · rw [List.getElem?_set_ne hj]
    simp only [nq_ws, List.getElem?_mapIdx, List.getElem?_set_ne hj]
theorem nq_fv_setR {fs : List (Int32 → Value)} {j : Nat} (f : Nat → Int32) (v : Value) (hl : j < fs.length) : (fs.mapIdx (nq_fv f)).set j v = (fs.set j (fun _ => v)).mapIdx (nq_fv f) := by
  apply List.ext_getElem?
  intro i
  by_cases hj : j = i
  · subst hj
    rw [List.getElem?_set_self (by simpa using hl), List.getElem?_mapIdx, List.getElem?_set_self hl]
    rfl
  · rw [List.getElem?_set_ne hj]
    simp only [List.getElem?_mapIdx, List.getElem?_set_ne hj]
def nq_Ini (X : Cx) : Prop := match X with
  | (_, _, _, _, _, _, _, _, meth, _, _, _, _) => meth.name = "<init>"
section RowsD
variable {X : Cx} {E : Ev} {l : Launch} {rm : Room} {cc : ByteArray} {nL pc : Nat} {own : String} {ws : List Cond} {lv : List (Nat × Value)} {st : List Value} {K : List Sh} {M : Mem}
theorem nq_putK (hX : nq_OK X E l rm cc nL own ws) (hI : nq_Ini X) {C : String} {T : u_T} {N ci i : Nat} (k : Nat) {a : Nat} {fs : List (Int32 → Value)} {v : Value} (ha : nq_ad E k = a) (hin : ∀ w ∈ u_ws C T N, w ∈ ws) (ty0 : Nat → FieldType) (hty : ∀ k, k < N → parseFieldDescriptor (T k).2.2.1 = some (ty0 k)) (hnm : ∀ a, a < N → ∀ b, b < N → a ≠ b → (T a).2.1 ≠ (T b).2.1) (hk : K[k]? = some (.inr (.inr (ci, fs)))) (hc : vwCl[ci]? = some (C, T, N)) (j : Nat) (hj : j < N) (hlink : Cond.fieldLink own i (T j).1 (T j).2.1 (T j).2.2.1 ∈ ws) (hdecl : (T j).1 = own) (hn : narrow (ty0 j) v = v) (hfit : fits (ty0 j) v = true) (hl2 : j < fs.length) (hdg : decode cc pc = .ok (.putfield i, 3)) (kk : nq_G X E nL (pc + 3) lv st (K.set k (.inr (.inr (ci, fs.set j (fun _ => v))))) M) : nq_G X E nL pc lv (v :: .ref a :: st) K M := by
  obtain ⟨p, l', e, R, s, m, args, below, meth, c, Q, cs, ss⟩ := X
  obtain ⟨hx, hb, hml, hown, hts, hlk, hev, hl', hR, hcs, hss⟩ := hX
  intro H locs ls hl hA hS
  subst ha
  have hkl : k < K.length := (List.getElem?_eq_some_iff.mp hk).1
  have e1 : (nq_ws E K M).set k (nq_ad E k, .inr (ci, (fs.mapIdx (nq_fv (M k))).set j v)) = nq_ws E (K.set k (.inr (.inr (ci, fs.set j (fun _ => v))))) M := by
    rw [nq_fv_setR _ _ hl2]
    exact nq_ws_setK (E := E) (M := M) hkl (.inr (.inr (ci, fs.set j (fun _ => v))))
  by_cases hfin : (T j).2.2.2 = true
  · refine va_putF hx hb hts hin ty0 hty hnm hown hev.1 hA.1 hA.2 hS k (nq_ws_at hk) hc j hj (hts _ hlink) (fun _ h => h) hfin hI hdecl (hty j hj) hn hfit (by simpa using hl2) hdg (fun H1 locs1 h1 h2 h3 => kk H1 locs1 ls hl ?_ h3)
    rw [e1] at h1 h2
    exact ⟨h1, h2⟩
  · refine va_put hx hb hts hin ty0 hty hnm hown hev.1 hA.1 hA.2 hS k (nq_ws_at hk) hc j hj (hts _ hlink) (fun _ h => h) (by simpa using hfin) (hty j hj) hn hfit (by simpa using hl2) hdg (fun H1 locs1 h1 h2 h3 => kk H1 locs1 ls hl ?_ h3)
    rw [e1] at h1 h2
    exact ⟨h1, h2⟩
theorem nq_astK (hX : nq_OK X E l rm cc nL own ws) (k k2 : Nat) {a b t ci : Nat} {rs : List (Option Nat)} {fs : List (Int32 → Value)} {r : vw_C} {i : Int32} (ha : nq_ad E k = a) (hb2 : nq_ad E k2 = b) (hk : K[k]? = some (.inr (.inl (t, rs)))) (ht : (nq_tys E)[t]? = some (E.2.1 t, .object r.1)) (hk2 : K[k2]? = some (.inr (.inr (ci, fs)))) (hc : vwCl[ci]? = some r) (hin : vp_in i rs.length) (hdg : decode cc pc = .ok (.aastore, 1)) (kk : nq_G X E nL (pc + 1) lv st (K.set k (.inr (.inl (t, rs.set i.toNatClampNeg (some b))))) M) : nq_G X E nL pc lv (.ref b :: .int i :: .ref a :: st) K M := by
  obtain ⟨p, l', e, R, s, m, args, below, meth, c, Q, cs, ss⟩ := X
  obtain ⟨hx, hb, hml, hown, hts, hlk, hev, hl', hR, hcs, hss⟩ := hX
  intro H locs ls hl hA hS
  subst ha; subst hb2
  have hkl : k < K.length := (List.getElem?_eq_some_iff.mp hk).1
  have hil : i.toNatClampNeg < rs.length := by unfold vp_in at hin; omega
  refine va_astq hx hb hev.1 hA.1 hA.2 hS k t k2 ci (nq_ws_at hk) ht (nq_ws_at hk2) hc hin hdg (fun H1 locs1 h1 h2 h3 => kk H1 locs1 ls hl ?_ h3)
  have e0 : va_up (fun i => rs.getD i none) i.toNatClampNeg (some (nq_ad E k2)) = fun j => (rs.set i.toNatClampNeg (some (nq_ad E k2))).getD j none := by
    funext j
    by_cases hj : j = i.toNatClampNeg
    · subst hj; simp [va_up, List.getD, List.getElem?_set_self hil]
    · simp [va_up, List.getD, hj, List.getElem?_set_ne (Ne.symm hj)]
  have e1 : (nq_ws E K M).set k (nq_ad E k, .inl (E.2.1 t, rs.length, .inr (.inr (.inr (.inr (va_up (fun i => rs.getD i none) i.toNatClampNeg (some (nq_ad E k2)))))))) = nq_ws E (K.set k (.inr (.inl (t, rs.set i.toNatClampNeg (some (nq_ad E k2)))))) M := by
    rw [e0, ← nq_ws_setK hkl]
    simp [nq_cell]
  rw [e1] at h1 h2
  exact ⟨h1, h2⟩
theorem nq_objI (hX : nq_OK X E l rm cc nL own ws) {i a : Nat} (h1 : Cond.methodLink own i Lib.objectInit ∈ ws) (h2 : Cond.instanceMethod Lib.objectInit ∈ ws) (h3 : Cond.code Lib.objectInit ⟨#[0xb1]⟩ 1 none ∈ ws) (hrf : 1 ≤ rm.frames) (hrl : 20 ≤ rm.locals) (hW : (st.map fun v => v.category).sum ≤ 8) (hdg : decode cc pc = .ok (.invokespecial i, 3)) (kk : nq_G X E nL (pc + 3) lv st K M) : nq_G X E nL pc lv (.ref a :: st) K M := by
  obtain ⟨p, l', e, R, s, m, args, below, meth, c, Q, cs, ss⟩ := X
  obtain ⟨hx, hb, hml, hown, hts, hlk, hev, hl', hR, hcs, hss⟩ := hX
  intro H locs ls hl hA hS
  subst hR
  have hm := lv_room (m := m) (pc := pc) (ls := ls) (rest := .ref a :: st) hW
  exact W.objInit (g := F0 m pc ls (.ref a :: st)) hx hb hown (hts _ h1) (hts _ h2) (hts _ h3) rfl (hl.1.trans hml.symm) rfl hdg hrf (by omega) (kk H locs ls hl hA hS)
end RowsD
