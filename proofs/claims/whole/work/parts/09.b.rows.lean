/-! 09.b: the law's rows: two worlds side by side -/
def nq_E1 (E : Ev) (L : List Nat) : Ev := (E.1, E.2.1, (fun q => q ∈ L), nq_adL L, E.2.2.2.2)
theorem nq_ws_E1 {E : Ev} {L : List Nat} {K : List Sh} {M : Mem} : nq_ws (nq_E1 E L) K M = nq_ws (nq_Ew E (nq_adL L)) K M := rfl
theorem nq_ws_mem {E : Ev} {L : List Nat} {K : List Sh} {M : Mem} (h : L.length = K.length) {k : Nat} {x : Nat × va_E} (hx : (nq_ws (nq_Ew E (nq_adL L)) K M)[k]? = some x) : x.1 ∈ L := by
  simp only [nq_ws, List.getElem?_mapIdx] at hx
  cases hk : K[k]? with
  | none => rw [hk] at hx; cases hx
  | some sh =>
    rw [hk] at hx
    have hl : k < K.length := (List.getElem?_eq_some_iff.mp hk).1
    cases hx
    show nq_adL L k ∈ L
    simp only [nq_adL, List.getD]
    rw [List.getElem?_eq_getElem (by omega)]
    exact List.getElem_mem _
theorem nq_D_L {E : Ev} {L : List Nat} {K : List Sh} {M : Mem} {A : Nat → Prop} (h : L.length = K.length) (hD : va_D A (nq_ws (nq_Ew E (nq_adL L)) K M)) : ∀ q ∈ L, A q := by
  intro q hq
  obtain ⟨k, hk, e⟩ := List.mem_iff_getElem.mp hq
  obtain ⟨sh, hs⟩ : ∃ sh, K[k]? = some sh := ⟨K[k], List.getElem?_eq_getElem (by omega)⟩
  have h1 := hD.2 k _ (nq_ws_at (E := nq_Ew E (nq_adL L)) (M := M) hs)
  have h2 : nq_adL L k = q := by simp only [nq_adL, List.getD]; rw [List.getElem?_eq_getElem hk]; exact e
  exact h2 ▸ h1
theorem nq_P_l {D : va_G} {a b : va_W} {H : Heap} (h : va_P D vwCl (a ++ b) H) : va_P D vwCl a H := fun k x hx => h k x (by rw [List.getElem?_append_left ((List.getElem?_eq_some_iff.mp hx).1)]; exact hx)
theorem nq_P_r {D : va_G} {a b : va_W} {H : Heap} (h : va_P D vwCl (a ++ b) H) : va_P D vwCl b H := fun k x hx => h (a.length + k) x (by rw [List.getElem?_append_right (by omega), Nat.add_sub_cancel_left]; exact hx)
theorem nq_Dw_l {A : Nat → Prop} {a b : va_W} (h : va_D A (a ++ b)) : va_D A a := ⟨fun i j p q hp hq e => h.1 i j p q (by rw [List.getElem?_append_left ((List.getElem?_eq_some_iff.mp hp).1)]; exact hp) (by rw [List.getElem?_append_left ((List.getElem?_eq_some_iff.mp hq).1)]; exact hq) e, fun k x hx => h.2 k x (by rw [List.getElem?_append_left ((List.getElem?_eq_some_iff.mp hx).1)]; exact hx)⟩
theorem nq_Dw_r {A : Nat → Prop} {a b : va_W} (h : va_D A (a ++ b)) : va_D A b := ⟨fun i j p q hp hq e => by
  have := h.1 (a.length + i) (a.length + j) p q (by rw [List.getElem?_append_right (by omega), Nat.add_sub_cancel_left]; exact hp) (by rw [List.getElem?_append_right (by omega), Nat.add_sub_cancel_left]; exact hq) e
  omega, fun k x hx => h.2 (a.length + k) x (by rw [List.getElem?_append_right (by omega), Nat.add_sub_cancel_left]; exact hx)⟩
theorem nq_Dw_x {A : Nat → Prop} {a b : va_W} (h : va_D A (a ++ b)) {i j : Nat} {p q : Nat × va_E} (hp : a[i]? = some p) (hq : b[j]? = some q) : p.1 ≠ q.1 := by
  intro e
  have h1 := (List.getElem?_eq_some_iff.mp hp).1
  have := h.1 i (a.length + j) p q (by rw [List.getElem?_append_left h1]; exact hp) (by rw [List.getElem?_append_right (by omega), Nat.add_sub_cancel_left]; exact hq) e
  omega
section RowsL
variable {Y : Cy} {E : Ev} {l : Launch} {rm : Room} {cc : ByteArray} {nL pc cs ss : Nat} {own : String} {ws : List Cond} {lv : List (Nat × Value)} {st : List Value} {K1 K2 : List Sh} {M1 M2 : Mem} {L1 L2 : List Nat}
/-- a call on the first world -/
theorem nq_law1 {sf : Value} {rmy : Room} {y : MethodName} {wy wy' : List Cond} {bytes : ByteArray} {maxL i ci N : Nat} {ret : Option FieldType} {As st0 : List Value} {M1' : Mem} {C : String} {T : u_T} {fs : List (Int32 → Value)} (hX : nq_OK (nq_X Y cs ss) (nq_Ew E (nq_adL (L1 ++ L2))) l rm cc nL own ws) (hEA : nq_A E = fun q => (nq_Ys Y).heap.size ≤ q) (hL1 : L1.length = K1.length) (hL2 : L2.length = K2.length) (hM : nq_MA l (nq_E1 E L1) y wy rmy (.ref (nq_adL L1 0) :: As) K1 M1 (some sf) K1 M1') (hG : GoodIn ws (wsV own i C y wy)) (hw : wy = Cond.code y bytes maxL ret :: wy') (hC : y.cls = C)
    (hd : y.cls ≠ "java/lang/invoke/MethodHandle" ∧ y.cls ≠ "java/lang/invoke/VarHandle" ∧ (parseMethodDescriptor y.desc).map (fun d => d.parameters.length) = some As.length) (hroom : rmy.cells = 0 ∧ rmy.slots = 0 ∧ rmy.frames + 1 ≤ rm.frames ∧ 8 + (maxL + 11) + rmy.locals ≤ rm.locals)
    (hk : K1[0]? = some (.inr (.inr (ci, fs)))) (hc : vwCl[ci]? = some (C, T, N)) (hst : st0 = As.reverse ++ .ref (nq_adL L1 0) :: st) (hW : (st.map fun v => v.category).sum ≤ 8) (hdg : decode cc pc = .ok (.invokevirtual i, 3)) (kk : nq_G (nq_X Y cs ss) (nq_Ew E (nq_adL (L1 ++ L2))) nL (pc + 3) lv (sf :: st) (K1 ++ K2) (nq_mg K1.length M1' M2)) : nq_G (nq_X Y cs ss) (nq_Ew E (nq_adL (L1 ++ L2))) nL pc lv st0 (K1 ++ K2) (nq_mg K1.length M1 M2) := by
  obtain ⟨p, l', e, R, s, m, args, below, meth, c, Q⟩ := Y
  obtain ⟨hx, hb, hml, hown, hts, hlk2, hev, hl', hR, hcs, hss⟩ := hX
  intro H locs ls hl hA hS
  subst hR; subst hl'
  have hEA : nq_A E = fun q => s.heap.size ≤ q := hEA
  have hA0 := hA
  unfold nq_AB at hA0
  rw [nq_ws_app hL1] at hA0
  obtain ⟨hP, hD⟩ := hA0
  have hP1 : va_P E.1 vwCl (nq_ws (nq_Ew E (nq_adL L1)) K1 M1) H := nq_P_l hP
  have hP2 : va_P E.1 vwCl (nq_ws (nq_Ew E (nq_adL L2)) K2 M2) H := nq_P_r hP
  have hD1 : va_D (nq_A E) (nq_ws (nq_Ew E (nq_adL L1)) K1 M1) := nq_Dw_l hD
  have hD2 : va_D (nq_A E) (nq_ws (nq_Ew E (nq_adL L2)) K2 M2) := nq_Dw_r hD
  have hsub : ∀ q ∈ L1, nq_A E q := nq_D_L hL1 hD1
  have hab1 : nq_AB (nq_E1 E L1) K1 M1 H := ⟨hP1, hD1.1, fun k x hx => nq_ws_mem hL1 hx⟩
  have hev1 : nq_EV (nq_E1 E L1) s s.heap := nq_EV.narrow (E := E) rfl rfl rfl hsub hev
  have hout : ∀ (k : Nat) (x : Nat × va_E), (nq_ws (nq_Ew E (nq_adL L2)) K2 M2)[k]? = some x → x.1 ∉ L1 := by
    intro k x hx hm
    obtain ⟨j, hj, ej⟩ := List.mem_iff_getElem.mp hm
    obtain ⟨sh, hs⟩ : ∃ sh, K1[j]? = some sh := ⟨K1[j], List.getElem?_eq_getElem (by omega)⟩
    have h2 : nq_adL L1 j = x.1 := by simp only [nq_adL, List.getD]; rw [List.getElem?_eq_getElem hj]; exact ej
    exact nq_Dw_x hD (nq_ws_at (E := nq_Ew E (nq_adL L1)) (M := M1) hs) hx h2
  have hnA : ∀ a : Nat, a < s.heap.size → ¬ nq_A E a := fun a h1 h2 => by rw [hEA] at h2; have h2 : s.heap.size ≤ a := h2; omega
  have hrun := va_runV (p := p) (l := l') (e := e) (R := R) (s := s) (m := m) (args := args) (below := below) (meth := meth) (c := c) (H := H) (locs := locs) (cells := cs) (slots := ss) (g := F0 m pc ls st0) (n := As.length) (As := As) (b := nq_adL L1 0) (C := C) (rest := st) ⟨hx, hb, hml, hown, hts⟩ hM (cwV As.length hts hG hw hroom.1 hroom.2.1 ⟨hC, hd⟩ ⟨hroom.2.2.1, hroom.2.2.2⟩) ⟨nq_blind, va_recv hev1.1 hab1.1 hc (nq_ws_at hk), fun U hU hWm => ⟨rfl, by rw [hU]; exact hev1.warm hWm (fun a h1 h2 => hS.2.1 a h1 (hnA a h1)), by rw [hU]; exact hab1⟩⟩ rfl rfl hl.1 hst (lv_room hW) hdg ⟨hcs, hss⟩
  intro T hT X
  obtain ⟨v, st₀, t, T', Lo, h0, X', hLo, e1, e2, ⟨hv, hab, hz, hkp⟩, stp⟩ := hrun T hT X
  cases hv
  rw [h0] at hz hkp
  have hkp : ∀ z : Nat, z < H.size → ¬ (z ∈ L1) → t.heap[z]? = H[z]? := hkp
  have hfin : nq_AB (nq_Ew E (nq_adL (L1 ++ L2))) (K1 ++ K2) (nq_mg K1.length M1' M2) t.heap := by
    unfold nq_AB
    rw [nq_ws_app hL1]
    obtain ⟨hPn, hDn⟩ := hab
    refine ⟨va_P.app hPn (hP2.kept (fun k x hx => hkp x.1 ((hP2 k x hx).lt) (hout k x hx))), va_D.app ⟨hDn.1, fun k x hx => hsub _ (nq_ws_mem hL1 hx)⟩ hD2 (fun i j a b ha hb hab => ?_)⟩
    exact hout j b hb (hab ▸ nq_ws_mem hL1 ha)
  obtain ⟨t2, a1, b1⟩ := kk T'.heap (locs ++ Lo) ls hl (by rw [e1]; exact hfin)
    ⟨Nat.le_trans hS.1 (by rw [e1]; exact hz), fun z h1 h2 => by rw [e1, hkp z (Nat.lt_of_lt_of_le h1 hS.1) (fun w => h2 (hsub z w))]; exact hS.2.1 z h1 h2, fun z hz' => by
      rcases List.mem_append.mp hz' with h | h
      · exact hS.2.2 z h
      · exact hsub _ (hLo z h)⟩ T' rfl X'
  exact ⟨t2, stp t2 a1, b1⟩
/-- a call on the second world -/
theorem nq_law2 {sf : Value} {rmy : Room} {y : MethodName} {wy wy' : List Cond} {bytes : ByteArray} {maxL i ci N : Nat} {ret : Option FieldType} {As st0 : List Value} {M2' : Mem} {C : String} {T : u_T} {fs : List (Int32 → Value)} (hX : nq_OK (nq_X Y cs ss) (nq_Ew E (nq_adL (L1 ++ L2))) l rm cc nL own ws) (hEA : nq_A E = fun q => (nq_Ys Y).heap.size ≤ q) (hL1 : L1.length = K1.length) (hL2 : L2.length = K2.length) (hM : nq_MA l (nq_E1 E L2) y wy rmy (.ref (nq_adL L2 0) :: As) K2 M2 (some sf) K2 M2') (hG : GoodIn ws (wsV own i C y wy)) (hw : wy = Cond.code y bytes maxL ret :: wy') (hC : y.cls = C)
    (hd : y.cls ≠ "java/lang/invoke/MethodHandle" ∧ y.cls ≠ "java/lang/invoke/VarHandle" ∧ (parseMethodDescriptor y.desc).map (fun d => d.parameters.length) = some As.length) (hroom : rmy.cells = 0 ∧ rmy.slots = 0 ∧ rmy.frames + 1 ≤ rm.frames ∧ 8 + (maxL + 11) + rmy.locals ≤ rm.locals)
    (hk : K2[0]? = some (.inr (.inr (ci, fs)))) (hc : vwCl[ci]? = some (C, T, N)) (hst : st0 = As.reverse ++ .ref (nq_adL L2 0) :: st) (hW : (st.map fun v => v.category).sum ≤ 8) (hdg : decode cc pc = .ok (.invokevirtual i, 3)) (kk : nq_G (nq_X Y cs ss) (nq_Ew E (nq_adL (L1 ++ L2))) nL (pc + 3) lv (sf :: st) (K1 ++ K2) (nq_mg K1.length M1 M2')) : nq_G (nq_X Y cs ss) (nq_Ew E (nq_adL (L1 ++ L2))) nL pc lv st0 (K1 ++ K2) (nq_mg K1.length M1 M2) := by
  obtain ⟨p, l', e, R, s, m, args, below, meth, c, Q⟩ := Y
  obtain ⟨hx, hb, hml, hown, hts, hlk2, hev, hl', hR, hcs, hss⟩ := hX
  intro H locs ls hl hA hS
  subst hR; subst hl'
  have hEA : nq_A E = fun q => s.heap.size ≤ q := hEA
  have hA0 := hA
  unfold nq_AB at hA0
  rw [nq_ws_app hL1] at hA0
  obtain ⟨hP, hD⟩ := hA0
  have hP1 : va_P E.1 vwCl (nq_ws (nq_Ew E (nq_adL L1)) K1 M1) H := nq_P_l hP
  have hP2 : va_P E.1 vwCl (nq_ws (nq_Ew E (nq_adL L2)) K2 M2) H := nq_P_r hP
  have hD1 : va_D (nq_A E) (nq_ws (nq_Ew E (nq_adL L1)) K1 M1) := nq_Dw_l hD
  have hD2 : va_D (nq_A E) (nq_ws (nq_Ew E (nq_adL L2)) K2 M2) := nq_Dw_r hD
  have hsub : ∀ q ∈ L2, nq_A E q := nq_D_L hL2 hD2
  have hab1 : nq_AB (nq_E1 E L2) K2 M2 H := ⟨hP2, hD2.1, fun k x hx => nq_ws_mem hL2 hx⟩
  have hev1 : nq_EV (nq_E1 E L2) s s.heap := nq_EV.narrow (E := E) rfl rfl rfl hsub hev
  have hout : ∀ (k : Nat) (x : Nat × va_E), (nq_ws (nq_Ew E (nq_adL L1)) K1 M1)[k]? = some x → x.1 ∉ L2 := by
    intro k x hx hm
    obtain ⟨j, hj, ej⟩ := List.mem_iff_getElem.mp hm
    obtain ⟨sh, hs⟩ : ∃ sh, K2[j]? = some sh := ⟨K2[j], List.getElem?_eq_getElem (by omega)⟩
    have h2 : nq_adL L2 j = x.1 := by simp only [nq_adL, List.getD]; rw [List.getElem?_eq_getElem hj]; exact ej
    exact nq_Dw_x hD hx (nq_ws_at (E := nq_Ew E (nq_adL L2)) (M := M2) hs) h2.symm
  have hnA : ∀ a : Nat, a < s.heap.size → ¬ nq_A E a := fun a h1 h2 => by rw [hEA] at h2; have h2 : s.heap.size ≤ a := h2; omega
  have hrun := va_runV (p := p) (l := l') (e := e) (R := R) (s := s) (m := m) (args := args) (below := below) (meth := meth) (c := c) (H := H) (locs := locs) (cells := cs) (slots := ss) (g := F0 m pc ls st0) (n := As.length) (As := As) (b := nq_adL L2 0) (C := C) (rest := st) ⟨hx, hb, hml, hown, hts⟩ hM (cwV As.length hts hG hw hroom.1 hroom.2.1 ⟨hC, hd⟩ ⟨hroom.2.2.1, hroom.2.2.2⟩) ⟨nq_blind, va_recv hev1.1 hab1.1 hc (nq_ws_at hk), fun U hU hWm => ⟨rfl, by rw [hU]; exact hev1.warm hWm (fun a h1 h2 => hS.2.1 a h1 (hnA a h1)), by rw [hU]; exact hab1⟩⟩ rfl rfl hl.1 hst (lv_room hW) hdg ⟨hcs, hss⟩
  intro T hT X
  obtain ⟨v, st₀, t, T', Lo, h0, X', hLo, e1, e2, ⟨hv, hab, hz, hkp⟩, stp⟩ := hrun T hT X
  cases hv
  rw [h0] at hz hkp
  have hkp : ∀ z : Nat, z < H.size → ¬ (z ∈ L2) → t.heap[z]? = H[z]? := hkp
  have hfin : nq_AB (nq_Ew E (nq_adL (L1 ++ L2))) (K1 ++ K2) (nq_mg K1.length M1 M2') t.heap := by
    unfold nq_AB
    rw [nq_ws_app hL1]
    obtain ⟨hPn, hDn⟩ := hab
    refine ⟨va_P.app (hP1.kept (fun k x hx => hkp x.1 ((hP1 k x hx).lt) (hout k x hx))) hPn, va_D.app hD1 ⟨hDn.1, fun k x hx => hsub _ (nq_ws_mem hL2 hx)⟩ (fun i j a b ha hb hab => ?_)⟩
    exact hout i a ha (hab ▸ nq_ws_mem hL2 hb)
  obtain ⟨t2, a1, b1⟩ := kk T'.heap (locs ++ Lo) ls hl (by rw [e1]; exact hfin)
    ⟨Nat.le_trans hS.1 (by rw [e1]; exact hz), fun z h1 h2 => by rw [e1, hkp z (Nat.lt_of_lt_of_le h1 hS.1) (fun w => h2 (hsub z w))]; exact hS.2.1 z h1 h2, fun z hz' => by
      rcases List.mem_append.mp hz' with h | h
      · exact hS.2.2 z h
      · exact hsub _ (hLo z h)⟩ T' rfl X'
  exact ⟨t2, stp t2 a1, b1⟩
/-- the script -/
theorem nq_sld {K : List Sh} {M : Mem} {b Ln : Nat} {xs : Nat → Int32} {ix : Int32} (hX : nq_OK (nq_X Y cs ss) E l rm cc nL own ws) (hsc : va_X b Ln xs (nq_Ys Y) (nq_Ys Y).heap) (hbl : b < (nq_Ys Y).heap.size) (hbA : ¬ nq_A E b) (hin : vp_in ix Ln) (hdg : decode cc pc = .ok (.iaload, 1)) (kk : nq_G (nq_X Y cs ss) E nL (pc + 1) lv (.int (xs ix.toNatClampNeg) :: st) K M) : nq_G (nq_X Y cs ss) E nL pc lv (.int ix :: .ref b :: st) K M := by
  obtain ⟨p, l', e, R, s, m, args, below, meth, c, Q⟩ := Y
  obtain ⟨hx, hb, hml, hown, hts, hlk2, hev, hl', hR, hcs, hss⟩ := hX
  intro H locs ls hl hA hS
  exact va_sld hx hb hsc hbl hbA hS hin hdg (kk H locs ls hl hA hS)
theorem nq_slenL {K : List Sh} {M : Mem} {b Ln : Nat} {xs : Nat → Int32} {v : Int32} (hX : nq_OK (nq_X Y cs ss) E l rm cc nL own ws) (hsc : va_X b Ln xs (nq_Ys Y) (nq_Ys Y).heap) (hbl : b < (nq_Ys Y).heap.size) (hbA : ¬ nq_A E b) (hv : Int32.ofNat Ln = v) (hdg : decode cc pc = .ok (.arraylength, 1)) (kk : nq_G (nq_X Y cs ss) E nL (pc + 1) lv (.int v :: st) K M) : nq_G (nq_X Y cs ss) E nL pc lv (.ref b :: st) K M := by
  obtain ⟨p, l', e, R, s, m, args, below, meth, c, Q⟩ := Y
  obtain ⟨hx, hb, hml, hown, hts, hlk2, hev, hl', hR, hcs, hss⟩ := hX
  intro H locs ls hl hA hS
  subst hv
  exact va_slen hx hb hsc hbl hbA hS hdg (kk H locs ls hl hA hS)
end RowsL
