/-! 04.base: a world of cells by places, its memory, and rows that walk a method over it -/
/-- memory: by the place of a cell, and in it by the place of a number -/
abbrev Mem : Type := Nat → Nat → Int32
/-- what a cell is: a row of numbers (array kind, length); a row of references; an object (kind, and what the number of each field means) -/
abbrev Sh : Type := (Nat × Nat) ⊕ ((Nat × List (Option Nat)) ⊕ (Nat × List (Int32 → Value)))
abbrev Cx : Type := Program × Launch × Env × Room × State × MethodId × Array Value × List Frame × Method × Code × (State → Prop) × Nat × Nat
/-- numbers of classes and slots; array kinds; what may change; addresses of the cells; addresses outside; those of the constants' bytes -/
abbrev Ev : Type := va_G × (Nat → ClassId) × (Nat → Prop) × (Nat → Nat) × (Nat → Nat) × (Nat → Nat)
abbrev nq_A (E : Ev) : Nat → Prop := E.2.2.1
abbrev nq_ad (E : Ev) : Nat → Nat := E.2.2.2.1
abbrev nq_xa (E : Ev) : Nat → Nat := E.2.2.2.2.1
abbrev nq_xv (E : Ev) : Nat → Nat := E.2.2.2.2.2
def nq_tys (E : Ev) : List (ClassId × FieldType) := [(E.2.1 0, .int), (E.2.1 1, .boolean), (E.2.1 2, .object "NineYears$Text"), (E.2.1 3, .object "NineYears$Sheet")]
def nq_fv (f : Nat → Int32) (j : Nat) (o : Int32 → Value) : Value := o (f j)
def nq_cell (E : Ev) (sh : Sh) (f : Nat → Int32) : va_E := match sh with
  | .inl (t, n) => .inl (E.2.1 t, n, .inl f)
  | .inr (.inl (t, rs)) => .inl (E.2.1 t, rs.length, .inr (.inr (.inr (.inr (fun i => rs.getD i none)))))
  | .inr (.inr (ci, fs)) => .inr (ci, fs.mapIdx (nq_fv f))
def nq_ws (E : Ev) (K : List Sh) (M : Mem) : va_W := K.mapIdx (fun k sh => (nq_ad E k, nq_cell E sh (M k)))
def nq_AB (E : Ev) (K : List Sh) (M : Mem) (H : Heap) : Prop := va_P E.1 vwCl (nq_ws E K M) H ∧ va_D (nq_A E) (nq_ws E K M)
/-- the two constant rows of the class -/
def nq_kaL : List Int32 := [-1, 0, 1, 0, 0, 3, 0]
def nq_boL : List Int32 := [10, 11, 12, 13, 20, 0, 0, 0, 31, 30, 0, 0, 0, 0, 40, 0, 0, 0, 0, 50, 0, 61, 60, 0, 70, 0, 0, 71]
def nq_ka (j : Nat) : Int32 := nq_kaL.getD j 0
def nq_bo (j : Nat) : Int32 := nq_boL.getD j 0
/-- the constant texts: lengths, bytes -/
def nq_sl : List Nat := [0, 4, 5, 1, 1, 3, 2, 3]
def nq_sb : List (List Int32) := [[], [115, 99, 107, 121], [111, 116, 114, 97, 98], [124], [38], [60, 61, 62], [43, 45], [42, 47, 37]]
def nq_sown (i : Nat) : String := if i = 1 ∨ i = 2 then "NineYears" else "NineYears$Reader"
def nq_sidx : List Nat := [18, 199, 201, 38, 40, 42, 44, 46]
def nq_stx : List String := ["", "scky", "otrab", "|", "&", "<=>", "+-", "*/%"]
def nq_ST (E : Ev) (U : State) (H : Heap) : Prop :=
  (va_Z "NineYears" "KIND_ABOVE" "[I" (.ref (nq_xa E 100)) (nq_A E) U H ∧ va_T .int (nq_xa E 100) 7 (fun j => .int (nq_ka j)) (nq_A E) U H) ∧
  (va_Z "NineYears$Voices" "BODIES" "[I" (.ref (nq_xa E 101)) (nq_A E) U H ∧ va_T .int (nq_xa E 101) 28 (fun j => .int (nq_bo j)) (nq_A E) U H) ∧
  va_Z "java/lang/String" "COMPACT_STRINGS" "Z" (.int 1) (nq_A E) U H ∧
  vk_S 8 nq_sl nq_sb (nq_xa E) (nq_xv E) (nq_A E) U H ∧
  (∀ i, i < 8 → vk_R (nq_sown i) (nq_sidx.getD i 0) (nq_stx.getD i "") (nq_xa E i) U) ∧
  va_Nw (.fieldLinkNest "NineYears$Voices" 36 "NineYears" "KIND_ABOVE" "[I" "NineYears") U
def nq_EV (E : Ev) (U : State) (H : Heap) : Prop := va_K E.1 vwCl (nq_tys E) U ∧ nq_ST E U H
theorem nq_EV.warm {E : Ev} {s U : State} {H H1 : Heap} (hW : s.WarmedH U.vm) (hq : ∀ a : Nat, a < H.size → ¬ nq_A E a → H1[a]? = H[a]?) (h : nq_EV E s H) : nq_EV E U H1 := by
  obtain ⟨hK, ⟨a1, a2⟩, ⟨b1, b2⟩, c1, d1, e1, f1⟩ := h
  exact ⟨va_K.moved hW.alike hK, ⟨(va_Z.moved hW.alike a1).kept hq, (va_T.moved hW.alike a2).kept hq⟩, ⟨(va_Z.moved hW.alike b1).kept hq, (va_T.moved hW.alike b2).kept hq⟩, (va_Z.moved hW.alike c1).kept hq, (vk_S.moved hW.alike d1).kept hq, fun i hi => vk_R.warm hW (e1 i hi), va_Nw.warmF hW f1⟩
theorem nq_EV.same {E : Ev} {s U : State} {H : Heap} (hv : U.vm = s.vm) (h : nq_EV E s H) : nq_EV E U H := by
  have ha : s.vm.Alike U.vm := by rw [hv]; exact Vm.Alike.refl _
  obtain ⟨hK, ⟨a1, a2⟩, ⟨b1, b2⟩, c1, d1, e1, f1⟩ := h
  exact ⟨va_K.moved ha hK, ⟨va_Z.moved ha a1, va_T.moved ha a2⟩, ⟨va_Z.moved ha b1, va_T.moved ha b2⟩, va_Z.moved ha c1, vk_S.moved ha d1, fun i hi => vk_R.same hv (e1 i hi), va_Nw.same rfl hv.symm f1⟩
/-- the machine, the code, the tables' words -/
def nq_OK (X : Cx) (E : Ev) (l : Launch) (rm : Room) (cc : ByteArray) (nL : Nat) (own : String) (ws : List Cond) : Prop := match X with
  | (p, l', _, R, s, m, args, _, meth, c, _, cs, ss) => p.tables.exec = Jvm.exec ∧ c.code = cc ∧ c.maxLocals = nL ∧ s.vm.findClass own = some m.cls ∧ (∀ w ∈ ws, w.before args s = true) ∧ meth.locks = false ∧ nq_EV E s s.heap ∧ l' = l ∧ R = rm ∧ cs ≤ R.cells ∧ ss ≤ R.slots
/-- what is behind a method: its answer, its memory, the rest unchanged -/
def nq_QR (E : Ev) (res : Option Value) (K : List Sh) (M : Mem) : Array Value → State → Outcome → State → Prop := fun _ st oc t => oc = .returned res ∧ nq_AB E K M t.heap ∧ va_F (nq_A E) st t
def nq_RT (X : Cx) (E : Ev) (ret : Option FieldType) (res : Option Value) (K : List Sh) (M : Mem) : Prop := match X with
  | (_, _, _, _, s, _, args, below, meth, _, Q, cs, ss) => meth.sig.returnType = ret ∧ Q = MQ below (nq_QR E res K M) args s cs ss (nq_A E)
/-- the machine at a place of the method, with these locals, this stack, this memory, comes to its end -/
def nq_G (X : Cx) (E : Ev) (nL pc : Nat) (lv : List (Nat × Value)) (st : List Value) (K : List Sh) (M : Mem) : Prop := match X with
  | (p, l, e, R, s, m, args, below, meth, c, Q, cs, ss) => ∀ (H : Heap) (locs : List Loc) (ls : Array Slot), lv_has ls nL lv → nq_AB E K M H → va_S (nq_A E) s.heap H locs → W p l e R s m args below meth c H locs cs ss Q (F0 m pc ls st)
/-- a method's contract over a world -/
def nq_MA (l : Launch) (E : Ev) (y : MethodName) (ws : List Cond) (rm : Room) (av : List Value) (K : List Sh) (M : Mem) (res : Option Value) (K' : List Sh) (M' : Mem) : Prop :=
  Met l y ws rm (va_Pc av (fun U => nq_EV E U U.heap ∧ nq_AB E K M U.heap)) (nq_QR E res K' M') 0 0 (nq_A E)
def nq_rm (n : Nat) : Room := { frames := n, cells := 0, slots := 0, locals := 40 * n }
/-! pure words -/
def nq_wr (M : Mem) (k i : Nat) (v : Int32) : Mem := va_up M k (upd (M k) i v)
def nq_lt {α β : Type} (a : α) (f : α → β) : β := f a
theorem nq_ltE {α β : Type} {a : α} {f : α → β} {r : β} (h : nq_lt a f = r) : ∃ v, v = a ∧ f v = r := ⟨a, rfl, h⟩
def nq_inb (i : Int32) (n : Nat) : Bool := decide (0 ≤ i.toInt) && decide (i.toInt < n)
theorem nq_inbE {i : Int32} {n : Nat} : nq_inb i n = true ↔ vp_in i n := by
  rw [vp_in_iff]; simp [nq_inb]
/-- a number of a row, if there is one such -/
def nq_ag (f : Nat → Int32) (n : Nat) (i : Int32) : Option Int32 := if nq_inb i n then some (f i.toNatClampNeg) else none
theorem nq_agE {β : Type} {f : Nat → Int32} {n : Nat} {i : Int32} {g : Int32 → Option β} {r : β} (h : (nq_ag f n i).bind g = some r) : ∃ v, v = f i.toNatClampNeg ∧ vp_in i n ∧ g v = some r := by
  unfold nq_ag at h
  by_cases hi : nq_inb i n = true
  · rw [if_pos hi] at h; exact ⟨_, rfl, nq_inbE.mp hi, h⟩
  · rw [if_neg hi] at h; cases h
/-- a number of a row is put, if there is such a place -/
def nq_as (M : Mem) (k n : Nat) (i v : Int32) : Option Mem := if nq_inb i n then some (nq_wr M k i.toNatClampNeg v) else none
theorem nq_asE {β : Type} {M : Mem} {k n : Nat} {i v : Int32} {g : Mem → Option β} {r : β} (h : (nq_as M k n i v).bind g = some r) : ∃ M1, M1 = nq_wr M k i.toNatClampNeg v ∧ vp_in i n ∧ g M1 = some r := by
  unfold nq_as at h
  by_cases hi : nq_inb i n = true
  · rw [if_pos hi] at h; exact ⟨_, rfl, nq_inbE.mp hi, h⟩
  · rw [if_neg hi] at h; cases h
/-- two things that came of a call, one behind the other -/
def nq_b2 {α β : Type} (o : Option (α × Mem)) (g : α → Mem → Option β) : Option β := o.bind fun q => g q.1 q.2
theorem nq_b2E {α β : Type} {o : Option (α × Mem)} {g : α → Mem → Option β} {r : β} (h : nq_b2 o g = some r) : ∃ v M1, o = some (v, M1) ∧ g v M1 = some r := by
  cases o with
  | none => cases h
  | some q => exact ⟨q.1, q.2, rfl, h⟩
/-- the place of the i-th of a row of objects that lie two apart -/
def nq_ar (b n : Nat) (i : Int32) : Option Nat := if nq_inb i n then some (b + 2 * i.toNatClampNeg) else none
theorem nq_arE {β : Type} {b n : Nat} {i : Int32} {g : Nat → Option β} {r : β} (h : (nq_ar b n i).bind g = some r) : ∃ q, q = b + 2 * i.toNatClampNeg ∧ vp_in i n ∧ g q = some r := by
  unfold nq_ar at h
  by_cases hi : nq_inb i n = true
  · rw [if_pos hi] at h; exact ⟨_, rfl, nq_inbE.mp hi, h⟩
  · rw [if_neg hi] at h; cases h
def nq_gd (c : Bool) : Option Unit := if c then some () else none
theorem nq_gdE {β : Type} {c : Bool} {g : Unit → Option β} {r : β} (h : (nq_gd c).bind g = some r) : c = true ∧ g () = some r := by
  unfold nq_gd at h
  cases c with
  | true => exact ⟨rfl, h⟩
  | false => cases h
def nq_dv (x y : Int32) : Option Int32 := if y = 0 then none else some (x / y)
def nq_rem (x y : Int32) : Option Int32 := if y = 0 then none else some (x - x / y * y)
def nq_dvL (x y : Int64) : Option Int64 := if y = 0 then none else some (x / y)
def nq_remL (x y : Int64) : Option Int64 := if y = 0 then none else some (x - x / y * y)
theorem nq_ifE {α β : Type} {c : Prop} [Decidable c] {a : α} {g : α → Option β} {r : β} (h : (if c then none else some a : Option α).bind g = some r) : ∃ v, v = a ∧ ¬ c ∧ g v = some r := by
  by_cases hc : c
  · rw [if_pos hc] at h; cases h
  · rw [if_neg hc] at h; exact ⟨a, rfl, hc, h⟩
theorem nq_bE {α β : Type} {o : Option α} {g : α → Option β} {r : β} (h : o.bind g = some r) : ∃ v, o = some v ∧ g v = some r := by
  cases o with
  | none => cases h
  | some v => exact ⟨v, rfl, h⟩
theorem nq_sE {α : Type} {a b : α} (h : some a = some b) : a = b := Option.some.inj h
/-- an answer that its type holds -/
def nq_nz (ty : FieldType) (v : Int32) : Option Int32 := match narrow ty (.int v) with
  | .int w => if w = v then some v else none
  | _ => none
theorem nq_nzE {β : Type} {ty : FieldType} {v : Int32} {g : Int32 → Option β} {r : β} (h : (nq_nz ty v).bind g = some r) : narrow ty (.int v) = .int v ∧ g v = some r := by
  unfold nq_nz at h
  split at h
  · rename_i w hw
    by_cases e : w = v
    · subst e; rw [if_pos rfl] at h; exact ⟨hw, h⟩
    · rw [if_neg e] at h; cases h
  · cases h
theorem nq_tne {x k : Int32} {n : Int} (hk : k.toInt = n) (h : ¬ x = k) : x.toInt ≠ n := fun e => h (Int32.toInt_inj.mp (e.trans hk.symm))
/-- so many numbers of a row are copied to another, if they stand there -/
def nq_cp (M : Mem) (k n : Nat) (sp : Int32) (k2 n2 : Nat) (dp c : Int32) : Option Mem := if (¬ sp < 0 ∧ ¬ dp < 0 ∧ ¬ c < 0) ∧ sp.toNatClampNeg + c.toNatClampNeg ≤ n ∧ dp.toNatClampNeg + c.toNatClampNeg ≤ n2 then some (va_up M k2 (va_cpy (M k) (M k2) sp.toNatClampNeg dp.toNatClampNeg c.toNatClampNeg)) else none
theorem nq_cpE {β : Type} {M : Mem} {k n k2 n2 : Nat} {sp dp c : Int32} {g : Mem → Option β} {r : β} (h : (nq_cp M k n sp k2 n2 dp c).bind g = some r) : ∃ M1, M1 = va_up M k2 (va_cpy (M k) (M k2) sp.toNatClampNeg dp.toNatClampNeg c.toNatClampNeg) ∧ ((¬ sp < 0 ∧ ¬ dp < 0 ∧ ¬ c < 0) ∧ sp.toNatClampNeg + c.toNatClampNeg ≤ n ∧ dp.toNatClampNeg + c.toNatClampNeg ≤ n2) ∧ g M1 = some r := by
  unfold nq_cp at h
  split at h
  · rename_i hc; exact ⟨_, rfl, hc, h⟩
  · cases h
/-- all numbers of a row become one -/
def nq_fl (M : Mem) (k n : Nat) (x : Int32) : Mem := va_up M k (fun j => if j < n then x else M k j)
theorem nq_room {a b maxL : Nat} (h : maxL ≤ 21) (hab : a + 1 ≤ b) : (nq_rm a).cells = 0 ∧ (nq_rm a).slots = 0 ∧ (nq_rm a).frames + 1 ≤ (nq_rm b).frames ∧ 8 + (maxL + 11) + (nq_rm a).locals ≤ (nq_rm b).locals := by
  refine ⟨rfl, rfl, ?_, ?_⟩ <;> simp only [nq_rm] <;> omega
/-- a loop: its body goes on with a state, or is through; so often at most -/
def nq_lp {σ ρ : Type} (body : σ → Option (σ ⊕ ρ)) : Nat → σ → Option ρ
  | 0, _ => none
  | n + 1, s => match body s with
    | none => none
    | some (.inl s') => nq_lp body n s'
    | some (.inr r) => some r
def nq_fuel : Nat := 1000000
theorem nq_lpE {σ ρ : Type} {body : σ → Option (σ ⊕ ρ)} {P : σ → Prop} {r : ρ} (hb : ∀ s x, body s = some x → (∀ s', x = .inl s' → P s') → (∀ r', x = .inr r' → r' = r) → P s) : ∀ (n : Nat) (s : σ), nq_lp body n s = some r → P s := by
  intro n
  induction n with
  | zero => intro s h; cases h
  | succ n ih =>
    intro s h
    unfold nq_lp at h
    cases hx : body s with
    | none => rw [hx] at h; cases h
    | some x =>
      rw [hx] at h
      cases x with
      | inl s' => exact hb s _ hx (fun s2 e => by cases e; exact ih s' h) (fun r' e => by cases e)
      | inr r' => exact hb s _ hx (fun s2 e => by cases e) (fun r2 e => by cases e; exact Option.some.inj h)
/-- a loop's end, by a measure and what stays: what it gives -/
theorem nq_lpI {σ ρ : Type} {body : σ → Option (σ ⊕ ρ)} {r : σ → ρ} (I : σ → Prop) (μ : σ → Nat) (hs : ∀ s, I s → body s = some (.inr (r s)) ∨ ∃ s', body s = some (.inl s') ∧ I s' ∧ μ s' < μ s ∧ r s' = r s) : ∀ (n : Nat) (s : σ), I s → μ s < n → nq_lp body n s = some (r s) := by
  intro n
  induction n with
  | zero => intro s _ h; omega
  | succ n ih =>
    intro s hI hm
    unfold nq_lp
    rcases hs s hI with h | ⟨s', h, hI', hm', hr⟩
    · rw [h]
    · rw [h]
      show nq_lp body n s' = _
      rw [ih s' hI' (by omega), hr]
/-! the world's cells -/
theorem nq_ws_at {E : Ev} {K : List Sh} {M : Mem} {k : Nat} {sh : Sh} (h : K[k]? = some sh) : (nq_ws E K M)[k]? = some (nq_ad E k, nq_cell E sh (M k)) := by
  simp [nq_ws, List.getElem?_mapIdx, h]
theorem nq_ws_set {E : Ev} {K : List Sh} {M : Mem} {k : Nat} {sh : Sh} (h : K[k]? = some sh) (f : Nat → Int32) : (nq_ws E K M).set k (nq_ad E k, nq_cell E sh f) = nq_ws E K (va_up M k f) := by
  apply List.ext_getElem?
  intro j
  by_cases hj : k = j
  · subst hj
    have hl : k < K.length := (List.getElem?_eq_some_iff.mp h).1
    rw [List.getElem?_set_self (by simpa [nq_ws] using hl), nq_ws_at h]
    simp [va_up]
  · rw [List.getElem?_set_ne hj]
    simp only [nq_ws, List.getElem?_mapIdx]
    have : va_up M k f j = M j := by simp [va_up, Ne.symm hj]
    simp [this]
theorem nq_fv_set {fs : List (Int32 → Value)} {j : Nat} {d : Int32 → Value} (h : fs[j]? = some d) (f : Nat → Int32) (v : Int32) : (fs.mapIdx (nq_fv f)).set j (d v) = fs.mapIdx (nq_fv (upd f j v)) := by
  apply List.ext_getElem?
  intro i
  have hl : j < fs.length := (List.getElem?_eq_some_iff.mp h).1
  by_cases hj : j = i
  · subst hj
    rw [List.getElem?_set_self (by simpa using hl), List.getElem?_mapIdx, h]
    simp [nq_fv, upd]
  · rw [List.getElem?_set_ne hj]
    simp only [List.getElem?_mapIdx]
    cases hq : fs[i]? with
    | none => rfl
    | some o => simp [nq_fv, upd, Ne.symm hj]

section RowsA
variable {X : Cx} {E : Ev} {l : Launch} {rm : Room} {cc : ByteArray} {nL pc : Nat} {own : String} {ws : List Cond} {lv : List (Nat × Value)} {st : List Value} {K : List Sh} {M : Mem}
theorem nq_iconst (hX : nq_OK X E l rm cc nL own ws) {n : Int} {v : Int32} (hv : Int32.ofInt n = v) (hdg : decode cc pc = .ok (.iconst n, 1)) (k : nq_G X E nL (pc + 1) lv (.int v :: st) K M) : nq_G X E nL pc lv (st) K M := by
  obtain ⟨p, l', e, R, s, m, args, below, meth, c, Q, cs, ss⟩ := X
  obtain ⟨hx, hb, hml, hown, hts, hlk, hev, hl', hR, hcs, hss⟩ := hX
  intro H locs ls hl hA hS
  exact lv_iconst hx hb hdg hv (k H locs ls hl hA hS)
theorem nq_bipush (hX : nq_OK X E l rm cc nL own ws) {n : Int} {v : Int32} (hv : (Int8.ofInt n).toInt32 = v) (hdg : decode cc pc = .ok (.bipush n, 2)) (k : nq_G X E nL (pc + 2) lv (.int v :: st) K M) : nq_G X E nL pc lv (st) K M := by
  obtain ⟨p, l', e, R, s, m, args, below, meth, c, Q, cs, ss⟩ := X
  obtain ⟨hx, hb, hml, hown, hts, hlk, hev, hl', hR, hcs, hss⟩ := hX
  intro H locs ls hl hA hS
  exact lv_bipush hx hb hdg hv (k H locs ls hl hA hS)
theorem nq_sipush (hX : nq_OK X E l rm cc nL own ws) {n : Int} {v : Int32} (hv : (Int16.ofInt n).toInt32 = v) (hdg : decode cc pc = .ok (.sipush n, 3)) (k : nq_G X E nL (pc + 3) lv (.int v :: st) K M) : nq_G X E nL pc lv (st) K M := by
  obtain ⟨p, l', e, R, s, m, args, below, meth, c, Q, cs, ss⟩ := X
  obtain ⟨hx, hb, hml, hown, hts, hlk, hev, hl', hR, hcs, hss⟩ := hX
  intro H locs ls hl hA hS
  exact lv_sipush hx hb hdg hv (k H locs ls hl hA hS)
theorem nq_lconst (hX : nq_OK X E l rm cc nL own ws) {n : Fin 2} {v : Int64} (hv : Int64.ofNat (n : Nat) = v) (hdg : decode cc pc = .ok (.lconst n, 1)) (k : nq_G X E nL (pc + 1) lv (.long v :: st) K M) : nq_G X E nL pc lv (st) K M := by
  obtain ⟨p, l', e, R, s, m, args, below, meth, c, Q, cs, ss⟩ := X
  obtain ⟨hx, hb, hml, hown, hts, hlk, hev, hl', hR, hcs, hss⟩ := hX
  intro H locs ls hl hA hS
  exact lv_lconst hx hb hdg hv (k H locs ls hl hA hS)
theorem nq_ldc (hX : nq_OK X E l rm cc nL own ws) {v : Int32} {i : Nat} (hc : Cond.constant own i v ∈ ws) (hdg : decode cc pc = .ok (.ldc i, 2)) (k : nq_G X E nL (pc + 2) lv (.int v :: st) K M) : nq_G X E nL pc lv (st) K M := by
  obtain ⟨p, l', e, R, s, m, args, below, meth, c, Q, cs, ss⟩ := X
  obtain ⟨hx, hb, hml, hown, hts, hlk, hev, hl', hR, hcs, hss⟩ := hX
  intro H locs ls hl hA hS
  exact lv_ldc hx hb hown (hts _ hc) hdg (k H locs ls hl hA hS)
theorem nq_ldcw (hX : nq_OK X E l rm cc nL own ws) {v : Int32} {i : Nat} (hc : Cond.constant own i v ∈ ws) (hdg : decode cc pc = .ok (.ldc_w i, 3)) (k : nq_G X E nL (pc + 3) lv (.int v :: st) K M) : nq_G X E nL pc lv (st) K M := by
  obtain ⟨p, l', e, R, s, m, args, below, meth, c, Q, cs, ss⟩ := X
  obtain ⟨hx, hb, hml, hown, hts, hlk, hev, hl', hR, hcs, hss⟩ := hX
  intro H locs ls hl hA hS
  exact lv_ldcw hx hb hown (hts _ hc) hdg (k H locs ls hl hA hS)
theorem nq_ldc2 (hX : nq_OK X E l rm cc nL own ws) {v : Int64} {i : Nat} (hc : Cond.constantLong own i v ∈ ws) (hdg : decode cc pc = .ok (.ldc2_w i, 3)) (k : nq_G X E nL (pc + 3) lv (.long v :: st) K M) : nq_G X E nL pc lv (st) K M := by
  obtain ⟨p, l', e, R, s, m, args, below, meth, c, Q, cs, ss⟩ := X
  obtain ⟨hx, hb, hml, hown, hts, hlk, hev, hl', hR, hcs, hss⟩ := hX
  intro H locs ls hl hA hS
  exact lv_ldc2 hx hb hown (hts _ hc) hdg (k H locs ls hl hA hS)
theorem nq_iload_n (hX : nq_OK X E l rm cc nL own ws) {k4 : Fin 4} {i : Nat} {x : Int32} (hi : (k4 : Nat) = i) (j : Nat) (hj : lv[j]? = some (i, .int x)) (hdg : decode cc pc = .ok (.iload_n k4, 1)) (k : nq_G X E nL (pc + 1) lv (.int x :: st) K M) : nq_G X E nL pc lv (st) K M := by
  obtain ⟨p, l', e, R, s, m, args, below, meth, c, Q, cs, ss⟩ := X
  obtain ⟨hx, hb, hml, hown, hts, hlk, hev, hl', hR, hcs, hss⟩ := hX
  intro H locs ls hl hA hS
  exact lv_iload_n hx hb hdg hi (lv_at hl j hj) (k H locs ls hl hA hS)
theorem nq_iload (hX : nq_OK X E l rm cc nL own ws) {i : Nat} {x : Int32} (j : Nat) (hj : lv[j]? = some (i, .int x)) (hdg : decode cc pc = .ok (.iload i, 2)) (k : nq_G X E nL (pc + 2) lv (.int x :: st) K M) : nq_G X E nL pc lv (st) K M := by
  obtain ⟨p, l', e, R, s, m, args, below, meth, c, Q, cs, ss⟩ := X
  obtain ⟨hx, hb, hml, hown, hts, hlk, hev, hl', hR, hcs, hss⟩ := hX
  intro H locs ls hl hA hS
  exact lv_iload hx hb hdg (lv_at hl j hj) (k H locs ls hl hA hS)
theorem nq_istore_n (hX : nq_OK X E l rm cc nL own ws) {k4 : Fin 4} {i : Nat} {x v : Int32} {lv' : List (Nat × Value)} (hi : (k4 : Nat) = i) (hn : i < nL) (he : v = x) (hlv : (i, Value.int v) :: lv.filter (fun q => !(q.1 == i) && !(q.1 + 1 == i && q.2.category == 2)) = lv') (hdg : decode cc pc = .ok (.istore_n k4, 1)) (k : nq_G X E nL (pc + 1) lv' st K M) : nq_G X E nL pc lv (.int x :: st) K M := by
  obtain ⟨p, l', e, R, s, m, args, below, meth, c, Q, cs, ss⟩ := X
  obtain ⟨hx, hb, hml, hown, hts, hlk, hev, hl', hR, hcs, hss⟩ := hX
  intro H locs ls hl hA hS
  subst he
  exact lv_istore_n hx hb hdg hi hl hn hlv (fun ls hl => k H locs ls hl hA hS)
theorem nq_istore (hX : nq_OK X E l rm cc nL own ws) {i : Nat} {x v : Int32} {lv' : List (Nat × Value)} (hn : i < nL) (he : v = x) (hlv : (i, Value.int v) :: lv.filter (fun q => !(q.1 == i) && !(q.1 + 1 == i && q.2.category == 2)) = lv') (hdg : decode cc pc = .ok (.istore i, 2)) (k : nq_G X E nL (pc + 2) lv' st K M) : nq_G X E nL pc lv (.int x :: st) K M := by
  obtain ⟨p, l', e, R, s, m, args, below, meth, c, Q, cs, ss⟩ := X
  obtain ⟨hx, hb, hml, hown, hts, hlk, hev, hl', hR, hcs, hss⟩ := hX
  intro H locs ls hl hA hS
  subst he
  exact lv_istore hx hb hdg hl hn hlv (fun ls hl => k H locs ls hl hA hS)
theorem nq_lload_n (hX : nq_OK X E l rm cc nL own ws) {k4 : Fin 4} {i : Nat} {x : Int64} (hi : (k4 : Nat) = i) (j : Nat) (hj : lv[j]? = some (i, .long x)) (hdg : decode cc pc = .ok (.lload_n k4, 1)) (k : nq_G X E nL (pc + 1) lv (.long x :: st) K M) : nq_G X E nL pc lv (st) K M := by
  obtain ⟨p, l', e, R, s, m, args, below, meth, c, Q, cs, ss⟩ := X
  obtain ⟨hx, hb, hml, hown, hts, hlk, hev, hl', hR, hcs, hss⟩ := hX
  intro H locs ls hl hA hS
  exact lv_lload_n hx hb hdg hi (lv_at hl j hj) (k H locs ls hl hA hS)
theorem nq_lload (hX : nq_OK X E l rm cc nL own ws) {i : Nat} {x : Int64} (j : Nat) (hj : lv[j]? = some (i, .long x)) (hdg : decode cc pc = .ok (.lload i, 2)) (k : nq_G X E nL (pc + 2) lv (.long x :: st) K M) : nq_G X E nL pc lv (st) K M := by
  obtain ⟨p, l', e, R, s, m, args, below, meth, c, Q, cs, ss⟩ := X
  obtain ⟨hx, hb, hml, hown, hts, hlk, hev, hl', hR, hcs, hss⟩ := hX
  intro H locs ls hl hA hS
  exact lv_lload hx hb hdg (lv_at hl j hj) (k H locs ls hl hA hS)
theorem nq_lstore_n (hX : nq_OK X E l rm cc nL own ws) {k4 : Fin 4} {i : Nat} {x v : Int64} {lv' : List (Nat × Value)} (hi : (k4 : Nat) = i) (hn : i + 1 < nL) (he : v = x) (hlv : (i, Value.long v) :: lv.filter (fun q => !(q.1 == i) && (!(q.1 == i + 1) && !(q.1 + 1 == i && q.2.category == 2))) = lv') (hdg : decode cc pc = .ok (.lstore_n k4, 1)) (k : nq_G X E nL (pc + 1) lv' st K M) : nq_G X E nL pc lv (.long x :: st) K M := by
  obtain ⟨p, l', e, R, s, m, args, below, meth, c, Q, cs, ss⟩ := X
  obtain ⟨hx, hb, hml, hown, hts, hlk, hev, hl', hR, hcs, hss⟩ := hX
  intro H locs ls hl hA hS
  subst he
  exact lv_lstore_n hx hb hdg hi hl hn hlv (fun ls hl => k H locs ls hl hA hS)
theorem nq_lstore (hX : nq_OK X E l rm cc nL own ws) {i : Nat} {x v : Int64} {lv' : List (Nat × Value)} (hn : i + 1 < nL) (he : v = x) (hlv : (i, Value.long v) :: lv.filter (fun q => !(q.1 == i) && (!(q.1 == i + 1) && !(q.1 + 1 == i && q.2.category == 2))) = lv') (hdg : decode cc pc = .ok (.lstore i, 2)) (k : nq_G X E nL (pc + 2) lv' st K M) : nq_G X E nL pc lv (.long x :: st) K M := by
  obtain ⟨p, l', e, R, s, m, args, below, meth, c, Q, cs, ss⟩ := X
  obtain ⟨hx, hb, hml, hown, hts, hlk, hev, hl', hR, hcs, hss⟩ := hX
  intro H locs ls hl hA hS
  subst he
  exact lv_lstore hx hb hdg hl hn hlv (fun ls hl => k H locs ls hl hA hS)
theorem nq_aload_n (hX : nq_OK X E l rm cc nL own ws) {k4 : Fin 4} {i : Nat} {x : Nat} (hi : (k4 : Nat) = i) (j : Nat) (hj : lv[j]? = some (i, .ref x)) (hdg : decode cc pc = .ok (.aload_n k4, 1)) (k : nq_G X E nL (pc + 1) lv (.ref x :: st) K M) : nq_G X E nL pc lv (st) K M := by
  obtain ⟨p, l', e, R, s, m, args, below, meth, c, Q, cs, ss⟩ := X
  obtain ⟨hx, hb, hml, hown, hts, hlk, hev, hl', hR, hcs, hss⟩ := hX
  intro H locs ls hl hA hS
  exact lv_aload_n hx hb hdg hi (lv_at hl j hj) (k H locs ls hl hA hS)
theorem nq_aload (hX : nq_OK X E l rm cc nL own ws) {i : Nat} {x : Nat} (j : Nat) (hj : lv[j]? = some (i, .ref x)) (hdg : decode cc pc = .ok (.aload i, 2)) (k : nq_G X E nL (pc + 2) lv (.ref x :: st) K M) : nq_G X E nL pc lv (st) K M := by
  obtain ⟨p, l', e, R, s, m, args, below, meth, c, Q, cs, ss⟩ := X
  obtain ⟨hx, hb, hml, hown, hts, hlk, hev, hl', hR, hcs, hss⟩ := hX
  intro H locs ls hl hA hS
  exact lv_aload hx hb hdg (lv_at hl j hj) (k H locs ls hl hA hS)
theorem nq_astore_n (hX : nq_OK X E l rm cc nL own ws) {k4 : Fin 4} {i : Nat} {x v : Nat} {lv' : List (Nat × Value)} (hi : (k4 : Nat) = i) (hn : i < nL) (he : v = x) (hlv : (i, Value.ref v) :: lv.filter (fun q => !(q.1 == i) && !(q.1 + 1 == i && q.2.category == 2)) = lv') (hdg : decode cc pc = .ok (.astore_n k4, 1)) (k : nq_G X E nL (pc + 1) lv' st K M) : nq_G X E nL pc lv (.ref x :: st) K M := by
  obtain ⟨p, l', e, R, s, m, args, below, meth, c, Q, cs, ss⟩ := X
  obtain ⟨hx, hb, hml, hown, hts, hlk, hev, hl', hR, hcs, hss⟩ := hX
  intro H locs ls hl hA hS
  subst he
  exact lv_astore_n hx hb hdg hi hl hn hlv (fun ls hl => k H locs ls hl hA hS)
theorem nq_astore (hX : nq_OK X E l rm cc nL own ws) {i : Nat} {x v : Nat} {lv' : List (Nat × Value)} (hn : i < nL) (he : v = x) (hlv : (i, Value.ref v) :: lv.filter (fun q => !(q.1 == i) && !(q.1 + 1 == i && q.2.category == 2)) = lv') (hdg : decode cc pc = .ok (.astore i, 2)) (k : nq_G X E nL (pc + 2) lv' st K M) : nq_G X E nL pc lv (.ref x :: st) K M := by
  obtain ⟨p, l', e, R, s, m, args, below, meth, c, Q, cs, ss⟩ := X
  obtain ⟨hx, hb, hml, hown, hts, hlk, hev, hl', hR, hcs, hss⟩ := hX
  intro H locs ls hl hA hS
  subst he
  exact lv_astore hx hb hdg hl hn hlv (fun ls hl => k H locs ls hl hA hS)
theorem nq_iinc (hX : nq_OK X E l rm cc nL own ws) {i j : Nat} {n : Int} {x v : Int32} {lv' : List (Nat × Value)} (hj : lv[j]? = some (i, .int x)) (he : v = x + Int32.ofInt n) (hn : i < nL) (hlv : (i, Value.int v) :: lv.filter (fun q => !(q.1 == i) && !(q.1 + 1 == i && q.2.category == 2)) = lv') (hdg : decode cc pc = .ok (.iinc i n, 3)) (k : nq_G X E nL (pc + 3) lv' st K M) : nq_G X E nL pc lv st K M := by
  obtain ⟨p, l', e, R, s, m, args, below, meth, c, Q, cs, ss⟩ := X
  obtain ⟨hx, hb, hml, hown, hts, hlk, hev, hl', hR, hcs, hss⟩ := hX
  intro H locs ls hl hA hS
  exact lv_iinc hx hb hdg hl hj he.symm hn hlv (fun ls hl => k H locs ls hl hA hS)
theorem nq_iadd (hX : nq_OK X E l rm cc nL own ws) {x y : Int32} (hdg : decode cc pc = .ok (.iadd, 1)) (k : nq_G X E nL (pc + 1) lv (.int (x + y) :: st) K M) : nq_G X E nL pc lv (.int y :: .int x :: st) K M := by
  obtain ⟨p, l', e, R, s, m, args, below, meth, c, Q, cs, ss⟩ := X
  obtain ⟨hx, hb, hml, hown, hts, hlk, hev, hl', hR, hcs, hss⟩ := hX
  intro H locs ls hl hA hS
  exact lv_iadd hx hb hdg (k H locs ls hl hA hS)
theorem nq_isub (hX : nq_OK X E l rm cc nL own ws) {x y : Int32} (hdg : decode cc pc = .ok (.isub, 1)) (k : nq_G X E nL (pc + 1) lv (.int (x - y) :: st) K M) : nq_G X E nL pc lv (.int y :: .int x :: st) K M := by
  obtain ⟨p, l', e, R, s, m, args, below, meth, c, Q, cs, ss⟩ := X
  obtain ⟨hx, hb, hml, hown, hts, hlk, hev, hl', hR, hcs, hss⟩ := hX
  intro H locs ls hl hA hS
  exact lv_isub hx hb hdg (k H locs ls hl hA hS)
theorem nq_imul (hX : nq_OK X E l rm cc nL own ws) {x y : Int32} (hdg : decode cc pc = .ok (.imul, 1)) (k : nq_G X E nL (pc + 1) lv (.int (x * y) :: st) K M) : nq_G X E nL pc lv (.int y :: .int x :: st) K M := by
  obtain ⟨p, l', e, R, s, m, args, below, meth, c, Q, cs, ss⟩ := X
  obtain ⟨hx, hb, hml, hown, hts, hlk, hev, hl', hR, hcs, hss⟩ := hX
  intro H locs ls hl hA hS
  exact lv_imul hx hb hdg (k H locs ls hl hA hS)
theorem nq_iand (hX : nq_OK X E l rm cc nL own ws) {x y : Int32} (hdg : decode cc pc = .ok (.iand, 1)) (k : nq_G X E nL (pc + 1) lv (.int (x &&& y) :: st) K M) : nq_G X E nL pc lv (.int y :: .int x :: st) K M := by
  obtain ⟨p, l', e, R, s, m, args, below, meth, c, Q, cs, ss⟩ := X
  obtain ⟨hx, hb, hml, hown, hts, hlk, hev, hl', hR, hcs, hss⟩ := hX
  intro H locs ls hl hA hS
  exact lv_iand hx hb hdg (k H locs ls hl hA hS)
theorem nq_ior (hX : nq_OK X E l rm cc nL own ws) {x y : Int32} (hdg : decode cc pc = .ok (.ior, 1)) (k : nq_G X E nL (pc + 1) lv (.int (x ||| y) :: st) K M) : nq_G X E nL pc lv (.int y :: .int x :: st) K M := by
  obtain ⟨p, l', e, R, s, m, args, below, meth, c, Q, cs, ss⟩ := X
  obtain ⟨hx, hb, hml, hown, hts, hlk, hev, hl', hR, hcs, hss⟩ := hX
  intro H locs ls hl hA hS
  exact lv_ior hx hb hdg (k H locs ls hl hA hS)
theorem nq_ixor (hX : nq_OK X E l rm cc nL own ws) {x y : Int32} (hdg : decode cc pc = .ok (.ixor, 1)) (k : nq_G X E nL (pc + 1) lv (.int (x ^^^ y) :: st) K M) : nq_G X E nL pc lv (.int y :: .int x :: st) K M := by
  obtain ⟨p, l', e, R, s, m, args, below, meth, c, Q, cs, ss⟩ := X
  obtain ⟨hx, hb, hml, hown, hts, hlk, hev, hl', hR, hcs, hss⟩ := hX
  intro H locs ls hl hA hS
  exact lv_ixor hx hb hdg (k H locs ls hl hA hS)
theorem nq_ishl (hX : nq_OK X E l rm cc nL own ws) {x y : Int32} (hdg : decode cc pc = .ok (.ishl, 1)) (k : nq_G X E nL (pc + 1) lv (.int (x <<< (y &&& 31)) :: st) K M) : nq_G X E nL pc lv (.int y :: .int x :: st) K M := by
  obtain ⟨p, l', e, R, s, m, args, below, meth, c, Q, cs, ss⟩ := X
  obtain ⟨hx, hb, hml, hown, hts, hlk, hev, hl', hR, hcs, hss⟩ := hX
  intro H locs ls hl hA hS
  exact lv_ishl hx hb hdg (k H locs ls hl hA hS)
theorem nq_ishr (hX : nq_OK X E l rm cc nL own ws) {x y : Int32} (hdg : decode cc pc = .ok (.ishr, 1)) (k : nq_G X E nL (pc + 1) lv (.int (x >>> (y &&& 31)) :: st) K M) : nq_G X E nL pc lv (.int y :: .int x :: st) K M := by
  obtain ⟨p, l', e, R, s, m, args, below, meth, c, Q, cs, ss⟩ := X
  obtain ⟨hx, hb, hml, hown, hts, hlk, hev, hl', hR, hcs, hss⟩ := hX
  intro H locs ls hl hA hS
  exact lv_ishr hx hb hdg (k H locs ls hl hA hS)
theorem nq_ladd (hX : nq_OK X E l rm cc nL own ws) {x y : Int64} (hdg : decode cc pc = .ok (.ladd, 1)) (k : nq_G X E nL (pc + 1) lv (.long (x + y) :: st) K M) : nq_G X E nL pc lv (.long y :: .long x :: st) K M := by
  obtain ⟨p, l', e, R, s, m, args, below, meth, c, Q, cs, ss⟩ := X
  obtain ⟨hx, hb, hml, hown, hts, hlk, hev, hl', hR, hcs, hss⟩ := hX
  intro H locs ls hl hA hS
  exact lv_ladd hx hb hdg (k H locs ls hl hA hS)
theorem nq_lsub (hX : nq_OK X E l rm cc nL own ws) {x y : Int64} (hdg : decode cc pc = .ok (.lsub, 1)) (k : nq_G X E nL (pc + 1) lv (.long (x - y) :: st) K M) : nq_G X E nL pc lv (.long y :: .long x :: st) K M := by
  obtain ⟨p, l', e, R, s, m, args, below, meth, c, Q, cs, ss⟩ := X
  obtain ⟨hx, hb, hml, hown, hts, hlk, hev, hl', hR, hcs, hss⟩ := hX
  intro H locs ls hl hA hS
  exact lv_lsub hx hb hdg (k H locs ls hl hA hS)
theorem nq_lmul (hX : nq_OK X E l rm cc nL own ws) {x y : Int64} (hdg : decode cc pc = .ok (.lmul, 1)) (k : nq_G X E nL (pc + 1) lv (.long (x * y) :: st) K M) : nq_G X E nL pc lv (.long y :: .long x :: st) K M := by
  obtain ⟨p, l', e, R, s, m, args, below, meth, c, Q, cs, ss⟩ := X
  obtain ⟨hx, hb, hml, hown, hts, hlk, hev, hl', hR, hcs, hss⟩ := hX
  intro H locs ls hl hA hS
  exact lv_lmul hx hb hdg (k H locs ls hl hA hS)
theorem nq_land (hX : nq_OK X E l rm cc nL own ws) {x y : Int64} (hdg : decode cc pc = .ok (.land, 1)) (k : nq_G X E nL (pc + 1) lv (.long (x &&& y) :: st) K M) : nq_G X E nL pc lv (.long y :: .long x :: st) K M := by
  obtain ⟨p, l', e, R, s, m, args, below, meth, c, Q, cs, ss⟩ := X
  obtain ⟨hx, hb, hml, hown, hts, hlk, hev, hl', hR, hcs, hss⟩ := hX
  intro H locs ls hl hA hS
  exact lv_land hx hb hdg (k H locs ls hl hA hS)
theorem nq_lor (hX : nq_OK X E l rm cc nL own ws) {x y : Int64} (hdg : decode cc pc = .ok (.lor, 1)) (k : nq_G X E nL (pc + 1) lv (.long (x ||| y) :: st) K M) : nq_G X E nL pc lv (.long y :: .long x :: st) K M := by
  obtain ⟨p, l', e, R, s, m, args, below, meth, c, Q, cs, ss⟩ := X
  obtain ⟨hx, hb, hml, hown, hts, hlk, hev, hl', hR, hcs, hss⟩ := hX
  intro H locs ls hl hA hS
  exact lv_lor hx hb hdg (k H locs ls hl hA hS)
theorem nq_idiv (hX : nq_OK X E l rm cc nL own ws) {x y v : Int32} (hne : ¬ y = 0) (he : v = x / y) (hdg : decode cc pc = .ok (.idiv, 1)) (k : nq_G X E nL (pc + 1) lv (.int v :: st) K M) : nq_G X E nL pc lv (.int y :: .int x :: st) K M := by
  obtain ⟨p, l', e, R, s, m, args, below, meth, c, Q, cs, ss⟩ := X
  obtain ⟨hx, hb, hml, hown, hts, hlk, hev, hl', hR, hcs, hss⟩ := hX
  intro H locs ls hl hA hS
  exact by subst he; exact lv_idiv hx hb hdg hne (k H locs ls hl hA hS)
theorem nq_irem (hX : nq_OK X E l rm cc nL own ws) {x y v : Int32} (hne : ¬ y = 0) (he : v = x - x / y * y) (hdg : decode cc pc = .ok (.irem, 1)) (k : nq_G X E nL (pc + 1) lv (.int v :: st) K M) : nq_G X E nL pc lv (.int y :: .int x :: st) K M := by
  obtain ⟨p, l', e, R, s, m, args, below, meth, c, Q, cs, ss⟩ := X
  obtain ⟨hx, hb, hml, hown, hts, hlk, hev, hl', hR, hcs, hss⟩ := hX
  intro H locs ls hl hA hS
  exact by subst he; exact lv_irem hx hb hdg hne (k H locs ls hl hA hS)
theorem nq_ldiv (hX : nq_OK X E l rm cc nL own ws) {x y v : Int64} (hne : ¬ y = 0) (he : v = x / y) (hdg : decode cc pc = .ok (.ldiv, 1)) (k : nq_G X E nL (pc + 1) lv (.long v :: st) K M) : nq_G X E nL pc lv (.long y :: .long x :: st) K M := by
  obtain ⟨p, l', e, R, s, m, args, below, meth, c, Q, cs, ss⟩ := X
  obtain ⟨hx, hb, hml, hown, hts, hlk, hev, hl', hR, hcs, hss⟩ := hX
  intro H locs ls hl hA hS
  exact by subst he; exact lv_ldiv hx hb hdg hne (k H locs ls hl hA hS)
theorem nq_lrem (hX : nq_OK X E l rm cc nL own ws) {x y v : Int64} (hne : ¬ y = 0) (he : v = x - x / y * y) (hdg : decode cc pc = .ok (.lrem, 1)) (k : nq_G X E nL (pc + 1) lv (.long v :: st) K M) : nq_G X E nL pc lv (.long y :: .long x :: st) K M := by
  obtain ⟨p, l', e, R, s, m, args, below, meth, c, Q, cs, ss⟩ := X
  obtain ⟨hx, hb, hml, hown, hts, hlk, hev, hl', hR, hcs, hss⟩ := hX
  intro H locs ls hl hA hS
  exact by subst he; exact lv_lrem hx hb hdg hne (k H locs ls hl hA hS)
theorem nq_ineg (hX : nq_OK X E l rm cc nL own ws) {x : Int32} (hdg : decode cc pc = .ok (.ineg, 1)) (k : nq_G X E nL (pc + 1) lv (.int (-x) :: st) K M) : nq_G X E nL pc lv (.int x :: st) K M := by
  obtain ⟨p, l', e, R, s, m, args, below, meth, c, Q, cs, ss⟩ := X
  obtain ⟨hx, hb, hml, hown, hts, hlk, hev, hl', hR, hcs, hss⟩ := hX
  intro H locs ls hl hA hS
  exact lv_ineg hx hb hdg (k H locs ls hl hA hS)
theorem nq_lneg (hX : nq_OK X E l rm cc nL own ws) {x : Int64} (hdg : decode cc pc = .ok (.lneg, 1)) (k : nq_G X E nL (pc + 1) lv (.long (-x) :: st) K M) : nq_G X E nL pc lv (.long x :: st) K M := by
  obtain ⟨p, l', e, R, s, m, args, below, meth, c, Q, cs, ss⟩ := X
  obtain ⟨hx, hb, hml, hown, hts, hlk, hev, hl', hR, hcs, hss⟩ := hX
  intro H locs ls hl hA hS
  exact lv_lneg hx hb hdg (k H locs ls hl hA hS)
theorem nq_i2l (hX : nq_OK X E l rm cc nL own ws) {x : Int32} (hdg : decode cc pc = .ok (.i2l, 1)) (k : nq_G X E nL (pc + 1) lv (.long x.toInt64 :: st) K M) : nq_G X E nL pc lv (.int x :: st) K M := by
  obtain ⟨p, l', e, R, s, m, args, below, meth, c, Q, cs, ss⟩ := X
  obtain ⟨hx, hb, hml, hown, hts, hlk, hev, hl', hR, hcs, hss⟩ := hX
  intro H locs ls hl hA hS
  exact lv_i2l hx hb hdg rfl (k H locs ls hl hA hS)
theorem nq_l2i (hX : nq_OK X E l rm cc nL own ws) {x : Int64} (hdg : decode cc pc = .ok (.l2i, 1)) (k : nq_G X E nL (pc + 1) lv (.int x.toInt32 :: st) K M) : nq_G X E nL pc lv (.long x :: st) K M := by
  obtain ⟨p, l', e, R, s, m, args, below, meth, c, Q, cs, ss⟩ := X
  obtain ⟨hx, hb, hml, hown, hts, hlk, hev, hl', hR, hcs, hss⟩ := hX
  intro H locs ls hl hA hS
  exact lv_l2i hx hb hdg rfl (k H locs ls hl hA hS)
theorem nq_i2b (hX : nq_OK X E l rm cc nL own ws) {x : Int32} (hdg : decode cc pc = .ok (.i2b, 1)) (k : nq_G X E nL (pc + 1) lv (.int x.toInt8.toInt32 :: st) K M) : nq_G X E nL pc lv (.int x :: st) K M := by
  obtain ⟨p, l', e, R, s, m, args, below, meth, c, Q, cs, ss⟩ := X
  obtain ⟨hx, hb, hml, hown, hts, hlk, hev, hl', hR, hcs, hss⟩ := hX
  intro H locs ls hl hA hS
  exact lv_i2b hx hb hdg rfl (k H locs ls hl hA hS)
theorem nq_i2s (hX : nq_OK X E l rm cc nL own ws) {x : Int32} (hdg : decode cc pc = .ok (.i2s, 1)) (k : nq_G X E nL (pc + 1) lv (.int x.toInt16.toInt32 :: st) K M) : nq_G X E nL pc lv (.int x :: st) K M := by
  obtain ⟨p, l', e, R, s, m, args, below, meth, c, Q, cs, ss⟩ := X
  obtain ⟨hx, hb, hml, hown, hts, hlk, hev, hl', hR, hcs, hss⟩ := hX
  intro H locs ls hl hA hS
  exact lv_i2s hx hb hdg rfl (k H locs ls hl hA hS)
theorem nq_i2c (hX : nq_OK X E l rm cc nL own ws) {x : Int32} (hdg : decode cc pc = .ok (.i2c, 1)) (k : nq_G X E nL (pc + 1) lv (.int (x.toUInt32 % 65536).toInt32 :: st) K M) : nq_G X E nL pc lv (.int x :: st) K M := by
  obtain ⟨p, l', e, R, s, m, args, below, meth, c, Q, cs, ss⟩ := X
  obtain ⟨hx, hb, hml, hown, hts, hlk, hev, hl', hR, hcs, hss⟩ := hX
  intro H locs ls hl hA hS
  exact lv_i2c hx hb hdg rfl (k H locs ls hl hA hS)
theorem nq_iushr (hX : nq_OK X E l rm cc nL own ws) {x y : Int32} (hdg : decode cc pc = .ok (.iushr, 1)) (k : nq_G X E nL (pc + 1) lv (.int (x.toUInt32 >>> (y.toUInt32 &&& Int32.toUInt32 31)).toInt32 :: st) K M) : nq_G X E nL pc lv (.int y :: .int x :: st) K M := by
  obtain ⟨p, l', e, R, s, m, args, below, meth, c, Q, cs, ss⟩ := X
  obtain ⟨hx, hb, hml, hown, hts, hlk, hev, hl', hR, hcs, hss⟩ := hX
  intro H locs ls hl hA hS
  exact lv_iushr hx hb hdg rfl (k H locs ls hl hA hS)
theorem nq_lushr (hX : nq_OK X E l rm cc nL own ws) {x : Int64} {y : Int32} (hdg : decode cc pc = .ok (.lushr, 1)) (k : nq_G X E nL (pc + 1) lv (.long (x.toUInt64 >>> (y.toInt64.toUInt64 &&& Int64.toUInt64 63)).toInt64 :: st) K M) : nq_G X E nL pc lv (.int y :: .long x :: st) K M := by
  obtain ⟨p, l', e, R, s, m, args, below, meth, c, Q, cs, ss⟩ := X
  obtain ⟨hx, hb, hml, hown, hts, hlk, hev, hl', hR, hcs, hss⟩ := hX
  intro H locs ls hl hA hS
  exact lv_lushr hx hb hdg rfl (k H locs ls hl hA hS)
theorem nq_lshl (hX : nq_OK X E l rm cc nL own ws) {x : Int64} {y : Int32} (hdg : decode cc pc = .ok (.lshl, 1)) (k : nq_G X E nL (pc + 1) lv (.long (x <<< (y.toInt64 &&& 63)) :: st) K M) : nq_G X E nL pc lv (.int y :: .long x :: st) K M := by
  obtain ⟨p, l', e, R, s, m, args, below, meth, c, Q, cs, ss⟩ := X
  obtain ⟨hx, hb, hml, hown, hts, hlk, hev, hl', hR, hcs, hss⟩ := hX
  intro H locs ls hl hA hS
  exact lv_lshl hx hb hdg rfl (k H locs ls hl hA hS)
theorem nq_lshr (hX : nq_OK X E l rm cc nL own ws) {x : Int64} {y : Int32} (hdg : decode cc pc = .ok (.lshr, 1)) (k : nq_G X E nL (pc + 1) lv (.long (x >>> (y.toInt64 &&& 63)) :: st) K M) : nq_G X E nL pc lv (.int y :: .long x :: st) K M := by
  obtain ⟨p, l', e, R, s, m, args, below, meth, c, Q, cs, ss⟩ := X
  obtain ⟨hx, hb, hml, hown, hts, hlk, hev, hl', hR, hcs, hss⟩ := hX
  intro H locs ls hl hA hS
  exact lv_lshr hx hb hdg rfl (k H locs ls hl hA hS)
theorem nq_dup (hX : nq_OK X E l rm cc nL own ws) {va : Value} (hva : va.category = 1) (hdg : decode cc pc = .ok (.dup, 1)) (k : nq_G X E nL (pc + 1) lv (va :: va :: st) K M) : nq_G X E nL pc lv (va :: st) K M := by
  obtain ⟨p, l', e, R, s, m, args, below, meth, c, Q, cs, ss⟩ := X
  obtain ⟨hx, hb, hml, hown, hts, hlk, hev, hl', hR, hcs, hss⟩ := hX
  intro H locs ls hl hA hS
  exact lv_dup hx hb hdg hva (k H locs ls hl hA hS)
theorem nq_pop (hX : nq_OK X E l rm cc nL own ws) {va : Value} (hva : va.category = 1) (hdg : decode cc pc = .ok (.pop, 1)) (k : nq_G X E nL (pc + 1) lv (st) K M) : nq_G X E nL pc lv (va :: st) K M := by
  obtain ⟨p, l', e, R, s, m, args, below, meth, c, Q, cs, ss⟩ := X
  obtain ⟨hx, hb, hml, hown, hts, hlk, hev, hl', hR, hcs, hss⟩ := hX
  intro H locs ls hl hA hS
  exact lv_pop hx hb hdg hva (k H locs ls hl hA hS)
theorem nq_dup2 (hX : nq_OK X E l rm cc nL own ws) {va vb : Value} (hva : va.category = 1) (hvb : vb.category = 1) (hdg : decode cc pc = .ok (.dup2, 1)) (k : nq_G X E nL (pc + 1) lv (va :: vb :: va :: vb :: st) K M) : nq_G X E nL pc lv (va :: vb :: st) K M := by
  obtain ⟨p, l', e, R, s, m, args, below, meth, c, Q, cs, ss⟩ := X
  obtain ⟨hx, hb, hml, hown, hts, hlk, hev, hl', hR, hcs, hss⟩ := hX
  intro H locs ls hl hA hS
  exact lv_dup2_11 hx hb hdg hva hvb (k H locs ls hl hA hS)
theorem nq_goto (hX : nq_OK X E l rm cc nL own ws) {off : Int} {tgt : Nat} (ht : (pc : Int) + off = (tgt : Int)) (hdg : decode cc pc = .ok (.goto off, 3)) (k : nq_G X E nL tgt lv st K M) : nq_G X E nL pc lv st K M := by
  obtain ⟨p, l', e, R, s, m, args, below, meth, c, Q, cs, ss⟩ := X
  obtain ⟨hx, hb, hml, hown, hts, hlk, hev, hl', hR, hcs, hss⟩ := hX
  intro H locs ls hl hA hS
  exact lv_goto hx hb hdg ht (k H locs ls hl hA hS)
theorem nq_if_eq (hX : nq_OK X E l rm cc nL own ws) {x : Int32} {off : Int} {tgt : Nat} (ht : (pc : Int) + off = (tgt : Int)) (hdg : decode cc pc = .ok (.ifCond .eq off, 3)) (kt : x = 0 → nq_G X E nL tgt lv st K M) (kf : ¬ x = 0 → nq_G X E nL (pc + 3) lv st K M) : nq_G X E nL pc lv (.int x :: st) K M := by
  obtain ⟨p, l', e, R, s, m, args, below, meth, c, Q, cs, ss⟩ := X
  obtain ⟨hx, hb, hml, hown, hts, hlk, hev, hl', hR, hcs, hss⟩ := hX
  intro H locs ls hl hA hS
  exact lv_if_eq hx hb hdg ht (fun h => kt h H locs ls hl hA hS) (fun h => kf h H locs ls hl hA hS)
theorem nq_icmp_eq (hX : nq_OK X E l rm cc nL own ws) {x y : Int32} {off : Int} {tgt : Nat} (ht : (pc : Int) + off = (tgt : Int)) (hdg : decode cc pc = .ok (.if_icmp .eq off, 3)) (kt : x = y → nq_G X E nL tgt lv st K M) (kf : ¬ x = y → nq_G X E nL (pc + 3) lv st K M) : nq_G X E nL pc lv (.int y :: .int x :: st) K M := by
  obtain ⟨p, l', e, R, s, m, args, below, meth, c, Q, cs, ss⟩ := X
  obtain ⟨hx, hb, hml, hown, hts, hlk, hev, hl', hR, hcs, hss⟩ := hX
  intro H locs ls hl hA hS
  exact lv_icmp_eq hx hb hdg ht (fun h => kt h H locs ls hl hA hS) (fun h => kf h H locs ls hl hA hS)
theorem nq_if_ne (hX : nq_OK X E l rm cc nL own ws) {x : Int32} {off : Int} {tgt : Nat} (ht : (pc : Int) + off = (tgt : Int)) (hdg : decode cc pc = .ok (.ifCond .ne off, 3)) (kf : x = 0 → nq_G X E nL (pc + 3) lv st K M) (kt : ¬ x = 0 → nq_G X E nL tgt lv st K M) : nq_G X E nL pc lv (.int x :: st) K M := by
  obtain ⟨p, l', e, R, s, m, args, below, meth, c, Q, cs, ss⟩ := X
  obtain ⟨hx, hb, hml, hown, hts, hlk, hev, hl', hR, hcs, hss⟩ := hX
  intro H locs ls hl hA hS
  exact lv_if_ne hx hb hdg ht (fun h => kt h H locs ls hl hA hS) (fun h => kf h H locs ls hl hA hS)
theorem nq_icmp_ne (hX : nq_OK X E l rm cc nL own ws) {x y : Int32} {off : Int} {tgt : Nat} (ht : (pc : Int) + off = (tgt : Int)) (hdg : decode cc pc = .ok (.if_icmp .ne off, 3)) (kf : x = y → nq_G X E nL (pc + 3) lv st K M) (kt : ¬ x = y → nq_G X E nL tgt lv st K M) : nq_G X E nL pc lv (.int y :: .int x :: st) K M := by
  obtain ⟨p, l', e, R, s, m, args, below, meth, c, Q, cs, ss⟩ := X
  obtain ⟨hx, hb, hml, hown, hts, hlk, hev, hl', hR, hcs, hss⟩ := hX
  intro H locs ls hl hA hS
  exact lv_icmp_ne hx hb hdg ht (fun h => kt h H locs ls hl hA hS) (fun h => kf h H locs ls hl hA hS)
theorem nq_if_lt (hX : nq_OK X E l rm cc nL own ws) {x : Int32} {off : Int} {tgt : Nat} (ht : (pc : Int) + off = (tgt : Int)) (hdg : decode cc pc = .ok (.ifCond .lt off, 3)) (kt : x < 0 → nq_G X E nL tgt lv st K M) (kf : ¬ x < 0 → nq_G X E nL (pc + 3) lv st K M) : nq_G X E nL pc lv (.int x :: st) K M := by
  obtain ⟨p, l', e, R, s, m, args, below, meth, c, Q, cs, ss⟩ := X
  obtain ⟨hx, hb, hml, hown, hts, hlk, hev, hl', hR, hcs, hss⟩ := hX
  intro H locs ls hl hA hS
  exact lv_if_lt hx hb hdg ht (fun h => kt h H locs ls hl hA hS) (fun h => kf h H locs ls hl hA hS)
theorem nq_icmp_lt (hX : nq_OK X E l rm cc nL own ws) {x y : Int32} {off : Int} {tgt : Nat} (ht : (pc : Int) + off = (tgt : Int)) (hdg : decode cc pc = .ok (.if_icmp .lt off, 3)) (kt : x < y → nq_G X E nL tgt lv st K M) (kf : ¬ x < y → nq_G X E nL (pc + 3) lv st K M) : nq_G X E nL pc lv (.int y :: .int x :: st) K M := by
  obtain ⟨p, l', e, R, s, m, args, below, meth, c, Q, cs, ss⟩ := X
  obtain ⟨hx, hb, hml, hown, hts, hlk, hev, hl', hR, hcs, hss⟩ := hX
  intro H locs ls hl hA hS
  exact lv_icmp_lt hx hb hdg ht (fun h => kt h H locs ls hl hA hS) (fun h => kf h H locs ls hl hA hS)
theorem nq_if_ge (hX : nq_OK X E l rm cc nL own ws) {x : Int32} {off : Int} {tgt : Nat} (ht : (pc : Int) + off = (tgt : Int)) (hdg : decode cc pc = .ok (.ifCond .ge off, 3)) (kt : 0 ≤ x → nq_G X E nL tgt lv st K M) (kf : ¬ 0 ≤ x → nq_G X E nL (pc + 3) lv st K M) : nq_G X E nL pc lv (.int x :: st) K M := by
  obtain ⟨p, l', e, R, s, m, args, below, meth, c, Q, cs, ss⟩ := X
  obtain ⟨hx, hb, hml, hown, hts, hlk, hev, hl', hR, hcs, hss⟩ := hX
  intro H locs ls hl hA hS
  exact lv_if_ge hx hb hdg ht (fun h => kt h H locs ls hl hA hS) (fun h => kf h H locs ls hl hA hS)
theorem nq_icmp_ge (hX : nq_OK X E l rm cc nL own ws) {x y : Int32} {off : Int} {tgt : Nat} (ht : (pc : Int) + off = (tgt : Int)) (hdg : decode cc pc = .ok (.if_icmp .ge off, 3)) (kt : y ≤ x → nq_G X E nL tgt lv st K M) (kf : ¬ y ≤ x → nq_G X E nL (pc + 3) lv st K M) : nq_G X E nL pc lv (.int y :: .int x :: st) K M := by
  obtain ⟨p, l', e, R, s, m, args, below, meth, c, Q, cs, ss⟩ := X
  obtain ⟨hx, hb, hml, hown, hts, hlk, hev, hl', hR, hcs, hss⟩ := hX
  intro H locs ls hl hA hS
  exact lv_icmp_ge hx hb hdg ht (fun h => kt h H locs ls hl hA hS) (fun h => kf h H locs ls hl hA hS)
theorem nq_if_gt (hX : nq_OK X E l rm cc nL own ws) {x : Int32} {off : Int} {tgt : Nat} (ht : (pc : Int) + off = (tgt : Int)) (hdg : decode cc pc = .ok (.ifCond .gt off, 3)) (kt : 0 < x → nq_G X E nL tgt lv st K M) (kf : ¬ 0 < x → nq_G X E nL (pc + 3) lv st K M) : nq_G X E nL pc lv (.int x :: st) K M := by
  obtain ⟨p, l', e, R, s, m, args, below, meth, c, Q, cs, ss⟩ := X
  obtain ⟨hx, hb, hml, hown, hts, hlk, hev, hl', hR, hcs, hss⟩ := hX
  intro H locs ls hl hA hS
  exact lv_if_gt hx hb hdg ht (fun h => kt h H locs ls hl hA hS) (fun h => kf h H locs ls hl hA hS)
theorem nq_icmp_gt (hX : nq_OK X E l rm cc nL own ws) {x y : Int32} {off : Int} {tgt : Nat} (ht : (pc : Int) + off = (tgt : Int)) (hdg : decode cc pc = .ok (.if_icmp .gt off, 3)) (kt : y < x → nq_G X E nL tgt lv st K M) (kf : ¬ y < x → nq_G X E nL (pc + 3) lv st K M) : nq_G X E nL pc lv (.int y :: .int x :: st) K M := by
  obtain ⟨p, l', e, R, s, m, args, below, meth, c, Q, cs, ss⟩ := X
  obtain ⟨hx, hb, hml, hown, hts, hlk, hev, hl', hR, hcs, hss⟩ := hX
  intro H locs ls hl hA hS
  exact lv_icmp_gt hx hb hdg ht (fun h => kt h H locs ls hl hA hS) (fun h => kf h H locs ls hl hA hS)
theorem nq_if_le (hX : nq_OK X E l rm cc nL own ws) {x : Int32} {off : Int} {tgt : Nat} (ht : (pc : Int) + off = (tgt : Int)) (hdg : decode cc pc = .ok (.ifCond .le off, 3)) (kt : x ≤ 0 → nq_G X E nL tgt lv st K M) (kf : ¬ x ≤ 0 → nq_G X E nL (pc + 3) lv st K M) : nq_G X E nL pc lv (.int x :: st) K M := by
  obtain ⟨p, l', e, R, s, m, args, below, meth, c, Q, cs, ss⟩ := X
  obtain ⟨hx, hb, hml, hown, hts, hlk, hev, hl', hR, hcs, hss⟩ := hX
  intro H locs ls hl hA hS
  exact lv_if_le hx hb hdg ht (fun h => kt h H locs ls hl hA hS) (fun h => kf h H locs ls hl hA hS)
theorem nq_icmp_le (hX : nq_OK X E l rm cc nL own ws) {x y : Int32} {off : Int} {tgt : Nat} (ht : (pc : Int) + off = (tgt : Int)) (hdg : decode cc pc = .ok (.if_icmp .le off, 3)) (kt : x ≤ y → nq_G X E nL tgt lv st K M) (kf : ¬ x ≤ y → nq_G X E nL (pc + 3) lv st K M) : nq_G X E nL pc lv (.int y :: .int x :: st) K M := by
  obtain ⟨p, l', e, R, s, m, args, below, meth, c, Q, cs, ss⟩ := X
  obtain ⟨hx, hb, hml, hown, hts, hlk, hev, hl', hR, hcs, hss⟩ := hX
  intro H locs ls hl hA hS
  exact lv_icmp_le hx hb hdg ht (fun h => kt h H locs ls hl hA hS) (fun h => kf h H locs ls hl hA hS)
theorem nq_lcmp (hX : nq_OK X E l rm cc nL own ws) {x y : Int64} (hdg : decode cc pc = .ok (.lcmp, 1)) (k : nq_G X E nL (pc + 1) lv (.int (lg_cmp x y) :: st) K M) : nq_G X E nL pc lv (.long y :: .long x :: st) K M := by
  obtain ⟨p, l', e, R, s, m, args, below, meth, c, Q, cs, ss⟩ := X
  obtain ⟨hx, hb, hml, hown, hts, hlk, hev, hl', hR, hcs, hss⟩ := hX
  intro H locs ls hl hA hS
  exact W.lcmp hx hb hdg (k H locs ls hl hA hS)
theorem nq_look (hX : nq_OK X E l rm cc nL own ws) {x : Int32} {dflt off : Int} {ps : Array (Int × Int)} {len tgt : Nat} (hdg : decode cc pc = .ok (.lookupswitch dflt ps, len)) (hp : (ps.toList.zip (ps.toList.drop 1)).all (fun (a, next) => a.1 < next.1) = true) (ho : Op.lookupswitch.offset ps.toList dflt x.toInt = off) (ht : (pc : Int) + off = (tgt : Int)) (k : nq_G X E nL tgt lv st K M) : nq_G X E nL pc lv (.int x :: st) K M := by
  obtain ⟨p, l', e, R, s, m, args, below, meth, c, Q, cs, ss⟩ := X
  obtain ⟨hx, hb, hml, hown, hts, hlk, hev, hl', hR, hcs, hss⟩ := hX
  intro H locs ls hl hA hS
  exact lv_lookup hx hb hdg hp ho ht (k H locs ls hl hA hS)
theorem nq_tabO (hX : nq_OK X E l rm cc nL own ws) {x : Int32} {dflt lo hi : Int} {offs : Array Int} {len tgt : Nat} (hdg : decode cc pc = .ok (.tableswitch dflt lo hi offs, len)) (h : x.toInt < lo ∨ hi < x.toInt) (ht : (pc : Int) + dflt = (tgt : Int)) (k : nq_G X E nL tgt lv st K M) : nq_G X E nL pc lv (.int x :: st) K M := by
  obtain ⟨p, l', e, R, s, m, args, below, meth, c, Q, cs, ss⟩ := X
  obtain ⟨hx, hb, hml, hown, hts, hlk, hev, hl', hR, hcs, hss⟩ := hX
  intro H locs ls hl hA hS
  exact lv_tableOut hx hb hdg h ht (k H locs ls hl hA hS)
theorem nq_tabI (hX : nq_OK X E l rm cc nL own ws) {x : Int32} {dflt lo hi off : Int} {offs : Array Int} {len tgt : Nat} (hdg : decode cc pc = .ok (.tableswitch dflt lo hi offs, len)) (h1 : ¬ x.toInt < lo) (h2 : ¬ hi < x.toInt) (ho : offs[(x.toInt - lo).toNat]? = some off) (ht : (pc : Int) + off = (tgt : Int)) (k : nq_G X E nL tgt lv st K M) : nq_G X E nL pc lv (.int x :: st) K M := by
  obtain ⟨p, l', e, R, s, m, args, below, meth, c, Q, cs, ss⟩ := X
  obtain ⟨hx, hb, hml, hown, hts, hlk, hev, hl', hR, hcs, hss⟩ := hX
  intro H locs ls hl hA hS
  exact lv_tableIn hx hb hdg h1 h2 ho ht (k H locs ls hl hA hS)
theorem nq_geti (hX : nq_OK X E l rm cc nL own ws) {C : String} {T : u_T} {N ci i k : Nat} {fs : List (Int32 → Value)} {v : Int32} (hin : ∀ w ∈ u_ws C T N, w ∈ ws) (hk : K[k]? = some (.inr (.inr (ci, fs)))) (hc : vwCl[ci]? = some (C, T, N)) (j : Nat) (hj : j < N) (hlink : Cond.fieldLink own i (T j).1 (T j).2.1 (T j).2.2.1 ∈ ws) (hv : fs[j]? = some Value.int) (he : v = M k j) (hdg : decode cc pc = .ok (.getfield i, 3)) (kk : nq_G X E nL (pc + 3) lv (.int v :: st) K M) : nq_G X E nL pc lv (.ref (nq_ad E k) :: st) K M := by
  obtain ⟨p, l', e, R, s, m, args, below, meth, c, Q, cs, ss⟩ := X
  obtain ⟨hx, hb, hml, hown, hts, hlk, hev, hl', hR, hcs, hss⟩ := hX
  intro H locs ls hl hA hS
  subst he
  refine va_get hx hb hts hin hown hev.1 hA.1 k (nq_ws_at hk) hc j hj (hts _ hlink) (fun _ h => h) (v := .int (M k j)) ?_ hdg (kk H locs ls hl hA hS)
  rw [List.getElem?_mapIdx, hv]; rfl
theorem nq_getr (hX : nq_OK X E l rm cc nL own ws) {C : String} {T : u_T} {N ci i k : Nat} {fs : List (Int32 → Value)} {v : Value} (hin : ∀ w ∈ u_ws C T N, w ∈ ws) (hk : K[k]? = some (.inr (.inr (ci, fs)))) (hc : vwCl[ci]? = some (C, T, N)) (j : Nat) (hj : j < N) (hlink : Cond.fieldLink own i (T j).1 (T j).2.1 (T j).2.2.1 ∈ ws) (d : Int32 → Value) (hv : fs[j]? = some d) (hd : d (M k j) = v) (hdg : decode cc pc = .ok (.getfield i, 3)) (kk : nq_G X E nL (pc + 3) lv (v :: st) K M) : nq_G X E nL pc lv (.ref (nq_ad E k) :: st) K M := by
  obtain ⟨p, l', e, R, s, m, args, below, meth, c, Q, cs, ss⟩ := X
  obtain ⟨hx, hb, hml, hown, hts, hlk, hev, hl', hR, hcs, hss⟩ := hX
  intro H locs ls hl hA hS
  refine va_get hx hb hts hin hown hev.1 hA.1 k (nq_ws_at hk) hc j hj (hts _ hlink) (fun _ h => h) (v := v) ?_ hdg (kk H locs ls hl hA hS)
  rw [List.getElem?_mapIdx, hv, ← hd]; rfl
theorem nq_puti (hX : nq_OK X E l rm cc nL own ws) {C : String} {T : u_T} {N ci i k : Nat} {fs : List (Int32 → Value)} {ty : FieldType} {v : Int32} {M1 : Mem} (hin : ∀ w ∈ u_ws C T N, w ∈ ws) (ty0 : Nat → FieldType) (hty : ∀ k, k < N → parseFieldDescriptor (T k).2.2.1 = some (ty0 k)) (hnm : ∀ a, a < N → ∀ b, b < N → a ≠ b → (T a).2.1 ≠ (T b).2.1) (hk : K[k]? = some (.inr (.inr (ci, fs)))) (hc : vwCl[ci]? = some (C, T, N)) (j : Nat) (hj : j < N) (hlink : Cond.fieldLink own i (T j).1 (T j).2.1 (T j).2.2.1 ∈ ws) (hfin : (T j).2.2.2 = false) (ht : ty0 j = ty) (hn : narrow ty (.int v) = .int v) (hfit : fits ty (.int v) = true) (hv : fs[j]? = some Value.int) (he : M1 = nq_wr M k j v) (hdg : decode cc pc = .ok (.putfield i, 3)) (kk : nq_G X E nL (pc + 3) lv st K M1) : nq_G X E nL pc lv (.int v :: .ref (nq_ad E k) :: st) K M := by
  obtain ⟨p, l', e, R, s, m, args, below, meth, c, Q, cs, ss⟩ := X
  obtain ⟨hx, hb, hml, hown, hts, hlk, hev, hl', hR, hcs, hss⟩ := hX
  intro H locs ls hl hA hS
  subst he
  have hl2 : j < fs.length := (List.getElem?_eq_some_iff.mp hv).1
  refine va_put hx hb hts hin ty0 hty hnm hown hev.1 hA.1 hA.2 hS k (nq_ws_at hk) hc j hj (hts _ hlink) (fun _ h => h) hfin (by rw [← ht]; exact hty j hj) hn hfit (by simpa using hl2) hdg (fun H1 locs1 h1 h2 h3 => kk H1 locs1 ls hl ?_ h3)
  have e1 : (nq_ws E K M).set k (nq_ad E k, .inr (ci, (fs.mapIdx (nq_fv (M k))).set j (.int v))) = nq_ws E K (nq_wr M k j v) := by
    rw [nq_fv_set hv]
    exact nq_ws_set hk (upd (M k) j v)
  rw [e1] at h1 h2
  exact ⟨h1, h2⟩
theorem nq_putr (hX : nq_OK X E l rm cc nL own ws) {C : String} {T : u_T} {N ci i k : Nat} {fs : List (Int32 → Value)} {v : Value} {M1 : Mem} (hin : ∀ w ∈ u_ws C T N, w ∈ ws) (ty0 : Nat → FieldType) (hty : ∀ k, k < N → parseFieldDescriptor (T k).2.2.1 = some (ty0 k)) (hnm : ∀ a, a < N → ∀ b, b < N → a ≠ b → (T a).2.1 ≠ (T b).2.1) (hk : K[k]? = some (.inr (.inr (ci, fs)))) (hc : vwCl[ci]? = some (C, T, N)) (j : Nat) (hj : j < N) (hlink : Cond.fieldLink own i (T j).1 (T j).2.1 (T j).2.2.1 ∈ ws) (hfin : (T j).2.2.2 = false) (hn : narrow (ty0 j) v = v) (hfit : fits (ty0 j) v = true) (d : Int32 → Value) (t : Int32) (hv : fs[j]? = some d) (hd : d t = v) (he : M1 = nq_wr M k j t) (hdg : decode cc pc = .ok (.putfield i, 3)) (kk : nq_G X E nL (pc + 3) lv st K M1) : nq_G X E nL pc lv (v :: .ref (nq_ad E k) :: st) K M := by
  obtain ⟨p, l', e, R, s, m, args, below, meth, c, Q, cs, ss⟩ := X
  obtain ⟨hx, hb, hml, hown, hts, hlk, hev, hl', hR, hcs, hss⟩ := hX
  intro H locs ls hl hA hS
  subst he; subst hd
  have hl2 : j < fs.length := (List.getElem?_eq_some_iff.mp hv).1
  refine va_put hx hb hts hin ty0 hty hnm hown hev.1 hA.1 hA.2 hS k (nq_ws_at hk) hc j hj (hts _ hlink) (fun _ h => h) hfin (hty j hj) hn hfit (by simpa using hl2) hdg (fun H1 locs1 h1 h2 h3 => kk H1 locs1 ls hl ?_ h3)
  have e1 : (nq_ws E K M).set k (nq_ad E k, .inr (ci, (fs.mapIdx (nq_fv (M k))).set j (d t))) = nq_ws E K (nq_wr M k j t) := by
    rw [nq_fv_set hv]
    exact nq_ws_set hk (upd (M k) j t)
  rw [e1] at h1 h2
  exact ⟨h1, h2⟩
theorem nq_iald (hX : nq_OK X E l rm cc nL own ws) {k n : Nat} {i v : Int32} (hk : K[k]? = some (.inl (0, n))) (he : v = M k i.toNatClampNeg) (hin : vp_in i n) (hdg : decode cc pc = .ok (.iaload, 1)) (kk : nq_G X E nL (pc + 1) lv (.int v :: st) K M) : nq_G X E nL pc lv (.int i :: .ref (nq_ad E k) :: st) K M := by
  obtain ⟨p, l', e, R, s, m, args, below, meth, c, Q, cs, ss⟩ := X
  obtain ⟨hx, hb, hml, hown, hts, hlk, hev, hl', hR, hcs, hss⟩ := hX
  intro H locs ls hl hA hS
  subst he
  exact va_iald hx hb hev.1 hA.1 k 0 (nq_ws_at hk) rfl hin hdg (kk H locs ls hl hA hS)
theorem nq_zald (hX : nq_OK X E l rm cc nL own ws) {k n : Nat} {i v : Int32} (hk : K[k]? = some (.inl (1, n))) (he : v = M k i.toNatClampNeg) (hin : vp_in i n) (hdg : decode cc pc = .ok (.baload, 1)) (kk : nq_G X E nL (pc + 1) lv (.int v :: st) K M) : nq_G X E nL pc lv (.int i :: .ref (nq_ad E k) :: st) K M := by
  obtain ⟨p, l', e, R, s, m, args, below, meth, c, Q, cs, ss⟩ := X
  obtain ⟨hx, hb, hml, hown, hts, hlk, hev, hl', hR, hcs, hss⟩ := hX
  intro H locs ls hl hA hS
  subst he
  exact va_zald hx hb hev.1 hA.1 k 1 (nq_ws_at hk) rfl hin hdg (kk H locs ls hl hA hS)
theorem nq_iast (hX : nq_OK X E l rm cc nL own ws) {k n : Nat} {i v : Int32} {M1 : Mem} (hk : K[k]? = some (.inl (0, n))) (he : M1 = nq_wr M k i.toNatClampNeg v) (hin : vp_in i n) (hdg : decode cc pc = .ok (.iastore, 1)) (kk : nq_G X E nL (pc + 1) lv st K M1) : nq_G X E nL pc lv (.int v :: .int i :: .ref (nq_ad E k) :: st) K M := by
  obtain ⟨p, l', e, R, s, m, args, below, meth, c, Q, cs, ss⟩ := X
  obtain ⟨hx, hb, hml, hown, hts, hlk, hev, hl', hR, hcs, hss⟩ := hX
  intro H locs ls hl hA hS
  subst he
  refine va_iast hx hb hev.1 hA.1 hA.2 hS k 0 (nq_ws_at hk) rfl hin hdg (fun H1 locs1 h1 h2 h3 => kk H1 locs1 ls hl ?_ h3)
  have e1 := nq_ws_set (E := E) (M := M) hk (upd (M k) i.toNatClampNeg v)
  exact ⟨e1 ▸ h1, e1 ▸ h2⟩
theorem nq_zast (hX : nq_OK X E l rm cc nL own ws) {k n : Nat} {i v : Int32} {M1 : Mem} (hk : K[k]? = some (.inl (1, n))) (hn : vp_nar .boolean v = v) (he : M1 = nq_wr M k i.toNatClampNeg v) (hin : vp_in i n) (hdg : decode cc pc = .ok (.bastore, 1)) (kk : nq_G X E nL (pc + 1) lv st K M1) : nq_G X E nL pc lv (.int v :: .int i :: .ref (nq_ad E k) :: st) K M := by
  obtain ⟨p, l', e, R, s, m, args, below, meth, c, Q, cs, ss⟩ := X
  obtain ⟨hx, hb, hml, hown, hts, hlk, hev, hl', hR, hcs, hss⟩ := hX
  intro H locs ls hl hA hS
  subst he
  refine va_zast hx hb hev.1 hA.1 hA.2 hS k 1 (nq_ws_at hk) rfl hin hdg (fun H1 locs1 h1 h2 h3 => kk H1 locs1 ls hl ?_ h3)
  rw [hn] at h1 h2
  have e1 := nq_ws_set (E := E) (M := M) hk (upd (M k) i.toNatClampNeg v)
  exact ⟨e1 ▸ h1, e1 ▸ h2⟩
theorem nq_aald (hX : nq_OK X E l rm cc nL own ws) {k t q : Nat} {C : String} {rs : List (Option Nat)} {i : Int32} (hk : K[k]? = some (.inr (.inl (t, rs)))) (ht : (nq_tys E)[t]? = some (E.2.1 t, .object C)) (hin : vp_in i rs.length) (hq : rs.getD i.toNatClampNeg none = some (nq_ad E q)) (hdg : decode cc pc = .ok (.aaload, 1)) (kk : nq_G X E nL (pc + 1) lv (.ref (nq_ad E q) :: st) K M) : nq_G X E nL pc lv (.int i :: .ref (nq_ad E k) :: st) K M := by
  obtain ⟨p, l', e, R, s, m, args, below, meth, c, Q, cs, ss⟩ := X
  obtain ⟨hx, hb, hml, hown, hts, hlk, hev, hl', hR, hcs, hss⟩ := hX
  intro H locs ls hl hA hS
  refine va_aldq hx hb hev.1 hA.1 k t (nq_ws_at hk) ht hin hdg ?_
  have h1 := kk H locs ls hl hA hS
  simp only [hq]
  exact h1
theorem nq_alen (hX : nq_OK X E l rm cc nL own ws) {k t n : Nat} {v : Int32} {ty : FieldType} (hk : K[k]? = some (.inl (t, n))) (ht : (nq_tys E)[t]? = some (E.2.1 t, ty)) (hv : Int32.ofNat n = v) (hdg : decode cc pc = .ok (.arraylength, 1)) (kk : nq_G X E nL (pc + 1) lv (.int v :: st) K M) : nq_G X E nL pc lv (.ref (nq_ad E k) :: st) K M := by
  obtain ⟨p, l', e, R, s, m, args, below, meth, c, Q, cs, ss⟩ := X
  obtain ⟨hx, hb, hml, hown, hts, hlk, hev, hl', hR, hcs, hss⟩ := hX
  intro H locs ls hl hA hS
  exact va_alen hx hb hev.1 hA.1 k t (nq_ws_at hk) ht hv hdg (kk H locs ls hl hA hS)
theorem nq_getsKA (hX : nq_OK X E l rm cc nL own ws) {i : Nat} (hlink : Cond.fieldLink own i "NineYears" "KIND_ABOVE" "[I" ∈ ws) (hdg : decode cc pc = .ok (.getstatic i, 3)) (kk : nq_G X E nL (pc + 3) lv (.ref (nq_xa E 100) :: st) K M) : nq_G X E nL pc lv st K M := by
  obtain ⟨p, l', e, R, s, m, args, below, meth, c, Q, cs, ss⟩ := X
  obtain ⟨hx, hb, hml, hown, hts, hlk, hev, hl', hR, hcs, hss⟩ := hX
  intro H locs ls hl hA hS
  exact va_gets hx hb hev.2.1.1 hS hown (hts _ hlink) (fun _ h => h) hdg (kk H locs ls hl hA hS)
theorem nq_tiKA (hX : nq_OK X E l rm cc nL own ws) {i v : Int32} (he : v = nq_ka i.toNatClampNeg) (hin : vp_in i 7) (hdg : decode cc pc = .ok (.iaload, 1)) (kk : nq_G X E nL (pc + 1) lv (.int v :: st) K M) : nq_G X E nL pc lv (.int i :: .ref (nq_xa E 100) :: st) K M := by
  obtain ⟨p, l', e, R, s, m, args, below, meth, c, Q, cs, ss⟩ := X
  obtain ⟨hx, hb, hml, hown, hts, hlk, hev, hl', hR, hcs, hss⟩ := hX
  intro H locs ls hl hA hS
  subst he
  exact va_ti hx hb hev.2.1.2 hS hin rfl hdg (kk H locs ls hl hA hS)
theorem nq_tlKA (hX : nq_OK X E l rm cc nL own ws) {v : Int32} (hv : Int32.ofNat 7 = v) (hdg : decode cc pc = .ok (.arraylength, 1)) (kk : nq_G X E nL (pc + 1) lv (.int v :: st) K M) : nq_G X E nL pc lv (.ref (nq_xa E 100) :: st) K M := by
  obtain ⟨p, l', e, R, s, m, args, below, meth, c, Q, cs, ss⟩ := X
  obtain ⟨hx, hb, hml, hown, hts, hlk, hev, hl', hR, hcs, hss⟩ := hX
  intro H locs ls hl hA hS
  exact va_tlen hx hb hev.2.1.2 hS hv hdg (kk H locs ls hl hA hS)
theorem nq_getsBO (hX : nq_OK X E l rm cc nL own ws) {i : Nat} (hlink : Cond.fieldLink own i "NineYears$Voices" "BODIES" "[I" ∈ ws) (hdg : decode cc pc = .ok (.getstatic i, 3)) (kk : nq_G X E nL (pc + 3) lv (.ref (nq_xa E 101) :: st) K M) : nq_G X E nL pc lv st K M := by
  obtain ⟨p, l', e, R, s, m, args, below, meth, c, Q, cs, ss⟩ := X
  obtain ⟨hx, hb, hml, hown, hts, hlk, hev, hl', hR, hcs, hss⟩ := hX
  intro H locs ls hl hA hS
  exact va_gets hx hb hev.2.2.1.1 hS hown (hts _ hlink) (fun _ h => h) hdg (kk H locs ls hl hA hS)
theorem nq_tiBO (hX : nq_OK X E l rm cc nL own ws) {i v : Int32} (he : v = nq_bo i.toNatClampNeg) (hin : vp_in i 28) (hdg : decode cc pc = .ok (.iaload, 1)) (kk : nq_G X E nL (pc + 1) lv (.int v :: st) K M) : nq_G X E nL pc lv (.int i :: .ref (nq_xa E 101) :: st) K M := by
  obtain ⟨p, l', e, R, s, m, args, below, meth, c, Q, cs, ss⟩ := X
  obtain ⟨hx, hb, hml, hown, hts, hlk, hev, hl', hR, hcs, hss⟩ := hX
  intro H locs ls hl hA hS
  subst he
  exact va_ti hx hb hev.2.2.1.2 hS hin rfl hdg (kk H locs ls hl hA hS)
theorem nq_tlBO (hX : nq_OK X E l rm cc nL own ws) {v : Int32} (hv : Int32.ofNat 28 = v) (hdg : decode cc pc = .ok (.arraylength, 1)) (kk : nq_G X E nL (pc + 1) lv (.int v :: st) K M) : nq_G X E nL pc lv (.ref (nq_xa E 101) :: st) K M := by
  obtain ⟨p, l', e, R, s, m, args, below, meth, c, Q, cs, ss⟩ := X
  obtain ⟨hx, hb, hml, hown, hts, hlk, hev, hl', hR, hcs, hss⟩ := hX
  intro H locs ls hl hA hS
  exact va_tlen hx hb hev.2.2.1.2 hS hv hdg (kk H locs ls hl hA hS)
theorem nq_getsKAN (hX : nq_OK X E l rm cc nL own ws) (hown2 : own = "NineYears$Voices") (hdg : decode cc pc = .ok (.getstatic 36, 3)) (kk : nq_G X E nL (pc + 3) lv (.ref (nq_xa E 100) :: st) K M) : nq_G X E nL pc lv st K M := by
  obtain ⟨p, l', e, R, s, m, args, below, meth, c, Q, cs, ss⟩ := X
  obtain ⟨hx, hb, hml, hown, hts, hlk, hev, hl', hR, hcs, hss⟩ := hX
  intro H locs ls hl hA hS
  subst hown2
  exact va_getsN hx hb hev.2.1.1 hS hown (va_Nw.use rfl hev.2.2.2.2.2.2) (fun _ h => h) hdg (kk H locs ls hl hA hS)
theorem nq_iret (hX : nq_OK X E l rm cc nL own ws) {v : Int32} (hr : nq_RT X E (some .int) (some (.int v)) K M) (hdg : decode cc pc = .ok (.ireturn, 1)) : nq_G X E nL pc lv [.int v] K M := by
  obtain ⟨p, l', e, R, s, m, args, below, meth, c, Q, cs, ss⟩ := X
  obtain ⟨hx, hb, hml, hown, hts, hlk, hev, hl', hR, hcs, hss⟩ := hX
  intro H locs ls hl hA hS
  obtain ⟨hr, hQ⟩ := hr
  subst hQ
  exact W.iret hx hb hr (fun t ht _ => ⟨rfl, by rw [ht]; exact hA, hS.F ht⟩) hS.2.2 hdg hlk
theorem nq_zret (hX : nq_OK X E l rm cc nL own ws) {v : Int32} {ty : FieldType} (hr : nq_RT X E (some ty) (some (.int v)) K M) (hn : narrow ty (.int v) = .int v) (hdg : decode cc pc = .ok (.ireturn, 1)) : nq_G X E nL pc lv [.int v] K M := by
  obtain ⟨p, l', e, R, s, m, args, below, meth, c, Q, cs, ss⟩ := X
  obtain ⟨hx, hb, hml, hown, hts, hlk, hev, hl', hR, hcs, hss⟩ := hX
  intro H locs ls hl hA hS
  obtain ⟨hr, hQ⟩ := hr
  subst hQ
  exact W.zret hx hb hr hn (fun t ht _ => ⟨rfl, by rw [ht]; exact hA, hS.F ht⟩) hS.2.2 hdg hlk
theorem nq_lret (hX : nq_OK X E l rm cc nL own ws) {v : Int64} (hr : nq_RT X E (some .long) (some (.long v)) K M) (hdg : decode cc pc = .ok (.lreturn, 1)) : nq_G X E nL pc lv [.long v] K M := by
  obtain ⟨p, l', e, R, s, m, args, below, meth, c, Q, cs, ss⟩ := X
  obtain ⟨hx, hb, hml, hown, hts, hlk, hev, hl', hR, hcs, hss⟩ := hX
  intro H locs ls hl hA hS
  obtain ⟨hr, hQ⟩ := hr
  subst hQ
  exact W.lret hx hb hr (fun t ht _ => ⟨rfl, by rw [ht]; exact hA, hS.F ht⟩) hS.2.2 hdg hlk
theorem nq_vret (hX : nq_OK X E l rm cc nL own ws) (hr : nq_RT X E none none K M) (hdg : decode cc pc = .ok (.return_, 1)) : nq_G X E nL pc lv [] K M := by
  obtain ⟨p, l', e, R, s, m, args, below, meth, c, Q, cs, ss⟩ := X
  obtain ⟨hx, hb, hml, hown, hts, hlk, hev, hl', hR, hcs, hss⟩ := hX
  intro H locs ls hl hA hS
  obtain ⟨hr, hQ⟩ := hr
  subst hQ
  exact W.vret hx hb hr (fun t ht _ => ⟨rfl, by rw [ht]; exact hA, hS.F ht⟩) hS.2.2 hdg hlk
theorem nq_mmax (hX : nq_OK X E l rm cc nL own ws) {i : Nat} {x y : Int32} (h1 : Cond.methodLink own i Lib.Math.max.name ∈ ws) (h2 : Cond.static Lib.Math.max.name ∈ ws) (h3 : Cond.initialized "java/lang/Math" ∈ ws) (h4 : Cond.code Lib.Math.max.name Lib.Math.max.code 2 (some .int) ∈ ws) (hrf : 1 ≤ rm.frames) (hrl : (st.map fun v => v.category).sum + 15 ≤ rm.locals) (hdg : decode cc pc = .ok (.invokestatic i, 3)) (kk : nq_G X E nL (pc + 3) lv (.int (if x < y then y else x) :: st) K M) : nq_G X E nL pc lv (.int y :: .int x :: st) K M := by
  obtain ⟨p, l', e, R, s, m, args, below, meth, c, Q, cs, ss⟩ := X
  obtain ⟨hx, hb, hml, hown, hts, hlk, hev, hl', hR, hcs, hss⟩ := hX
  intro H locs ls hl hA hS
  subst hR
  exact va_mmax hx hb (hml.trans hl.1.symm) hown (hts _ h1) (hts _ h2) (hts _ h3) (hts _ h4) hrf (by omega) hcs hss hdg (kk H locs ls hl hA hS)
theorem nq_mmin (hX : nq_OK X E l rm cc nL own ws) {i : Nat} {x y : Int32} (h1 : Cond.methodLink own i Lib.Math.min.name ∈ ws) (h2 : Cond.static Lib.Math.min.name ∈ ws) (h3 : Cond.initialized "java/lang/Math" ∈ ws) (h4 : Cond.code Lib.Math.min.name Lib.Math.min.code 2 (some .int) ∈ ws) (hrf : 1 ≤ rm.frames) (hrl : (st.map fun v => v.category).sum + 15 ≤ rm.locals) (hdg : decode cc pc = .ok (.invokestatic i, 3)) (kk : nq_G X E nL (pc + 3) lv (.int (if y < x then y else x) :: st) K M) : nq_G X E nL pc lv (.int y :: .int x :: st) K M := by
  obtain ⟨p, l', e, R, s, m, args, below, meth, c, Q, cs, ss⟩ := X
  obtain ⟨hx, hb, hml, hown, hts, hlk, hev, hl', hR, hcs, hss⟩ := hX
  intro H locs ls hl hA hS
  subst hR
  exact va_mmin hx hb (hml.trans hl.1.symm) hown (hts _ h1) (hts _ h2) (hts _ h3) (hts _ h4) hrf (by omega) hcs hss hdg (kk H locs ls hl hA hS)
theorem nq_mmaxl (hX : nq_OK X E l rm cc nL own ws) {i : Nat} {x y : Int64} (h1 : Cond.methodLink own i Lib.MathLoose.max_long.x ∈ ws) (h2 : Cond.static Lib.MathLoose.max_long.x ∈ ws) (h3 : Cond.initialized "java/lang/Math" ∈ ws) (h4 : Cond.code Lib.MathLoose.max_long.x Lib.MathLoose.max_long.code 4 (some .long) ∈ ws) (hrf : 1 ≤ rm.frames) (hrl : (st.map fun v => v.category).sum + 15 ≤ rm.locals) (hdg : decode cc pc = .ok (.invokestatic i, 3)) (kk : nq_G X E nL (pc + 3) lv (.long (if y < x then x else y) :: st) K M) : nq_G X E nL pc lv (.long y :: .long x :: st) K M := by
  obtain ⟨p, l', e, R, s, m, args, below, meth, c, Q, cs, ss⟩ := X
  obtain ⟨hx, hb, hml, hown, hts, hlk, hev, hl', hR, hcs, hss⟩ := hX
  intro H locs ls hl hA hS
  subst hR
  exact va_mmax_long hx hb (hml.trans hl.1.symm) hown (hts _ h1) (hts _ h2) (hts _ h3) (hts _ h4) hrf (by omega) hcs hss hdg (kk H locs ls hl hA hS)
theorem nq_mabsl (hX : nq_OK X E l rm cc nL own ws) {i : Nat} {x : Int64} (h1 : Cond.methodLink own i Lib.MathLoose.abs_long.x ∈ ws) (h2 : Cond.static Lib.MathLoose.abs_long.x ∈ ws) (h3 : Cond.initialized "java/lang/Math" ∈ ws) (h4 : Cond.code Lib.MathLoose.abs_long.x Lib.MathLoose.abs_long.code 2 (some .long) ∈ ws) (hrf : 1 ≤ rm.frames) (hrl : (st.map fun v => v.category).sum + 15 ≤ rm.locals) (hdg : decode cc pc = .ok (.invokestatic i, 3)) (kk : nq_G X E nL (pc + 3) lv (.long (if 0 < x then x else -x) :: st) K M) : nq_G X E nL pc lv (.long x :: st) K M := by
  obtain ⟨p, l', e, R, s, m, args, below, meth, c, Q, cs, ss⟩ := X
  obtain ⟨hx, hb, hml, hown, hts, hlk, hev, hl', hR, hcs, hss⟩ := hX
  intro H locs ls hl hA hS
  subst hR
  exact va_mabs_long hx hb (hml.trans hl.1.symm) hown (hts _ h1) (hts _ h2) (hts _ h3) (hts _ h4) hrf (by omega) hcs hss hdg (kk H locs ls hl hA hS)
theorem nq_acopy (hX : nq_OK X E l rm cc nL own ws) {i k n k2 n2 : Nat} {sp dp x : Int32} {M1 : Mem} (h1 : Cond.methodLink own i arraycopyName ∈ ws) (h2 : Cond.native arraycopyName ∈ ws) (h3 : Cond.static arraycopyName ∈ ws) (h4 : Cond.initialized "java/lang/System" ∈ ws) (hk : K[k]? = some (.inl (0, n))) (hk2 : K[k2]? = some (.inl (0, n2))) (he : M1 = va_up M k2 (va_cpy (M k) (M k2) sp.toNatClampNeg dp.toNatClampNeg x.toNatClampNeg)) (hi : (¬ sp < 0 ∧ ¬ dp < 0 ∧ ¬ x < 0) ∧ sp.toNatClampNeg + x.toNatClampNeg ≤ n ∧ dp.toNatClampNeg + x.toNatClampNeg ≤ n2) (hrf : 1 ≤ rm.frames) (hrl : (st.map fun v => v.category).sum + (nativeFrameWords "java/lang/System" "arraycopy" 5 + 11) ≤ rm.locals) (hdg : decode cc pc = .ok (.invokestatic i, 3)) (kk : nq_G X E nL (pc + 3) lv st K M1) : nq_G X E nL pc lv (.int x :: .int dp :: .ref (nq_ad E k2) :: .int sp :: .ref (nq_ad E k) :: st) K M := by
  obtain ⟨p, l', e, R, s, m, args, below, meth, c, Q, cs, ss⟩ := X
  obtain ⟨hx, hb, hml, hown, hts, hlk, hev, hl', hR, hcs, hss⟩ := hX
  intro H locs ls hl hA hS
  subst hR; subst he
  refine va_copyi hx hb (hml.trans hl.1.symm) hown (hts _ h1) (hts _ h2) (hts _ h3) (hts _ h4) hev.1 hA.1 hA.2 hS k k2 0 0 (nq_ws_at hk) (nq_ws_at hk2) rfl rfl rfl hi.1.1 hi.1.2.1 hi.1.2.2 hi.2.1 hi.2.2 (fun _ _ => rfl) hrf hrl hdg (fun H1 locs1 g1 g2 g3 => kk H1 locs1 ls hl ?_ g3)
  have e1 := nq_ws_set (E := E) (M := M) hk2 (va_cpy (M k) (M k2) sp.toNatClampNeg dp.toNatClampNeg x.toNatClampNeg)
  exact ⟨e1 ▸ g1, e1 ▸ g2⟩
theorem nq_ldcs (hX : nq_OK X E l rm cc nL own ws) {t : Int32} {i x : Nat} (hi : i < 8) (ht : t.toNatClampNeg = i) (ho : own = nq_sown i) (hx0 : nq_sidx.getD i 0 = x) (hdg : decode cc pc = .ok (.ldc x, 2)) (kk : nq_G X E nL (pc + 2) lv (.ref (nq_xa E t.toNatClampNeg) :: st) K M) : nq_G X E nL pc lv st K M := by
  obtain ⟨p, l', e, R, s, m, args, below, meth, c, Q, cs, ss⟩ := X
  obtain ⟨hx, hb, hml, hown, hts, hlk, hev, hl', hR, hcs, hss⟩ := hX
  intro H locs ls hl hA hS
  subst ht; subst hx0; subst ho
  exact va_ldcS hx hb hown (hev.2.2.2.2.2.1 _ hi) hdg (kk H locs ls hl hA hS)
theorem nq_aret (hX : nq_OK X E l rm cc nL own ws) {a : Nat} {n : String} (hr : nq_RT X E (some (.object n)) (some (.ref a)) K M) (hdg : decode cc pc = .ok (.areturn, 1)) : nq_G X E nL pc lv [.ref a] K M := by
  obtain ⟨p, l', e, R, s, m, args, below, meth, c, Q, cs, ss⟩ := X
  obtain ⟨hx, hb, hml, hown, hts, hlk, hev, hl', hR, hcs, hss⟩ := hX
  intro H locs ls hl hA hS
  obtain ⟨hr, hQ⟩ := hr
  subst hQ
  exact W.aret hx hb hr (Or.inl ⟨n, rfl⟩) (Or.inr ⟨a, rfl⟩) (fun t ht _ => ⟨rfl, by rw [ht]; exact hA, hS.F ht⟩) hS.2.2 hdg hlk
theorem nq_getsC (hX : nq_OK X E l rm cc nL own ws) {i : Nat} (hlink : Cond.fieldLink own i "java/lang/String" "COMPACT_STRINGS" "Z" ∈ ws) (hdg : decode cc pc = .ok (.getstatic i, 3)) (kk : nq_G X E nL (pc + 3) lv (.int 1 :: st) K M) : nq_G X E nL pc lv st K M := by
  obtain ⟨p, l', e, R, s, m, args, below, meth, c, Q, cs, ss⟩ := X
  obtain ⟨hx, hb, hml, hown, hts, hlk, hev, hl', hR, hcs, hss⟩ := hX
  intro H locs ls hl hA hS
  exact va_gets hx hb hev.2.2.2.1 hS hown (hts _ hlink) (fun _ h => h) hdg (kk H locs ls hl hA hS)
theorem nq_scoder (hX : nq_OK X E l rm cc nL own ws) {i k : Nat} (hk : k < 8) (hlink : Cond.fieldLink own i "java/lang/String" "coder" "B" ∈ ws) (hdg : decode cc pc = .ok (.getfield i, 3)) (kk : nq_G X E nL (pc + 3) lv (.int 0 :: st) K M) : nq_G X E nL pc lv (.ref (nq_xa E k) :: st) K M := by
  obtain ⟨p, l', e, R, s, m, args, below, meth, c, Q, cs, ss⟩ := X
  obtain ⟨hx, hb, hml, hown, hts, hlk, hev, hl', hR, hcs, hss⟩ := hX
  intro H locs ls hl hA hS
  exact vk_getf hx hb (hev.2.2.2.2.1.1 k hk).2.1 hS hown (hts _ hlink) (fun _ h => h) hdg (kk H locs ls hl hA hS)
theorem nq_svalue (hX : nq_OK X E l rm cc nL own ws) {i k : Nat} (hk : k < 8) (hlink : Cond.fieldLink own i "java/lang/String" "value" "[B" ∈ ws) (hdg : decode cc pc = .ok (.getfield i, 3)) (kk : nq_G X E nL (pc + 3) lv (.ref (nq_xv E k) :: st) K M) : nq_G X E nL pc lv (.ref (nq_xa E k) :: st) K M := by
  obtain ⟨p, l', e, R, s, m, args, below, meth, c, Q, cs, ss⟩ := X
  obtain ⟨hx, hb, hml, hown, hts, hlk, hev, hl', hR, hcs, hss⟩ := hX
  intro H locs ls hl hA hS
  exact vk_getf hx hb (hev.2.2.2.2.1.1 k hk).2.2.1 hS hown (hts _ hlink) (fun _ h => h) hdg (kk H locs ls hl hA hS)
theorem nq_slen (hX : nq_OK X E l rm cc nL own ws) {k : Nat} {v : Int32} (hk : k < 8) (hv : Int32.ofNat (nq_sl.getD k 0) = v) (hdg : decode cc pc = .ok (.arraylength, 1)) (kk : nq_G X E nL (pc + 1) lv (.int v :: st) K M) : nq_G X E nL pc lv (.ref (nq_xv E k) :: st) K M := by
  obtain ⟨p, l', e, R, s, m, args, below, meth, c, Q, cs, ss⟩ := X
  obtain ⟨hx, hb, hml, hown, hts, hlk, hev, hl', hR, hcs, hss⟩ := hX
  intro H locs ls hl hA hS
  exact va_tlen hx hb (hev.2.2.2.2.1.1 k hk).2.2.2 hS hv hdg (kk H locs ls hl hA hS)
theorem nq_sbyte (hX : nq_OK X E l rm cc nL own ws) {k : Nat} {i v : Int32} (hk : k < 8) (he : v = (nq_sb.getD k []).getD i.toNatClampNeg 0) (hin : vp_in i (nq_sl.getD k 0)) (hdg : decode cc pc = .ok (.baload, 1)) (kk : nq_G X E nL (pc + 1) lv (.int v :: st) K M) : nq_G X E nL pc lv (.int i :: .ref (nq_xv E k) :: st) K M := by
  obtain ⟨p, l', e, R, s, m, args, below, meth, c, Q, cs, ss⟩ := X
  obtain ⟨hx, hb, hml, hown, hts, hlk, hev, hl', hR, hcs, hss⟩ := hX
  intro H locs ls hl hA hS
  subst he
  exact va_tb hx hb (hev.2.2.2.2.1.1 k hk).2.2.2 hS hin rfl hdg (kk H locs ls hl hA hS)
theorem nq_ret {cs ss : Nat} {p : Program} {l' : Launch} {e : Env} {R : Room} {s : State} {m : MethodId} {args : Array Value} {below : List Frame} {meth : Method} {c : Code} {Q : State → Prop} {H : Heap} {locs : List Loc} {ls : Array Slot} {st0 : List Value} {a : Array Value} {K' : List Sh} {M' : Mem} {res : Option Value} (hr : va_Run p l' e R s m args below meth c H locs cs ss 0 0 (F0 m pc ls st0) st (nq_QR E res K' M' a) (nq_A E)) (hS : va_S (nq_A E) s.heap H locs)
    (kk : ∀ (H1 : Heap) (locs1 : List Loc), nq_AB E K' M' H1 → va_S (nq_A E) s.heap H1 locs1 → W p l' e R s m args below meth c H1 locs1 cs ss Q (F0 m (pc + 3) ls (res.toList ++ st))) : W p l' e R s m args below meth c H locs cs ss Q (F0 m pc ls st0) := by
  intro T hT X
  obtain ⟨v, st₀, t, T', L, h0, X', hL, e1, e2, ⟨hv, hab, hz, hk⟩, stp⟩ := hr T hT X
  cases hv
  rw [h0] at hz hk
  obtain ⟨t2, a1, b1⟩ := kk T'.heap (locs ++ L) (by rw [e1]; exact hab)
    ⟨Nat.le_trans hS.1 (by rw [e1]; exact hz), fun q h1 h2 => by rw [e1, hk q (Nat.lt_of_lt_of_le h1 hS.1) h2]; exact hS.2.1 q h1 h2, fun q hq => by
      rcases List.mem_append.mp hq with h | h
      · exact hS.2.2 q h
      · exact hL q h⟩ T' rfl X'
  exact ⟨t2, stp t2 a1, b1⟩
theorem nq_blind {E : Ev} {av : List Value} {K : List Sh} {M : Mem} : FrameBlind (va_Pc av (fun U => nq_EV E U U.heap ∧ nq_AB E K M U.heap)) := by
  intro a U g mk h
  obtain ⟨h1, h2, h3⟩ := h
  exact ⟨h1, nq_EV.same (s := U) rfl h2, h3⟩
theorem nq_callV (hX : nq_OK X E l rm cc nL own ws) {rmy : Room} {y : MethodName} {wy wy' : List Cond} {bytes : ByteArray} {maxL i k ci N : Nat} {ret : Option FieldType} {As st0 : List Value} {res : Option Value} {K' : List Sh} {M' : Mem} {C : String} {T : u_T} {fs : List (Int32 → Value)} (hM : nq_MA l E y wy rmy (.ref (nq_ad E k) :: As) K M res K' M') (hG : GoodIn ws (wsV own i C y wy)) (hw : wy = Cond.code y bytes maxL ret :: wy') (hC : y.cls = C) (hd : y.cls ≠ "java/lang/invoke/MethodHandle" ∧ y.cls ≠ "java/lang/invoke/VarHandle" ∧ (parseMethodDescriptor y.desc).map (fun d => d.parameters.length) = some As.length) (hroom : rmy.cells = 0 ∧ rmy.slots = 0 ∧ rmy.frames + 1 ≤ rm.frames ∧ 8 + (maxL + 11) + rmy.locals ≤ rm.locals)
    (hk : K[k]? = some (.inr (.inr (ci, fs)))) (hc : vwCl[ci]? = some (C, T, N)) (hst : st0 = As.reverse ++ .ref (nq_ad E k) :: st) (hW : (st.map fun v => v.category).sum ≤ 8) (hdg : decode cc pc = .ok (.invokevirtual i, 3)) (kk : nq_G X E nL (pc + 3) lv (res.toList ++ st) K' M') : nq_G X E nL pc lv st0 K M := by
  obtain ⟨p, l', e, R, s, m, args, below, meth, c, Q, cs, ss⟩ := X
  obtain ⟨hx, hb, hml, hown, hts, hlk, hev, hl', hR, hcs, hss⟩ := hX
  intro H locs ls hl hA hS
  subst hR; subst hl'
  refine nq_ret (va_runV (n := As.length) (As := As) (b := nq_ad E k) (C := C) (rest := st) ⟨hx, hb, hml, hown, hts⟩ hM (cwV As.length hts hG hw hroom.1 hroom.2.1 ⟨hC, hd⟩ ⟨hroom.2.2.1, hroom.2.2.2⟩) ⟨nq_blind, va_recv hev.1 hA.1 hc (nq_ws_at hk), fun U hU hWm => ⟨rfl, by rw [hU]; exact hev.warm hWm (fun a h1 h2 => hS.2.1 a h1 h2), by rw [hU]; exact hA⟩⟩ rfl rfl hl.1 hst (lv_room hW) hdg ⟨hcs, hss⟩) hS (fun H1 locs1 h1 h2 => kk H1 locs1 ls hl h1 h2)
theorem nq_callS (hX : nq_OK X E l rm cc nL own ws) {rmy : Room} {y : MethodName} {wy wy' : List Cond} {bytes : ByteArray} {maxL i : Nat} {ret : Option FieldType} {As st0 : List Value} {res : Option Value} {K' : List Sh} {M' : Mem} (hM : nq_MA l E y wy rmy As K M res K' M') (hG : GoodIn ws (wsS own i y wy)) (hw : wy = Cond.code y bytes maxL ret :: wy') (hC : y.cls = own) (hd : y.cls ≠ "java/lang/invoke/MethodHandle" ∧ y.cls ≠ "java/lang/invoke/VarHandle" ∧ (parseMethodDescriptor y.desc).map (fun d => d.parameters.length) = some As.length) (hroom : rmy.cells = 0 ∧ rmy.slots = 0 ∧ rmy.frames + 1 ≤ rm.frames ∧ 8 + (maxL + 11) + rmy.locals ≤ rm.locals)
    (hst : st0 = As.reverse ++ st) (hW : (st.map fun v => v.category).sum ≤ 8) (hdg : decode cc pc = .ok (.invokestatic i, 3)) (kk : nq_G X E nL (pc + 3) lv (res.toList ++ st) K' M') : nq_G X E nL pc lv st0 K M := by
  obtain ⟨p, l', e, R, s, m, args, below, meth, c, Q, cs, ss⟩ := X
  obtain ⟨hx, hb, hml, hown, hts, hlk, hev, hl', hR, hcs, hss⟩ := hX
  intro H locs ls hl hA hS
  subst hR; subst hl'
  refine nq_ret (va_runS (n := As.length) (As := As) (rest := st) ⟨hx, hb, hml, hown, hts⟩ hM (cwS As.length hts hG hw hroom.1 hroom.2.1 ⟨hC, hd⟩ ⟨hroom.2.2.1, hroom.2.2.2⟩) ⟨nq_blind, fun U hU hWm => ⟨rfl, by rw [hU]; exact hev.warm hWm (fun a h1 h2 => hS.2.1 a h1 h2), by rw [hU]; exact hA⟩⟩ rfl rfl hl.1 hst (lv_room hW) hdg ⟨hcs, hss⟩) hS (fun H1 locs1 h1 h2 => kk H1 locs1 ls hl h1 h2)
theorem nq_callXi (hX : nq_OK X E l rm cc nL own ws) {rmy : Room} {y : MethodName} {wy wy' : List Cond} {bytes : ByteArray} {maxL i k : Nat} {ret : Option FieldType} {As st0 : List Value} {r : Int32} {K' : List Sh} {M' : Mem} (hM : nq_MA l E y wy rmy (.ref (nq_xa E k) :: As) K M (some (.int r)) K' M') (hG : GoodIn ws (wsV own i "java/lang/String" y wy)) (hw : wy = Cond.code y bytes maxL ret :: wy') (hC : y.cls = "java/lang/String") (hd : y.cls ≠ "java/lang/invoke/MethodHandle" ∧ y.cls ≠ "java/lang/invoke/VarHandle" ∧ (parseMethodDescriptor y.desc).map (fun d => d.parameters.length) = some As.length) (hroom : rmy.cells = 0 ∧ rmy.slots = 0 ∧ rmy.frames + 1 ≤ rm.frames ∧ 8 + (maxL + 11) + rmy.locals ≤ rm.locals)
    (hk : k < 8) (hst : st0 = As.reverse ++ .ref (nq_xa E k) :: st) (hW : (st.map fun v => v.category).sum ≤ 8) (hdg : decode cc pc = .ok (.invokevirtual i, 3)) (kk : nq_G X E nL (pc + 3) lv (.int r :: st) K' M') : nq_G X E nL pc lv st0 K M := by
  obtain ⟨p, l', e, R, s, m, args, below, meth, c, Q, cs, ss⟩ := X
  obtain ⟨hx, hb, hml, hown, hts, hlk, hev, hl', hR, hcs, hss⟩ := hX
  intro H locs ls hl hA hS
  subst hR; subst hl'
  refine nq_ret (res := some (.int r)) (va_runV (n := As.length) (As := As) (b := nq_xa E k) (C := "java/lang/String") (rest := st) ⟨hx, hb, hml, hown, hts⟩ hM (cwV As.length hts hG hw hroom.1 hroom.2.1 ⟨hC, hd⟩ ⟨hroom.2.2.1, hroom.2.2.2⟩) ⟨nq_blind, vk_recv hev.2.2.2.2.1 hk hS, fun U hU hWm => ⟨rfl, by rw [hU]; exact hev.warm hWm (fun a h1 h2 => hS.2.1 a h1 h2), by rw [hU]; exact hA⟩⟩ rfl rfl hl.1 hst (lv_room hW) hdg ⟨hcs, hss⟩) hS (fun H1 locs1 h1 h2 => kk H1 locs1 ls hl h1 h2)
theorem nq_callSXi (hX : nq_OK X E l rm cc nL own ws) {rmy : Room} {y : MethodName} {wy wy' : List Cond} {bytes : ByteArray} {maxL i : Nat} {ret : Option FieldType} {As st0 : List Value} {r : Int32} {K' : List Sh} {M' : Mem} (hM : nq_MA l E y wy rmy As K M (some (.int r)) K' M') (hG : GoodIn ws (va_wsS own i y wy)) (hw : wy = Cond.code y bytes maxL ret :: wy') (hd : y.cls ≠ "java/lang/invoke/MethodHandle" ∧ y.cls ≠ "java/lang/invoke/VarHandle" ∧ (parseMethodDescriptor y.desc).map (fun d => d.parameters.length) = some As.length) (hroom : rmy.cells = 0 ∧ rmy.slots = 0 ∧ rmy.frames + 1 ≤ rm.frames ∧ 8 + (maxL + 11) + rmy.locals ≤ rm.locals)
    (hst : st0 = As.reverse ++ st) (hW : (st.map fun v => v.category).sum ≤ 8) (hdg : decode cc pc = .ok (.invokestatic i, 3)) (kk : nq_G X E nL (pc + 3) lv (.int r :: st) K' M') : nq_G X E nL pc lv st0 K M := by
  obtain ⟨p, l', e, R, s, m, args, below, meth, c, Q, cs, ss⟩ := X
  obtain ⟨hx, hb, hml, hown, hts, hlk, hev, hl', hR, hcs, hss⟩ := hX
  intro H locs ls hl hA hS
  subst hR; subst hl'
  refine nq_ret (res := some (.int r)) (va_runS (n := As.length) (As := As) (rest := st) ⟨hx, hb, hml, hown, hts⟩ hM (va_cwS As.length hts hG hw hroom.1 hroom.2.1 hd ⟨hroom.2.2.1, hroom.2.2.2⟩) ⟨nq_blind, fun U hU hWm => ⟨rfl, by rw [hU]; exact hev.warm hWm (fun a h1 h2 => hS.2.1 a h1 h2), by rw [hU]; exact hA⟩⟩ rfl rfl hl.1 hst (lv_room hW) hdg ⟨hcs, hss⟩) hS (fun H1 locs1 h1 h2 => kk H1 locs1 ls hl h1 h2)
theorem nq_callSXv (hX : nq_OK X E l rm cc nL own ws) {rmy : Room} {y : MethodName} {wy wy' : List Cond} {bytes : ByteArray} {maxL i : Nat} {ret : Option FieldType} {As st0 : List Value} {K' : List Sh} {M' : Mem} (hM : nq_MA l E y wy rmy As K M none K' M') (hG : GoodIn ws (va_wsS own i y wy)) (hw : wy = Cond.code y bytes maxL ret :: wy') (hd : y.cls ≠ "java/lang/invoke/MethodHandle" ∧ y.cls ≠ "java/lang/invoke/VarHandle" ∧ (parseMethodDescriptor y.desc).map (fun d => d.parameters.length) = some As.length) (hroom : rmy.cells = 0 ∧ rmy.slots = 0 ∧ rmy.frames + 1 ≤ rm.frames ∧ 8 + (maxL + 11) + rmy.locals ≤ rm.locals)
    (hst : st0 = As.reverse ++ st) (hW : (st.map fun v => v.category).sum ≤ 8) (hdg : decode cc pc = .ok (.invokestatic i, 3)) (kk : nq_G X E nL (pc + 3) lv st K' M') : nq_G X E nL pc lv st0 K M := by
  obtain ⟨p, l', e, R, s, m, args, below, meth, c, Q, cs, ss⟩ := X
  obtain ⟨hx, hb, hml, hown, hts, hlk, hev, hl', hR, hcs, hss⟩ := hX
  intro H locs ls hl hA hS
  subst hR; subst hl'
  refine nq_ret (res := none) (va_runS (n := As.length) (As := As) (rest := st) ⟨hx, hb, hml, hown, hts⟩ hM (va_cwS As.length hts hG hw hroom.1 hroom.2.1 hd ⟨hroom.2.2.1, hroom.2.2.2⟩) ⟨nq_blind, fun U hU hWm => ⟨rfl, by rw [hU]; exact hev.warm hWm (fun a h1 h2 => hS.2.1 a h1 h2), by rw [hU]; exact hA⟩⟩ rfl rfl hl.1 hst (lv_room hW) hdg ⟨hcs, hss⟩) hS (fun H1 locs1 h1 h2 => kk H1 locs1 ls hl h1 h2)
theorem nq_callVi (hX : nq_OK X E l rm cc nL own ws) {rmy : Room} {y : MethodName} {wy wy' : List Cond} {bytes : ByteArray} {maxL i k ci N : Nat} {ret : Option FieldType} {As st0 : List Value} {r : Int32} {K' : List Sh} {M' : Mem} {C : String} {T : u_T} {fs : List (Int32 → Value)} (hM : nq_MA l E y wy rmy (.ref (nq_ad E k) :: As) K M (some (.int r)) K' M') (hG : GoodIn ws (wsV own i C y wy)) (hw : wy = Cond.code y bytes maxL ret :: wy') (hC : y.cls = C) (hd : y.cls ≠ "java/lang/invoke/MethodHandle" ∧ y.cls ≠ "java/lang/invoke/VarHandle" ∧ (parseMethodDescriptor y.desc).map (fun d => d.parameters.length) = some As.length) (hroom : rmy.cells = 0 ∧ rmy.slots = 0 ∧ rmy.frames + 1 ≤ rm.frames ∧ 8 + (maxL + 11) + rmy.locals ≤ rm.locals)
    (hk : K[k]? = some (.inr (.inr (ci, fs)))) (hc : vwCl[ci]? = some (C, T, N)) (hst : st0 = As.reverse ++ .ref (nq_ad E k) :: st) (hW : (st.map fun v => v.category).sum ≤ 8) (hdg : decode cc pc = .ok (.invokevirtual i, 3)) (kk : nq_G X E nL (pc + 3) lv (.int r :: st) K' M') : nq_G X E nL pc lv st0 K M := nq_callV hX hM hG hw hC hd hroom hk hc hst hW hdg kk
theorem nq_callVl (hX : nq_OK X E l rm cc nL own ws) {rmy : Room} {y : MethodName} {wy wy' : List Cond} {bytes : ByteArray} {maxL i k ci N : Nat} {ret : Option FieldType} {As st0 : List Value} {r : Int64} {K' : List Sh} {M' : Mem} {C : String} {T : u_T} {fs : List (Int32 → Value)} (hM : nq_MA l E y wy rmy (.ref (nq_ad E k) :: As) K M (some (.long r)) K' M') (hG : GoodIn ws (wsV own i C y wy)) (hw : wy = Cond.code y bytes maxL ret :: wy') (hC : y.cls = C) (hd : y.cls ≠ "java/lang/invoke/MethodHandle" ∧ y.cls ≠ "java/lang/invoke/VarHandle" ∧ (parseMethodDescriptor y.desc).map (fun d => d.parameters.length) = some As.length) (hroom : rmy.cells = 0 ∧ rmy.slots = 0 ∧ rmy.frames + 1 ≤ rm.frames ∧ 8 + (maxL + 11) + rmy.locals ≤ rm.locals)
    (hk : K[k]? = some (.inr (.inr (ci, fs)))) (hc : vwCl[ci]? = some (C, T, N)) (hst : st0 = As.reverse ++ .ref (nq_ad E k) :: st) (hW : (st.map fun v => v.category).sum ≤ 8) (hdg : decode cc pc = .ok (.invokevirtual i, 3)) (kk : nq_G X E nL (pc + 3) lv (.long r :: st) K' M') : nq_G X E nL pc lv st0 K M := nq_callV hX hM hG hw hC hd hroom hk hc hst hW hdg kk
theorem nq_callVv (hX : nq_OK X E l rm cc nL own ws) {rmy : Room} {y : MethodName} {wy wy' : List Cond} {bytes : ByteArray} {maxL i k ci N : Nat} {ret : Option FieldType} {As st0 : List Value}  {K' : List Sh} {M' : Mem} {C : String} {T : u_T} {fs : List (Int32 → Value)} (hM : nq_MA l E y wy rmy (.ref (nq_ad E k) :: As) K M (none) K' M') (hG : GoodIn ws (wsV own i C y wy)) (hw : wy = Cond.code y bytes maxL ret :: wy') (hC : y.cls = C) (hd : y.cls ≠ "java/lang/invoke/MethodHandle" ∧ y.cls ≠ "java/lang/invoke/VarHandle" ∧ (parseMethodDescriptor y.desc).map (fun d => d.parameters.length) = some As.length) (hroom : rmy.cells = 0 ∧ rmy.slots = 0 ∧ rmy.frames + 1 ≤ rm.frames ∧ 8 + (maxL + 11) + rmy.locals ≤ rm.locals)
    (hk : K[k]? = some (.inr (.inr (ci, fs)))) (hc : vwCl[ci]? = some (C, T, N)) (hst : st0 = As.reverse ++ .ref (nq_ad E k) :: st) (hW : (st.map fun v => v.category).sum ≤ 8) (hdg : decode cc pc = .ok (.invokevirtual i, 3)) (kk : nq_G X E nL (pc + 3) lv (st) K' M') : nq_G X E nL pc lv st0 K M := nq_callV hX hM hG hw hC hd hroom hk hc hst hW hdg kk
theorem nq_callVa (hX : nq_OK X E l rm cc nL own ws) {rmy : Room} {y : MethodName} {wy wy' : List Cond} {bytes : ByteArray} {maxL i k ci N : Nat} {ret : Option FieldType} {As st0 : List Value} {r : Nat} {K' : List Sh} {M' : Mem} {C : String} {T : u_T} {fs : List (Int32 → Value)} (hM : nq_MA l E y wy rmy (.ref (nq_ad E k) :: As) K M (some (.ref r)) K' M') (hG : GoodIn ws (wsV own i C y wy)) (hw : wy = Cond.code y bytes maxL ret :: wy') (hC : y.cls = C) (hd : y.cls ≠ "java/lang/invoke/MethodHandle" ∧ y.cls ≠ "java/lang/invoke/VarHandle" ∧ (parseMethodDescriptor y.desc).map (fun d => d.parameters.length) = some As.length) (hroom : rmy.cells = 0 ∧ rmy.slots = 0 ∧ rmy.frames + 1 ≤ rm.frames ∧ 8 + (maxL + 11) + rmy.locals ≤ rm.locals)
    (hk : K[k]? = some (.inr (.inr (ci, fs)))) (hc : vwCl[ci]? = some (C, T, N)) (hst : st0 = As.reverse ++ .ref (nq_ad E k) :: st) (hW : (st.map fun v => v.category).sum ≤ 8) (hdg : decode cc pc = .ok (.invokevirtual i, 3)) (kk : nq_G X E nL (pc + 3) lv (.ref r :: st) K' M') : nq_G X E nL pc lv st0 K M := nq_callV hX hM hG hw hC hd hroom hk hc hst hW hdg kk
theorem nq_callSi (hX : nq_OK X E l rm cc nL own ws) {rmy : Room} {y : MethodName} {wy wy' : List Cond} {bytes : ByteArray} {maxL i : Nat} {ret : Option FieldType} {As st0 : List Value} {r : Int32} {K' : List Sh} {M' : Mem} (hM : nq_MA l E y wy rmy As K M (some (.int r)) K' M') (hG : GoodIn ws (wsS own i y wy)) (hw : wy = Cond.code y bytes maxL ret :: wy') (hC : y.cls = own) (hd : y.cls ≠ "java/lang/invoke/MethodHandle" ∧ y.cls ≠ "java/lang/invoke/VarHandle" ∧ (parseMethodDescriptor y.desc).map (fun d => d.parameters.length) = some As.length) (hroom : rmy.cells = 0 ∧ rmy.slots = 0 ∧ rmy.frames + 1 ≤ rm.frames ∧ 8 + (maxL + 11) + rmy.locals ≤ rm.locals)
    (hst : st0 = As.reverse ++ st) (hW : (st.map fun v => v.category).sum ≤ 8) (hdg : decode cc pc = .ok (.invokestatic i, 3)) (kk : nq_G X E nL (pc + 3) lv (.int r :: st) K' M') : nq_G X E nL pc lv st0 K M := nq_callS hX hM hG hw hC hd hroom hst hW hdg kk
theorem nq_callSl (hX : nq_OK X E l rm cc nL own ws) {rmy : Room} {y : MethodName} {wy wy' : List Cond} {bytes : ByteArray} {maxL i : Nat} {ret : Option FieldType} {As st0 : List Value} {r : Int64} {K' : List Sh} {M' : Mem} (hM : nq_MA l E y wy rmy As K M (some (.long r)) K' M') (hG : GoodIn ws (wsS own i y wy)) (hw : wy = Cond.code y bytes maxL ret :: wy') (hC : y.cls = own) (hd : y.cls ≠ "java/lang/invoke/MethodHandle" ∧ y.cls ≠ "java/lang/invoke/VarHandle" ∧ (parseMethodDescriptor y.desc).map (fun d => d.parameters.length) = some As.length) (hroom : rmy.cells = 0 ∧ rmy.slots = 0 ∧ rmy.frames + 1 ≤ rm.frames ∧ 8 + (maxL + 11) + rmy.locals ≤ rm.locals)
    (hst : st0 = As.reverse ++ st) (hW : (st.map fun v => v.category).sum ≤ 8) (hdg : decode cc pc = .ok (.invokestatic i, 3)) (kk : nq_G X E nL (pc + 3) lv (.long r :: st) K' M') : nq_G X E nL pc lv st0 K M := nq_callS hX hM hG hw hC hd hroom hst hW hdg kk
theorem nq_callSv (hX : nq_OK X E l rm cc nL own ws) {rmy : Room} {y : MethodName} {wy wy' : List Cond} {bytes : ByteArray} {maxL i : Nat} {ret : Option FieldType} {As st0 : List Value}  {K' : List Sh} {M' : Mem} (hM : nq_MA l E y wy rmy As K M (none) K' M') (hG : GoodIn ws (wsS own i y wy)) (hw : wy = Cond.code y bytes maxL ret :: wy') (hC : y.cls = own) (hd : y.cls ≠ "java/lang/invoke/MethodHandle" ∧ y.cls ≠ "java/lang/invoke/VarHandle" ∧ (parseMethodDescriptor y.desc).map (fun d => d.parameters.length) = some As.length) (hroom : rmy.cells = 0 ∧ rmy.slots = 0 ∧ rmy.frames + 1 ≤ rm.frames ∧ 8 + (maxL + 11) + rmy.locals ≤ rm.locals)
    (hst : st0 = As.reverse ++ st) (hW : (st.map fun v => v.category).sum ≤ 8) (hdg : decode cc pc = .ok (.invokestatic i, 3)) (kk : nq_G X E nL (pc + 3) lv (st) K' M') : nq_G X E nL pc lv st0 K M := nq_callS hX hM hG hw hC hd hroom hst hW hdg kk
theorem nq_callSa (hX : nq_OK X E l rm cc nL own ws) {rmy : Room} {y : MethodName} {wy wy' : List Cond} {bytes : ByteArray} {maxL i : Nat} {ret : Option FieldType} {As st0 : List Value} {r : Nat} {K' : List Sh} {M' : Mem} (hM : nq_MA l E y wy rmy As K M (some (.ref r)) K' M') (hG : GoodIn ws (wsS own i y wy)) (hw : wy = Cond.code y bytes maxL ret :: wy') (hC : y.cls = own) (hd : y.cls ≠ "java/lang/invoke/MethodHandle" ∧ y.cls ≠ "java/lang/invoke/VarHandle" ∧ (parseMethodDescriptor y.desc).map (fun d => d.parameters.length) = some As.length) (hroom : rmy.cells = 0 ∧ rmy.slots = 0 ∧ rmy.frames + 1 ≤ rm.frames ∧ 8 + (maxL + 11) + rmy.locals ≤ rm.locals)
    (hst : st0 = As.reverse ++ st) (hW : (st.map fun v => v.category).sum ≤ 8) (hdg : decode cc pc = .ok (.invokestatic i, 3)) (kk : nq_G X E nL (pc + 3) lv (.ref r :: st) K' M') : nq_G X E nL pc lv st0 K M := nq_callS hX hM hG hw hC hd hroom hst hW hdg kk
end RowsA
/-- a method's contract out of its walk -/
theorem nq_met {l : Launch} {E : Ev} {y : MethodName} {ws ws' : List Cond} {rm : Room} {av : List Value} {K K' : List Sh} {M M' : Mem} {res : Option Value} {cc : ByteArray} {maxL : Nat} {ret : Option FieldType} {own : String} (hy : plainName y.cls = true) (ho : y.cls = own) (hw : ws = Cond.code y cc maxL ret :: ws') (hn : (lg_sl av).length ≤ maxL)
    (body : ∀ X : Cx, nq_OK X E l rm cc maxL own ws → nq_RT X E ret res K' M' → nq_G X E maxL 0 (lv_args 0 av) [] K M) : nq_MA l E y ws rm av K M res K' M' := by
  refine Met.ofW (cc := cc) (maxL := maxL) (ret := ret) hy hw ?_
  intro p e s m args below meth c s₁ B hml hv
  obtain ⟨rfl, hev, hab⟩ := hv
  have hts := atoms_spec (ws := ws) B.pre
  have hown : s.vm.findClass own = some m.cls := by rw [← ho]; exact findClass_of_methodNamed B.named
  have hl := lv_entry av (n := maxL) hn
  rw [lg_entry_eq]
  generalize (lg_sl av ++ List.replicate (maxL - (lg_sl av).length) Slot.unset).toArray = ls at hl ⊢
  exact body (p, l, e, rm, s, m, av.toArray, below, meth, c, MQ below (nq_QR E res K' M') av.toArray s 0 0 (nq_A E), 0, 0) ⟨B.exec, B.bytes, hml, hown, hts, B.notSynchronized, hev, rfl, rfl, Nat.zero_le _, Nat.zero_le _⟩ ⟨B.returns, rfl⟩ s.heap [] ls hl hab va_S.rf
theorem nq_sub {X : Cx} {E : Ev} {nL pc : Nat} {lv lv' : List (Nat × Value)} {st : List Value} {K : List Sh} {M : Mem} (ks : List Nat) (h : lv_pick lv ks = lv') (k : nq_G X E nL pc lv' st K M) : nq_G X E nL pc lv st K M := by
  obtain ⟨p, l', e, R, s, m, args, below, meth, c, Q, cs, ss⟩ := X
  intro H locs ls hl hA hS
  exact k H locs ls (lv_sub hl ks h) hA hS
