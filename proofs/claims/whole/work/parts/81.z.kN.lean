/-! 81.z: the class's world as it is made, and as its calls take it -/
theorem nq_mg0 {M Mc : Mem} : nq_mg 0 M Mc = Mc := by
  funext k; simp [nq_mg]
theorem nq_Kw {X : Cx} {E : Ev} {nL pc : Nat} {lv : List (Nat × Value)} {st : List Value} {K K' : List Sh} {M M' : Mem} (h : nq_ws E K M = nq_ws E K' M') (k : nq_G X E nL pc lv st K' M') : nq_G X E nL pc lv st K M := by
  obtain ⟨p, l', e, R, s, m, args, below, meth, c, Q, cs, ss⟩ := X
  intro H locs ls hl hA hS
  refine k H locs ls hl ?_ hS
  unfold nq_AB at hA ⊢
  rw [← h]
  exact hA
theorem nq_cell80 (E : Ev) (ad xa : Nat → Nat) (f : Nat → Int32) (h2 : f 2 = 0) (h5 : f 5 = 0) : nq_cell E (.inr (.inr (1, [fun _ => .ref (ad 81), Value.int, fun _ => .ref (ad 81), Value.int, Value.int, fun _ => .ref (xa 0)]))) f = nq_cell E (.inr (.inr (1, [fun _ => .ref (ad 81), Value.int, fun t => .ref (ad (if t = 0 then 81 else 17)), Value.int, Value.int, fun t => .ref (xa t.toNatClampNeg)]))) f := by
  have z : (0 : Int32).toNatClampNeg = 0 := rfl
  simp [nq_cell, nq_fv, h2, h5, z]
set_option maxHeartbeats 4000000 in
set_option maxRecDepth 100000 in
theorem nq_kNset (ad xa : Nat → Nat) : nq_kN ad xa = (kfX8_init ad xa).set 80 (.inr (.inr (1, [fun _ => .ref (ad 81), Value.int, fun t => .ref (ad (if t = 0 then 81 else 17)), Value.int, Value.int, fun t => .ref (xa t.toNatClampNeg)]))) := rfl
set_option maxRecDepth 100000 in
theorem nq_kN80 (ad xa : Nat → Nat) : (kfX8_init ad xa)[80]? = some (.inr (.inr (1, [fun _ => .ref (ad 81), Value.int, fun _ => .ref (ad 81), Value.int, Value.int, fun _ => .ref (xa 0)]))) := rfl
set_option maxRecDepth 100000 in
theorem nq_kN80' (ad xa : Nat → Nat) : (nq_kN ad xa)[80]? = some (.inr (.inr (1, [fun _ => .ref (ad 81), Value.int, fun t => .ref (ad (if t = 0 then 81 else 17)), Value.int, Value.int, fun t => .ref (xa t.toNatClampNeg)]))) := rfl
theorem nq_m80 : mfX8_init 80 2 = 0 ∧ mfX8_init 80 5 = 0 := by decide +kernel
theorem nq_kNw (E : Ev) (L : List Nat) : nq_ws (nq_Ew E (nq_adL L)) (kfX8_init (nq_adL L) (nq_xa E)) mfX8_init = nq_ws (nq_Ew E (nq_adL L)) (nq_kN (nq_adL L) (nq_xa E)) mfX8_init := by
  apply List.ext_getElem?
  intro k
  unfold nq_ws
  rw [List.getElem?_mapIdx, List.getElem?_mapIdx]
  by_cases hk : k = 80
  · subst hk
    rw [nq_kN80, nq_kN80', Option.map_some, Option.map_some, nq_cell80 _ _ _ (mfX8_init 80) nq_m80.1 nq_m80.2]
  · rw [nq_kNset, List.getElem?_set_ne (fun e => hk e.symm)]
