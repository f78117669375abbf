/-! 09.a: what the Statement gives at the law's entry: the surroundings of the two worlds -/
abbrev nq_pre : List Cond := flatC (Jvm.Cond.and given_1 narrow_1)
def nq_tm (i : Nat) : Term := .string (nq_sown i) (nq_sidx.getD i 0)
set_option maxRecDepth 100000 in
theorem nq_m1 : ∀ j, j < 7 → Cond.eq (.elem (.static "NineYears" "KIND_ABOVE" "[I") (.int (Int32.ofNat j))) (.int (nq_ka j)) ∈ nq_pre := by decide +kernel
set_option maxRecDepth 100000 in
theorem nq_m2 : ∀ j, j < 28 → Cond.eq (.elem (.static "NineYears$Voices" "BODIES" "[I") (.int (Int32.ofNat j))) (.int (nq_bo j)) ∈ nq_pre := by decide +kernel
set_option maxRecDepth 100000 in
theorem nq_m3 : Cond.eq (.length (.static "NineYears" "KIND_ABOVE" "[I")) (.int 7) ∈ nq_pre ∧ Cond.arrayOf (.static "NineYears" "KIND_ABOVE" "[I") .int ∈ nq_pre ∧ Cond.eq (.length (.static "NineYears$Voices" "BODIES" "[I")) (.int 28) ∈ nq_pre ∧ Cond.arrayOf (.static "NineYears$Voices" "BODIES" "[I") .int ∈ nq_pre ∧ Cond.eq (.static "java/lang/String" "COMPACT_STRINGS" "Z") (.int 1) ∈ nq_pre := by decide +kernel
set_option maxRecDepth 100000 in
theorem nq_m4 : ∀ i, i < 8 → Cond.exactly (nq_tm i) "java/lang/String" ∈ nq_pre ∧ Cond.eq (.field (nq_tm i) "java/lang/String" "coder" "B") (.int 0) ∈ nq_pre ∧ Cond.arrayOf (.field (nq_tm i) "java/lang/String" "value" "[B") .byte ∈ nq_pre ∧ Cond.eq (.length (.field (nq_tm i) "java/lang/String" "value" "[B")) (.int (Int32.ofNat (nq_sl.getD i 0))) ∈ nq_pre := by decide +kernel
set_option maxRecDepth 100000 in
theorem nq_m5 : ∀ i, i < 8 → ∀ j, j < nq_sl.getD i 0 → Cond.eq (.elem (.field (nq_tm i) "java/lang/String" "value" "[B") (.int (Int32.ofNat j))) (.int ((nq_sb.getD i []).getD j 0)) ∈ nq_pre := by decide +kernel
set_option maxRecDepth 100000 in
theorem nq_m6 : ∀ i, i < 8 → ∀ j, j < 8 → i ≠ j → Cond.not (Cond.eq (nq_tm i) (nq_tm j)) ∈ nq_pre ∨ Cond.not (Cond.eq (nq_tm j) (nq_tm i)) ∈ nq_pre := by decide +kernel
set_option maxRecDepth 100000 in
theorem nq_m7 : ∀ i, i < 8 → Cond.stringRef (nq_sown i) (nq_sidx.getD i 0) (nq_stx.getD i "") ∈ lw_tbl := by decide +kernel
set_option maxRecDepth 100000 in
theorem nq_m8 : Cond.laysStatic "NineYears" "KIND_ABOVE" "[I" ∈ lw_tbl ∧ Cond.laysStatic "NineYears$Voices" "BODIES" "[I" ∈ lw_tbl ∧ Cond.laysStatic "java/lang/String" "COMPACT_STRINGS" "Z" ∈ lw_tbl ∧ Cond.initialized "NineYears" ∈ lw_tbl ∧ Cond.initialized "NineYears$Voices" ∈ lw_tbl ∧ Cond.initialized "java/lang/String" ∈ lw_tbl := by decide +kernel
set_option maxRecDepth 100000 in
theorem nq_m9 : Cond.arrayClass .int ∈ lw_tbl ∧ Cond.arrayClass .boolean ∈ lw_tbl ∧ Cond.arrayOver (.object "NineYears$Text") ∈ lw_tbl ∧ Cond.arrayOver (.object "NineYears$Sheet") ∈ lw_tbl := by decide +kernel
set_option maxRecDepth 100000 in
theorem nq_m10 : Cond.methodLinkNest "NineYears$World" 20 ⟨"NineYears$Letters", "<init>", "()V"⟩ "NineYears" ∈ lw_tbl ∧ Cond.methodLinkNest "NineYears$World" 75 ⟨"NineYears$Text", "<init>", "()V"⟩ "NineYears" ∈ lw_tbl ∧ Cond.methodLinkNest "NineYears" 58 ⟨"NineYears$Voices", "<init>", "()V"⟩ "NineYears" ∈ lw_tbl ∧ Cond.methodLinkNest "NineYears" 69 ⟨"NineYears$Sheet", "<init>", "()V"⟩ "NineYears" ∈ lw_tbl ∧ Cond.fieldLinkNest "NineYears$Voices" 36 "NineYears" "KIND_ABOVE" "[I" "NineYears" ∈ lw_tbl := by decide +kernel
set_option maxRecDepth 100000 in
theorem nq_m11 : Cond.instantiable RX0 11 ∈ lw_tbl ∧ Cond.instantiable RX1 6 ∈ lw_tbl ∧ Cond.instantiable RX2 3 ∈ lw_tbl ∧ Cond.instantiable RX3 3 ∈ lw_tbl ∧ Cond.instantiable RX4 8 ∈ lw_tbl ∧ Cond.instantiable RX5 2 ∈ lw_tbl ∧ Cond.instantiable RX6 5 ∈ lw_tbl ∧ Cond.instantiable RX7 17 ∈ lw_tbl ∧ Cond.instantiable RX8 11 ∈ lw_tbl ∧ Cond.instantiable RX9 23 ∈ lw_tbl := by decide +kernel
set_option maxHeartbeats 4000000 in
theorem nq_startE {args : Array Value} {s : State} (hts : ∀ w ∈ lw_tbl, w.before args s = true) (hg : ∀ w ∈ nq_pre, w.before args s = true) : ∃ E : Ev, nq_A E = (fun q => s.heap.size ≤ q) ∧ nq_EV E s s.heap ∧ nq_CC s := by
  obtain ⟨i0, i1, i2, i3, i4, i5, i6, i7, i8, i9⟩ := nq_m11
  obtain ⟨c0, s0, k0⟩ := u_known (C := RX0) (T := TX0) (N := 11) (n := 11) hts sub_wsX00 (hts _ i0)
  obtain ⟨c1, s1, k1⟩ := u_known (C := RX1) (T := TX1) (N := 6) (n := 6) hts sub_wsX10 (hts _ i1)
  obtain ⟨c2, s2, k2⟩ := u_known (C := RX2) (T := TX2) (N := 3) (n := 3) hts sub_wsX20 (hts _ i2)
  obtain ⟨c3, s3, k3⟩ := u_known (C := RX3) (T := TX3) (N := 3) (n := 3) hts sub_wsX30 (hts _ i3)
  obtain ⟨c4, s4, k4⟩ := u_known (C := RX4) (T := TX4) (N := 8) (n := 8) hts sub_wsX40 (hts _ i4)
  obtain ⟨c5, s5, k5⟩ := u_known (C := RX5) (T := TX5) (N := 2) (n := 2) hts sub_wsX50 (hts _ i5)
  obtain ⟨c6, s6, k6⟩ := u_known (C := RX6) (T := TX6) (N := 5) (n := 5) hts sub_wsX60 (hts _ i6)
  obtain ⟨c7, s7, k7⟩ := u_known (C := RX7) (T := TX7) (N := 17) (n := 17) hts sub_wsX70 (hts _ i7)
  obtain ⟨c8, s8, k8⟩ := u_known (C := RX8) (T := TX8) (N := 11) (n := 11) hts sub_wsX80 (hts _ i8)
  obtain ⟨c9, s9, k9⟩ := u_known (C := RX9) (T := TX9) (N := 23) (n := 23) hts sub_wsX90 (hts _ i9)
  have hA : ∀ a : Nat, a < s.heap.size → ¬ (fun q : Nat => s.heap.size ≤ q) a := fun a h1 h2 => by
    have h2 : s.heap.size ≤ a := h2
    omega
  obtain ⟨w1, w2, w3, w4⟩ := nq_m9
  obtain ⟨aI, kI, mI, f1, f2, f3⟩ := Cond.arrayClass_spec (hts _ w1)
  obtain ⟨aZ, kZ, mZ, g1, g2, g3⟩ := Cond.arrayClass_spec (hts _ w2)
  obtain ⟨mT, aT, kT, e1, e2, e3, e4, e5⟩ := Cond.arrayOver_spec (hts _ w3)
  obtain ⟨mS, aS, kS, d1, d2, d3, d4, d5⟩ := Cond.arrayOver_spec (hts _ w4)
  obtain ⟨n1, n2, n3, n4, n5⟩ := nq_m3
  obtain ⟨z1, z2, z3, z4, z5, z6⟩ := nq_m8
  obtain ⟨tA, hA1, hA2⟩ := va_Tof (tm := .static "NineYears" "KIND_ABOVE" "[I") (ty := .int) (N := 7) (f := fun j => .int (nq_ka j)) (A := fun q : Nat => s.heap.size ≤ q) (by omega) (hg _ n2) (va_eqt (hg _ n1)) (fun j hj => va_eqt (hg _ (nq_m1 j hj))) hA
  obtain ⟨tB, hB1, hB2⟩ := va_Tof (tm := .static "NineYears$Voices" "BODIES" "[I") (ty := .int) (N := 28) (f := fun j => .int (nq_bo j)) (A := fun q : Nat => s.heap.size ≤ q) (by omega) (hg _ n4) (va_eqt (hg _ n3)) (fun j hj => va_eqt (hg _ (nq_m2 j hj))) hA
  have hZ1 : va_Z "NineYears" "KIND_ABOVE" "[I" (.ref tA) (fun q : Nat => s.heap.size ≤ q) s s.heap := va_Zof (hts _ z1) (hts _ z4) hA1 hA
  have hZ2 : va_Z "NineYears$Voices" "BODIES" "[I" (.ref tB) (fun q : Nat => s.heap.size ≤ q) s s.heap := va_Zof (hts _ z2) (hts _ z5) hB1 hA
  have hZ3 : va_Z "java/lang/String" "COMPACT_STRINGS" "Z" (.int 1) (fun q : Nat => s.heap.size ≤ q) s s.heap := va_Zof (hts _ z3) (hts _ z6) (va_eqt (hg _ n5)) hA
  obtain ⟨adK, adV, hS, hSe⟩ := vk_Sof (tm := nq_tm) (N := 8) (len := nq_sl) (byt := nq_sb) (A := fun q : Nat => s.heap.size ≤ q) (by decide) (fun i hi => hg _ (nq_m4 i hi).1) (fun i hi => hg _ (nq_m4 i hi).2.1) (fun i hi => hg _ (nq_m4 i hi).2.2.1) (fun i hi => hg _ (nq_m4 i hi).2.2.2) (fun i hi j hj => hg _ (nq_m5 i hi j hj)) (fun i j hi hj hn => (nq_m6 i hi j hj hn).imp (hg _) (hg _)) hA
  obtain ⟨r1, r2, r3, r4, r5⟩ := nq_m10
  refine ⟨((fun k => [c0, c1, c2, c3, c4, c5, c6, c7, c8, c9].getD k c0, fun k => [s0, s1, s2, s3, s4, s5, s6, s7, s8, s9].getD k s0), (fun k => [aI, aZ, aT, aS].getD k aI), (fun q => s.heap.size ≤ q), (fun _ => 0), (fun k => if k < 8 then adK k else if k = 100 then tA else tB), adV), rfl, ⟨⟨?_, ?_⟩, ⟨hZ1, hA2⟩, ⟨hZ2, hB2⟩, hZ3, ⟨?_, ?_⟩, ?_, va_Nw.of rfl (hts _ r5)⟩, ?_⟩
  · intro k q hq
    match k, hq with
    | 0, hq => cases hq; exact k0
    | 1, hq => cases hq; exact k1
    | 2, hq => cases hq; exact k2
    | 3, hq => cases hq; exact k3
    | 4, hq => cases hq; exact k4
    | 5, hq => cases hq; exact k5
    | 6, hq => cases hq; exact k6
    | 7, hq => cases hq; exact k7
    | 8, hq => cases hq; exact k8
    | 9, hq => cases hq; exact k9
    | k + 10, hq => simp [vwCl] at hq
  · intro k q hq
    match k, hq with
    | 0, hq => cases hq; exact ⟨fun n z => ⟨fun k h => (by cases h), kI, f2, mI, f3⟩, f1⟩
    | 1, hq => cases hq; exact ⟨fun n z => ⟨fun k h => (by cases h), kZ, g2, mZ, g3⟩, g1⟩
    | 2, hq => cases hq; exact ⟨fun n z => ⟨fun k h => (by cases h), kT, e3, mT, e4⟩, kT, mT, e3, e4, e1, e5⟩
    | 3, hq => cases hq; exact ⟨fun n z => ⟨fun k h => (by cases h), kS, d3, mS, d4⟩, kS, mS, d3, d4, d1, d5⟩
    | k + 4, hq => simp [nq_tys] at hq
  · intro i hi
    have e : (if i < 8 then adK i else if i = 100 then tA else tB) = adK i := if_pos hi
    show va_O "java/lang/String" (if i < 8 then adK i else if i = 100 then tA else tB) _ _ _ ∧ va_OF "java/lang/String" "coder" "B" (.int 0) (if i < 8 then adK i else if i = 100 then tA else tB) _ _ _ ∧ va_OF "java/lang/String" "value" "[B" (.ref (adV i)) (if i < 8 then adK i else if i = 100 then tA else tB) _ _ _ ∧ _
    rw [e]
    exact hS.1 i hi
  · intro i j hi hj h
    have e1 : (if i < 8 then adK i else if i = 100 then tA else tB) = adK i := if_pos hi
    have e2 : (if j < 8 then adK j else if j = 100 then tA else tB) = adK j := if_pos hj
    exact hS.2 i j hi hj (e1.symm.trans (h.trans e2))
  · intro i hi
    have e : (if i < 8 then adK i else if i = 100 then tA else tB) = adK i := if_pos hi
    show vk_R _ _ _ (if i < 8 then adK i else if i = 100 then tA else tB) s
    rw [e]
    exact vk_R.of (hts _ (nq_m7 i hi)) (hSe i hi)
  · exact ⟨va_AO.of (hts _ w3), va_AO.of (hts _ w4), va_Nw.of rfl (hts _ r1), va_Nw.of rfl (hts _ r2), va_Nw.of rfl (hts _ r3), va_Nw.of rfl (hts _ r4)⟩
