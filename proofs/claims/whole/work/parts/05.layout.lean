/-! 05.layout: where the cells of each kind of object lie, printed by dec.py -/
theorem nq_tnf {x k : Int32} {n : Int} (hk : k.toInt = n) (h : ¬ x = k) : n ≠ x.toInt := (nq_tne hk h).symm
theorem nq_sE1 {α : Type} {a b : α} (h : some a = some b) : b = a := (Option.some.inj h).symm
theorem nq_sE2 {α β : Type} {a c : α} {b d : β} (h : some (a, b) = some (c, d)) : c = a ∧ d = b := by
  have := Option.some.inj h
  exact ⟨(congrArg Prod.fst this).symm, (congrArg Prod.snd this).symm⟩
theorem nq_nzb {v : Int32} (h : v = 0 ∨ v = 1) : narrow .boolean (.int v) = .int v ∧ fits .boolean (.int v) = true := by
  rcases h with rfl | rfl
  · exact ⟨rfl, rfl⟩
  · exact ⟨rfl, rfl⟩
theorem nq_om1 : Int32.ofInt (-1) = (-1 : Int32) := by decide
theorem nq_inLt {i : Int32} {n : Nat} (h : vp_in i n) : i.toNatClampNeg < n := by
  unfold vp_in at h; omega
def nq_atLetters (E : Ev) (K : List Sh) (p : Nat) : Prop :=
  K[p]? = some (.inr (.inr (0, [Value.int, fun _ => .ref (nq_ad E (p + 1)), fun _ => .ref (nq_ad E (p + 2)), fun _ => .ref (nq_ad E (p + 3)), fun _ => .ref (nq_ad E (p + 4)), fun _ => .ref (nq_ad E (p + 5)), fun _ => .ref (nq_ad E (p + 6)), fun _ => .ref (nq_ad E (p + 7)), fun _ => .ref (nq_ad E (p + 8)), Value.int, fun _ => .ref (nq_ad E (p + 9))]))) ∧
  K[(p + 1)]? = some (.inl (0, 80)) ∧
  K[(p + 2)]? = some (.inl (0, 80)) ∧
  K[(p + 3)]? = some (.inl (0, 80)) ∧
  K[(p + 4)]? = some (.inl (0, 80)) ∧
  K[(p + 5)]? = some (.inl (0, 80)) ∧
  K[(p + 6)]? = some (.inl (0, 80)) ∧
  K[(p + 7)]? = some (.inl (0, 80)) ∧
  K[(p + 8)]? = some (.inl (0, 80)) ∧
  K[(p + 9)]? = some (.inl (0, 80))
theorem nq_Letters_0 {E : Ev} {K : List Sh} {p : Nat} (h : nq_atLetters E K p) : K[p]? = some (.inr (.inr (0, [Value.int, fun _ => .ref (nq_ad E (p + 1)), fun _ => .ref (nq_ad E (p + 2)), fun _ => .ref (nq_ad E (p + 3)), fun _ => .ref (nq_ad E (p + 4)), fun _ => .ref (nq_ad E (p + 5)), fun _ => .ref (nq_ad E (p + 6)), fun _ => .ref (nq_ad E (p + 7)), fun _ => .ref (nq_ad E (p + 8)), Value.int, fun _ => .ref (nq_ad E (p + 9))]))) := h.1
theorem nq_Letters_kinds {E : Ev} {K : List Sh} {p : Nat} (h : nq_atLetters E K p) : K[(p + 1)]? = some (.inl (0, 80)) := h.2.1
theorem nq_Letters_froms {E : Ev} {K : List Sh} {p : Nat} (h : nq_atLetters E K p) : K[(p + 2)]? = some (.inl (0, 80)) := h.2.2.1
theorem nq_Letters_tos {E : Ev} {K : List Sh} {p : Nat} (h : nq_atLetters E K p) : K[(p + 3)]? = some (.inl (0, 80)) := h.2.2.2.1
theorem nq_Letters_pacts {E : Ev} {K : List Sh} {p : Nat} (h : nq_atLetters E K p) : K[(p + 4)]? = some (.inl (0, 80)) := h.2.2.2.2.1
theorem nq_Letters_years {E : Ev} {K : List Sh} {p : Nat} (h : nq_atLetters E K p) : K[(p + 5)]? = some (.inl (0, 80)) := h.2.2.2.2.2.1
theorem nq_Letters_comes {E : Ev} {K : List Sh} {p : Nat} (h : nq_atLetters E K p) : K[(p + 6)]? = some (.inl (0, 80)) := h.2.2.2.2.2.2.1
theorem nq_Letters_terms {E : Ev} {K : List Sh} {p : Nat} (h : nq_atLetters E K p) : K[(p + 7)]? = some (.inl (0, 80)) := h.2.2.2.2.2.2.2.1
theorem nq_Letters_depths {E : Ev} {K : List Sh} {p : Nat} (h : nq_atLetters E K p) : K[(p + 8)]? = some (.inl (0, 80)) := h.2.2.2.2.2.2.2.2.1
theorem nq_Letters_arriving {E : Ev} {K : List Sh} {p : Nat} (h : nq_atLetters E K p) : K[(p + 9)]? = some (.inl (0, 80)) := h.2.2.2.2.2.2.2.2.2
def nq_atRoads (E : Ev) (K : List Sh) (p : Nat) : Prop :=
  K[p]? = some (.inr (.inr (2, [Value.int, fun _ => .ref (nq_ad E (p + 1)), fun _ => .ref (nq_ad E (p + 2))]))) ∧
  K[(p + 1)]? = some (.inl (0, 36)) ∧
  K[(p + 2)]? = some (.inl (0, 36))
theorem nq_Roads_0 {E : Ev} {K : List Sh} {p : Nat} (h : nq_atRoads E K p) : K[p]? = some (.inr (.inr (2, [Value.int, fun _ => .ref (nq_ad E (p + 1)), fun _ => .ref (nq_ad E (p + 2))]))) := h.1
theorem nq_Roads_nears {E : Ev} {K : List Sh} {p : Nat} (h : nq_atRoads E K p) : K[(p + 1)]? = some (.inl (0, 36)) := h.2.1
theorem nq_Roads_lengths {E : Ev} {K : List Sh} {p : Nat} (h : nq_atRoads E K p) : K[(p + 2)]? = some (.inl (0, 36)) := h.2.2
def nq_atSheet (E : Ev) (K : List Sh) (p : Nat) : Prop :=
  K[p]? = some (.inr (.inr (3, [Value.int, Value.int, fun _ => .ref (nq_ad E (p + 1))]))) ∧
  K[(p + 1)]? = some (.inl (0, 40))
theorem nq_Sheet_0 {E : Ev} {K : List Sh} {p : Nat} (h : nq_atSheet E K p) : K[p]? = some (.inr (.inr (3, [Value.int, Value.int, fun _ => .ref (nq_ad E (p + 1))]))) := h.1
theorem nq_Sheet_numbers {E : Ev} {K : List Sh} {p : Nat} (h : nq_atSheet E K p) : K[(p + 1)]? = some (.inl (0, 40)) := h.2
def nq_atText (E : Ev) (K : List Sh) (p : Nat) : Prop :=
  K[p]? = some (.inr (.inr (5, [fun _ => .ref (nq_ad E (p + 1)), Value.int]))) ∧
  K[(p + 1)]? = some (.inl (0, 50))
theorem nq_Text_0 {E : Ev} {K : List Sh} {p : Nat} (h : nq_atText E K p) : K[p]? = some (.inr (.inr (5, [fun _ => .ref (nq_ad E (p + 1)), Value.int]))) := h.1
theorem nq_Text_codes {E : Ev} {K : List Sh} {p : Nat} (h : nq_atText E K p) : K[(p + 1)]? = some (.inl (0, 50)) := h.2
def nq_atVoices (E : Ev) (K : List Sh) (p : Nat) : Prop :=
  K[p]? = some (.inr (.inr (6, [fun _ => .ref (nq_ad E (p + 1)), Value.int, Value.int, Value.int, Value.int]))) ∧
  K[(p + 1)]? = some (.inl (0, 40))
theorem nq_Voices_0 {E : Ev} {K : List Sh} {p : Nat} (h : nq_atVoices E K p) : K[p]? = some (.inr (.inr (6, [fun _ => .ref (nq_ad E (p + 1)), Value.int, Value.int, Value.int, Value.int]))) := h.1
theorem nq_Voices_bodies {E : Ev} {K : List Sh} {p : Nat} (h : nq_atVoices E K p) : K[(p + 1)]? = some (.inl (0, 40)) := h.2
def nq_atStanding (E : Ev) (K : List Sh) (p : Nat) (q : Nat) : Prop :=
  K[p]? = some (.inr (.inr (4, [fun _ => .ref (nq_ad E q), fun _ => .ref (nq_ad E (p + 1)), Value.int, Value.int, Value.int, Value.int, Value.int, Value.int]))) ∧
  nq_atLetters E K q ∧
  K[(p + 1)]? = some (.inl (0, 6))
theorem nq_Standing_0 {E : Ev} {K : List Sh} {p : Nat} {q : Nat} (h : nq_atStanding E K p q) : K[p]? = some (.inr (.inr (4, [fun _ => .ref (nq_ad E q), fun _ => .ref (nq_ad E (p + 1)), Value.int, Value.int, Value.int, Value.int, Value.int, Value.int]))) := h.1
theorem nq_Standing_letters {E : Ev} {K : List Sh} {p : Nat} {q : Nat} (h : nq_atStanding E K p q) : nq_atLetters E K q := h.2.1
theorem nq_Standing_offeredUpTo {E : Ev} {K : List Sh} {p : Nat} {q : Nat} (h : nq_atStanding E K p q) : K[(p + 1)]? = some (.inl (0, 6)) := h.2.2
def nq_atReader (E : Ev) (K : List Sh) (p : Nat) (q : Nat) : Prop :=
  K[p]? = some (.inr (.inr (1, [fun _ => .ref (nq_ad E (p + 1)), Value.int, fun t => .ref (nq_ad E (if t = 0 then (p + 1) else q)), Value.int, Value.int, fun t => .ref (nq_xa E t.toNatClampNeg)]))) ∧
  K[(p + 1)]? = some (.inl (0, 50)) ∧
  K[q]? = some (.inl (0, 50))
theorem nq_Reader_0 {E : Ev} {K : List Sh} {p : Nat} {q : Nat} (h : nq_atReader E K p q) : K[p]? = some (.inr (.inr (1, [fun _ => .ref (nq_ad E (p + 1)), Value.int, fun t => .ref (nq_ad E (if t = 0 then (p + 1) else q)), Value.int, Value.int, fun t => .ref (nq_xa E t.toNatClampNeg)]))) := h.1
theorem nq_Reader_codes {E : Ev} {K : List Sh} {p : Nat} {q : Nat} (h : nq_atReader E K p q) : K[(p + 1)]? = some (.inl (0, 50)) := h.2.1
theorem nq_Reader_tape {E : Ev} {K : List Sh} {p : Nat} {q : Nat} (h : nq_atReader E K p q) : K[q]? = some (.inl (0, 50)) := h.2.2
def nq_atWorld (E : Ev) (K : List Sh) (p : Nat) : Prop :=
  K[p]? = some (.inr (.inr (7, [fun _ => .ref (nq_ad E (p + 1)), fun _ => .ref (nq_ad E (p + 4)), fun _ => .ref (nq_ad E (p + 14)), fun _ => .ref (nq_ad E (p + 15)), fun _ => .ref (nq_ad E (p + 16)), fun _ => .ref (nq_ad E (p + 17)), fun _ => .ref (nq_ad E (p + 18)), fun _ => .ref (nq_ad E (p + 19)), fun _ => .ref (nq_ad E (p + 20)), Value.int, Value.int, Value.int, Value.int, Value.int, Value.int, Value.int, Value.int]))) ∧
  nq_atRoads E K (p + 1) ∧
  nq_atLetters E K (p + 4) ∧
  K[(p + 14)]? = some (.inr (.inl (2, (List.range 8).map (fun i => some (nq_ad E ((p + 21) + 2 * i)))))) ∧
  (∀ i, i < 8 → nq_atText E K ((p + 21) + 2 * i)) ∧
  K[(p + 15)]? = some (.inl (0, 50)) ∧
  K[(p + 16)]? = some (.inl (0, 6)) ∧
  K[(p + 17)]? = some (.inl (0, 32)) ∧
  K[(p + 18)]? = some (.inl (0, 8)) ∧
  K[(p + 19)]? = some (.inl (0, 8)) ∧
  K[(p + 20)]? = some (.inl (0, 20))
theorem nq_World_0 {E : Ev} {K : List Sh} {p : Nat} (h : nq_atWorld E K p) : K[p]? = some (.inr (.inr (7, [fun _ => .ref (nq_ad E (p + 1)), fun _ => .ref (nq_ad E (p + 4)), fun _ => .ref (nq_ad E (p + 14)), fun _ => .ref (nq_ad E (p + 15)), fun _ => .ref (nq_ad E (p + 16)), fun _ => .ref (nq_ad E (p + 17)), fun _ => .ref (nq_ad E (p + 18)), fun _ => .ref (nq_ad E (p + 19)), fun _ => .ref (nq_ad E (p + 20)), Value.int, Value.int, Value.int, Value.int, Value.int, Value.int, Value.int, Value.int]))) := h.1
theorem nq_World_roads {E : Ev} {K : List Sh} {p : Nat} (h : nq_atWorld E K p) : nq_atRoads E K (p + 1) := h.2.1
theorem nq_World_letters {E : Ev} {K : List Sh} {p : Nat} (h : nq_atWorld E K p) : nq_atLetters E K (p + 4) := h.2.2.1
theorem nq_World_texts {E : Ev} {K : List Sh} {p : Nat} (h : nq_atWorld E K p) : K[(p + 14)]? = some (.inr (.inl (2, (List.range 8).map (fun i => some (nq_ad E ((p + 21) + 2 * i)))))) := h.2.2.2.1
theorem nq_World_textsT {E : Ev} {K : List Sh} {p : Nat} (h : nq_atWorld E K p) : ∀ i, i < 8 → nq_atText E K ((p + 21) + 2 * i) := h.2.2.2.2.1
theorem nq_World_tape {E : Ev} {K : List Sh} {p : Nat} (h : nq_atWorld E K p) : K[(p + 15)]? = some (.inl (0, 50)) := h.2.2.2.2.2.1
theorem nq_World_aims {E : Ev} {K : List Sh} {p : Nat} (h : nq_atWorld E K p) : K[(p + 16)]? = some (.inl (0, 6)) := h.2.2.2.2.2.2.1
theorem nq_World_pays {E : Ev} {K : List Sh} {p : Nat} (h : nq_atWorld E K p) : K[(p + 17)]? = some (.inl (0, 32)) := h.2.2.2.2.2.2.2.1
theorem nq_World_costs {E : Ev} {K : List Sh} {p : Nat} (h : nq_atWorld E K p) : K[(p + 18)]? = some (.inl (0, 8)) := h.2.2.2.2.2.2.2.2.1
theorem nq_World_worths {E : Ev} {K : List Sh} {p : Nat} (h : nq_atWorld E K p) : K[(p + 19)]? = some (.inl (0, 8)) := h.2.2.2.2.2.2.2.2.2.1
theorem nq_World_waiting {E : Ev} {K : List Sh} {p : Nat} (h : nq_atWorld E K p) : K[(p + 20)]? = some (.inl (0, 20)) := h.2.2.2.2.2.2.2.2.2.2
theorem nq_World_textsQ {E : Ev} {p : Nat} : ∀ i, i < 8 → ((List.range 8).map (fun i => some (nq_ad E ((p + 21) + 2 * i)))).getD i none = some (nq_ad E ((p + 21) + 2 * i)) := by
  intro i hi
  simp [List.getD, List.getElem?_map, List.getElem?_range hi]
def nq_atNine (E : Ev) (K : List Sh) : Prop :=
  K[0]? = some (.inr (.inr (8, [fun _ => .ref (nq_ad E 1), fun _ => .ref (nq_ad E 2), fun _ => .ref (nq_ad E 39), Value.int, fun _ => .ref (nq_ad E 76), fun _ => .ref (nq_ad E 78), fun _ => .ref (nq_ad E 80), fun _ => .ref (nq_ad E 82), fun _ => .ref (nq_ad E 83), fun _ => .ref (nq_ad E 84), fun _ => .ref (nq_ad E 86)]))) ∧
  K[1]? = some (.inl (0, 6)) ∧
  nq_atWorld E K 2 ∧
  nq_atWorld E K 39 ∧
  nq_atStanding E K 76 6 ∧
  nq_atStanding E K 78 6 ∧
  nq_atReader E K 80 17 ∧
  K[82]? = some (.inl (0, 5)) ∧
  K[83]? = some (.inl (0, 50)) ∧
  nq_atVoices E K 84 ∧
  K[86]? = some (.inr (.inl (3, (List.range 4).map (fun i => some (nq_ad E (87 + 2 * i)))))) ∧
  (∀ i, i < 4 → nq_atSheet E K (87 + 2 * i))
theorem nq_Nine_0 {E : Ev} {K : List Sh} (h : nq_atNine E K) : K[0]? = some (.inr (.inr (8, [fun _ => .ref (nq_ad E 1), fun _ => .ref (nq_ad E 2), fun _ => .ref (nq_ad E 39), Value.int, fun _ => .ref (nq_ad E 76), fun _ => .ref (nq_ad E 78), fun _ => .ref (nq_ad E 80), fun _ => .ref (nq_ad E 82), fun _ => .ref (nq_ad E 83), fun _ => .ref (nq_ad E 84), fun _ => .ref (nq_ad E 86)]))) := h.1
theorem nq_Nine_refused {E : Ev} {K : List Sh} (h : nq_atNine E K) : K[1]? = some (.inl (0, 6)) := h.2.1
theorem nq_Nine_world {E : Ev} {K : List Sh} (h : nq_atNine E K) : nq_atWorld E K 2 := h.2.2.1
theorem nq_Nine_kept {E : Ev} {K : List Sh} (h : nq_atNine E K) : nq_atWorld E K 39 := h.2.2.2.1
theorem nq_Nine_standing {E : Ev} {K : List Sh} (h : nq_atNine E K) : nq_atStanding E K 76 6 := h.2.2.2.2.1
theorem nq_Nine_otherStanding {E : Ev} {K : List Sh} (h : nq_atNine E K) : nq_atStanding E K 78 6 := h.2.2.2.2.2.1
theorem nq_Nine_reader {E : Ev} {K : List Sh} (h : nq_atNine E K) : nq_atReader E K 80 17 := h.2.2.2.2.2.2.1
theorem nq_Nine_names {E : Ev} {K : List Sh} (h : nq_atNine E K) : K[82]? = some (.inl (0, 5)) := h.2.2.2.2.2.2.2.1
theorem nq_Nine_stack {E : Ev} {K : List Sh} (h : nq_atNine E K) : K[83]? = some (.inl (0, 50)) := h.2.2.2.2.2.2.2.2.1
theorem nq_Nine_voices {E : Ev} {K : List Sh} (h : nq_atNine E K) : nq_atVoices E K 84 := h.2.2.2.2.2.2.2.2.2.1
theorem nq_Nine_sheets {E : Ev} {K : List Sh} (h : nq_atNine E K) : K[86]? = some (.inr (.inl (3, (List.range 4).map (fun i => some (nq_ad E (87 + 2 * i)))))) := h.2.2.2.2.2.2.2.2.2.2.1
theorem nq_Nine_sheetsT {E : Ev} {K : List Sh} (h : nq_atNine E K) : ∀ i, i < 4 → nq_atSheet E K (87 + 2 * i) := h.2.2.2.2.2.2.2.2.2.2.2
theorem nq_Nine_sheetsQ {E : Ev} : ∀ i, i < 4 → ((List.range 4).map (fun i => some (nq_ad E (87 + 2 * i)))).getD i none = some (nq_ad E (87 + 2 * i)) := by
  intro i hi
  simp [List.getD, List.getElem?_map, List.getElem?_range hi]
def nq_atModel (E : Ev) (K : List Sh) : Prop :=
  K[0]? = some (.inr (.inr (9, [fun _ => .ref (nq_ad E 1), fun _ => .ref (nq_ad E 2), Value.int, fun _ => .ref (nq_ad E 3), fun _ => .ref (nq_ad E 4), fun _ => .ref (nq_ad E 5), fun _ => .ref (nq_ad E 6), fun _ => .ref (nq_ad E 7), fun _ => .ref (nq_ad E 8), Value.int, Value.int, Value.int, Value.int, Value.int, Value.int, fun _ => .ref (nq_ad E 9), fun _ => .ref (nq_ad E 10), Value.int, Value.int, fun _ => .ref (nq_ad E 11), fun _ => .ref (nq_ad E 12), fun _ => .ref (nq_ad E 13), fun _ => .ref (nq_ad E 14)]))) ∧
  K[1]? = some (.inl (0, 1250)) ∧
  K[2]? = some (.inl (0, 1250)) ∧
  K[3]? = some (.inl (0, 6)) ∧
  K[4]? = some (.inl (0, 36)) ∧
  K[5]? = some (.inl (0, 6)) ∧
  K[6]? = some (.inl (0, 2)) ∧
  K[7]? = some (.inl (0, 2)) ∧
  K[8]? = some (.inl (1, 400)) ∧
  K[9]? = some (.inl (0, 5)) ∧
  K[10]? = some (.inl (0, 40)) ∧
  K[11]? = some (.inl (0, 4)) ∧
  K[12]? = some (.inl (0, 4)) ∧
  K[13]? = some (.inl (0, 160)) ∧
  K[14]? = some (.inl (0, 40))
theorem nq_Model_0 {E : Ev} {K : List Sh} (h : nq_atModel E K) : K[0]? = some (.inr (.inr (9, [fun _ => .ref (nq_ad E 1), fun _ => .ref (nq_ad E 2), Value.int, fun _ => .ref (nq_ad E 3), fun _ => .ref (nq_ad E 4), fun _ => .ref (nq_ad E 5), fun _ => .ref (nq_ad E 6), fun _ => .ref (nq_ad E 7), fun _ => .ref (nq_ad E 8), Value.int, Value.int, Value.int, Value.int, Value.int, Value.int, fun _ => .ref (nq_ad E 9), fun _ => .ref (nq_ad E 10), Value.int, Value.int, fun _ => .ref (nq_ad E 11), fun _ => .ref (nq_ad E 12), fun _ => .ref (nq_ad E 13), fun _ => .ref (nq_ad E 14)]))) := h.1
theorem nq_Model_d {E : Ev} {K : List Sh} (h : nq_atModel E K) : K[1]? = some (.inl (0, 1250)) := h.2.1
theorem nq_Model_kept {E : Ev} {K : List Sh} (h : nq_atModel E K) : K[2]? = some (.inl (0, 1250)) := h.2.2.1
theorem nq_Model_found {E : Ev} {K : List Sh} (h : nq_atModel E K) : K[3]? = some (.inl (0, 6)) := h.2.2.2.1
theorem nq_Model_way {E : Ev} {K : List Sh} (h : nq_atModel E K) : K[4]? = some (.inl (0, 36)) := h.2.2.2.2.1
theorem nq_Model_steps {E : Ev} {K : List Sh} (h : nq_atModel E K) : K[5]? = some (.inl (0, 6)) := h.2.2.2.2.2.1
theorem nq_Model_stanceNow {E : Ev} {K : List Sh} (h : nq_atModel E K) : K[6]? = some (.inl (0, 2)) := h.2.2.2.2.2.2.1
theorem nq_Model_offeredBy {E : Ev} {K : List Sh} (h : nq_atModel E K) : K[7]? = some (.inl (0, 2)) := h.2.2.2.2.2.2.2.1
theorem nq_Model_isYear {E : Ev} {K : List Sh} (h : nq_atModel E K) : K[8]? = some (.inl (1, 400)) := h.2.2.2.2.2.2.2.2.1
theorem nq_Model_names {E : Ev} {K : List Sh} (h : nq_atModel E K) : K[9]? = some (.inl (0, 5)) := h.2.2.2.2.2.2.2.2.2.1
theorem nq_Model_traced {E : Ev} {K : List Sh} (h : nq_atModel E K) : K[10]? = some (.inl (0, 40)) := h.2.2.2.2.2.2.2.2.2.2.1
theorem nq_Model_bitsOf {E : Ev} {K : List Sh} (h : nq_atModel E K) : K[11]? = some (.inl (0, 4)) := h.2.2.2.2.2.2.2.2.2.2.2.1
theorem nq_Model_sizeOf {E : Ev} {K : List Sh} (h : nq_atModel E K) : K[12]? = some (.inl (0, 4)) := h.2.2.2.2.2.2.2.2.2.2.2.2.1
theorem nq_Model_number {E : Ev} {K : List Sh} (h : nq_atModel E K) : K[13]? = some (.inl (0, 160)) := h.2.2.2.2.2.2.2.2.2.2.2.2.2.1
theorem nq_Model_lifted {E : Ev} {K : List Sh} (h : nq_atModel E K) : K[14]? = some (.inl (0, 40)) := h.2.2.2.2.2.2.2.2.2.2.2.2.2.2
