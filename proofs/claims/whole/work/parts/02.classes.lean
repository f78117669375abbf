/-! ===== BEGIN words of one list among another's, by their places ===== -/
theorem goodIn_r {big : List Cond} (ws : List Cond) (ps : List Nat) (hp : ws = ps.filterMap (fun i => big[i]?)) (h : ws.all goodWord = true) : GoodIn big ws := by
  intro w hw
  have h1 := List.all_eq_true.mp h w hw
  rw [hp] at hw
  obtain ⟨i, -, hi⟩ := List.mem_filterMap.mp hw
  have hm : w ∈ big := by first | exact List.mem_of_getElem? hi | exact List.getElem?_mem hi
  exact ⟨hm, good_of_word h1⟩
theorem goodIn_app {big a b : List Cond} (ha : GoodIn big a) (hb : GoodIn big b) : GoodIn big (a ++ b) := fun w h => (List.mem_append.mp h).elim (ha w) (hb w)
theorem goodIn_ca {big a b : List Cond} {c : Cond} (ha : GoodIn big (c :: a)) (hb : GoodIn big b) : GoodIn big (c :: (a ++ b)) := fun w h => (List.mem_cons.mp h).elim (fun e => ha w (List.mem_cons.mpr (Or.inl e))) (fun h => (List.mem_append.mp h).elim (fun h => ha w (List.mem_cons.mpr (Or.inr h))) (hb w))
theorem goodIn_sub {big ws : List Cond} (hm : ∀ w ∈ ws, w ∈ big) (h : ws.all goodWord = true) : GoodIn big ws := fun w hw => ⟨hm w hw, good_of_word (List.all_eq_true.mp h w hw)⟩
/-! ===== END ===== -/

/-! ===== BEGIN printed: names, fields, word lists, decode rows ===== -/
def RX0 : String := "NineYears$Letters"
def TX0 : u_T := fun k => match k with
  | 0 => ("NineYears$Letters", "many", "I", false)
  | 1 => ("NineYears$Letters", "kinds", "[I", true)
  | 2 => ("NineYears$Letters", "froms", "[I", true)
  | 3 => ("NineYears$Letters", "tos", "[I", true)
  | 4 => ("NineYears$Letters", "pacts", "[I", true)
  | 5 => ("NineYears$Letters", "years", "[I", true)
  | 6 => ("NineYears$Letters", "comes", "[I", true)
  | 7 => ("NineYears$Letters", "terms", "[I", true)
  | 8 => ("NineYears$Letters", "depths", "[I", true)
  | 9 => ("NineYears$Letters", "arrivals", "I", false)
  | _ => ("NineYears$Letters", "arriving", "[I", true)
def tyX0 : Nat → FieldType := fun k => match k with
  | 0 => .int
  | 1 => .array .int
  | 2 => .array .int
  | 3 => .array .int
  | 4 => .array .int
  | 5 => .array .int
  | 6 => .array .int
  | 7 => .array .int
  | 8 => .array .int
  | 9 => .int
  | _ => .array .int
abbrev wsX00 : List Cond := u_ws RX0 TX0 11
theorem nmX0 : ∀ a, a < 11 → ∀ b, b < 11 → a ≠ b → (TX0 a).2.1 ≠ (TX0 b).2.1 := by decide +kernel
theorem tyX0_ok : ∀ k, k < 11 → parseFieldDescriptor (TX0 k).2.2.1 = some (tyX0 k) := by decide +kernel
def RX1 : String := "NineYears$Reader"
def TX1 : u_T := fun k => match k with
  | 0 => ("NineYears$Reader", "codes", "[I", true)
  | 1 => ("NineYears$Reader", "made", "I", false)
  | 2 => ("NineYears$Reader", "tape", "[I", false)
  | 3 => ("NineYears$Reader", "length", "I", false)
  | 4 => ("NineYears$Reader", "at", "I", false)
  | _ => ("NineYears$Reader", "names", "Ljava/lang/String;", false)
def tyX1 : Nat → FieldType := fun k => match k with
  | 0 => .array .int
  | 1 => .int
  | 2 => .array .int
  | 3 => .int
  | 4 => .int
  | _ => .object "java/lang/String"
abbrev wsX10 : List Cond := u_ws RX1 TX1 6
theorem nmX1 : ∀ a, a < 6 → ∀ b, b < 6 → a ≠ b → (TX1 a).2.1 ≠ (TX1 b).2.1 := by decide +kernel
theorem tyX1_ok : ∀ k, k < 6 → parseFieldDescriptor (TX1 k).2.2.1 = some (tyX1 k) := by decide +kernel
def RX2 : String := "NineYears$Roads"
def TX2 : u_T := fun k => match k with
  | 0 => ("NineYears$Roads", "places", "I", false)
  | 1 => ("NineYears$Roads", "nears", "[I", true)
  | _ => ("NineYears$Roads", "lengths", "[I", true)
def tyX2 : Nat → FieldType := fun k => match k with
  | 0 => .int
  | 1 => .array .int
  | _ => .array .int
abbrev wsX20 : List Cond := u_ws RX2 TX2 3
theorem nmX2 : ∀ a, a < 3 → ∀ b, b < 3 → a ≠ b → (TX2 a).2.1 ≠ (TX2 b).2.1 := by decide +kernel
theorem tyX2_ok : ∀ k, k < 3 → parseFieldDescriptor (TX2 k).2.2.1 = some (tyX2 k) := by decide +kernel
def RX3 : String := "NineYears$Sheet"
def TX3 : u_T := fun k => match k with
  | 0 => ("NineYears$Sheet", "bits", "I", false)
  | 1 => ("NineYears$Sheet", "size", "I", false)
  | _ => ("NineYears$Sheet", "numbers", "[I", true)
def tyX3 : Nat → FieldType := fun k => match k with
  | 0 => .int
  | 1 => .int
  | _ => .array .int
abbrev wsX30 : List Cond := u_ws RX3 TX3 3
theorem nmX3 : ∀ a, a < 3 → ∀ b, b < 3 → a ≠ b → (TX3 a).2.1 ≠ (TX3 b).2.1 := by decide +kernel
theorem tyX3_ok : ∀ k, k < 3 → parseFieldDescriptor (TX3 k).2.2.1 = some (tyX3 k) := by decide +kernel
def RX4 : String := "NineYears$Standing"
def TX4 : u_T := fun k => match k with
  | 0 => ("NineYears$Standing", "letters", "LNineYears$Letters;", true)
  | 1 => ("NineYears$Standing", "offeredUpTo", "[I", true)
  | 2 => ("NineYears$Standing", "place", "I", false)
  | 3 => ("NineYears$Standing", "pact", "I", false)
  | 4 => ("NineYears$Standing", "stands", "I", false)
  | 5 => ("NineYears$Standing", "offersUpTo", "I", false)
  | 6 => ("NineYears$Standing", "nextArrival", "I", false)
  | _ => ("NineYears$Standing", "nextSent", "I", false)
def tyX4 : Nat → FieldType := fun k => match k with
  | 0 => .object "NineYears$Letters"
  | 1 => .array .int
  | 2 => .int
  | 3 => .int
  | 4 => .int
  | 5 => .int
  | 6 => .int
  | _ => .int
abbrev wsX40 : List Cond := u_ws RX4 TX4 8
theorem nmX4 : ∀ a, a < 8 → ∀ b, b < 8 → a ≠ b → (TX4 a).2.1 ≠ (TX4 b).2.1 := by decide +kernel
theorem tyX4_ok : ∀ k, k < 8 → parseFieldDescriptor (TX4 k).2.2.1 = some (tyX4 k) := by decide +kernel
def RX5 : String := "NineYears$Text"
def TX5 : u_T := fun k => match k with
  | 0 => ("NineYears$Text", "codes", "[I", true)
  | _ => ("NineYears$Text", "length", "I", false)
def tyX5 : Nat → FieldType := fun k => match k with
  | 0 => .array .int
  | _ => .int
abbrev wsX50 : List Cond := u_ws RX5 TX5 2
theorem nmX5 : ∀ a, a < 2 → ∀ b, b < 2 → a ≠ b → (TX5 a).2.1 ≠ (TX5 b).2.1 := by decide +kernel
theorem tyX5_ok : ∀ k, k < 2 → parseFieldDescriptor (TX5 k).2.2.1 = some (tyX5 k) := by decide +kernel
def RX6 : String := "NineYears$Voices"
def TX6 : u_T := fun k => match k with
  | 0 => ("NineYears$Voices", "bodies", "[I", true)
  | 1 => ("NineYears$Voices", "traced", "I", false)
  | 2 => ("NineYears$Voices", "kind", "I", false)
  | 3 => ("NineYears$Voices", "number", "I", false)
  | _ => ("NineYears$Voices", "term", "I", false)
def tyX6 : Nat → FieldType := fun k => match k with
  | 0 => .array .int
  | 1 => .int
  | 2 => .int
  | 3 => .int
  | _ => .int
abbrev wsX60 : List Cond := u_ws RX6 TX6 5
theorem nmX6 : ∀ a, a < 5 → ∀ b, b < 5 → a ≠ b → (TX6 a).2.1 ≠ (TX6 b).2.1 := by decide +kernel
theorem tyX6_ok : ∀ k, k < 5 → parseFieldDescriptor (TX6 k).2.2.1 = some (tyX6 k) := by decide +kernel
def RX7 : String := "NineYears$World"
def TX7 : u_T := fun k => match k with
  | 0 => ("NineYears$World", "roads", "LNineYears$Roads;", true)
  | 1 => ("NineYears$World", "letters", "LNineYears$Letters;", true)
  | 2 => ("NineYears$World", "texts", "[LNineYears$Text;", true)
  | 3 => ("NineYears$World", "tape", "[I", true)
  | 4 => ("NineYears$World", "aims", "[I", true)
  | 5 => ("NineYears$World", "pays", "[I", true)
  | 6 => ("NineYears$World", "costs", "[I", true)
  | 7 => ("NineYears$World", "worths", "[I", true)
  | 8 => ("NineYears$World", "waiting", "[I", true)
  | 9 => ("NineYears$World", "now", "I", false)
  | 10 => ("NineYears$World", "term", "I", false)
  | 11 => ("NineYears$World", "speed", "I", false)
  | 12 => ("NineYears$World", "lost", "I", false)
  | 13 => ("NineYears$World", "z", "I", false)
  | 14 => ("NineYears$World", "fed", "I", false)
  | 15 => ("NineYears$World", "works", "I", false)
  | _ => ("NineYears$World", "waits", "I", false)
def tyX7 : Nat → FieldType := fun k => match k with
  | 0 => .object "NineYears$Roads"
  | 1 => .object "NineYears$Letters"
  | 2 => .array (.object "NineYears$Text")
  | 3 => .array .int
  | 4 => .array .int
  | 5 => .array .int
  | 6 => .array .int
  | 7 => .array .int
  | 8 => .array .int
  | 9 => .int
  | 10 => .int
  | 11 => .int
  | 12 => .int
  | 13 => .int
  | 14 => .int
  | 15 => .int
  | _ => .int
abbrev wsX70 : List Cond := u_ws RX7 TX7 17
theorem nmX7 : ∀ a, a < 17 → ∀ b, b < 17 → a ≠ b → (TX7 a).2.1 ≠ (TX7 b).2.1 := by decide +kernel
theorem tyX7_ok : ∀ k, k < 17 → parseFieldDescriptor (TX7 k).2.2.1 = some (tyX7 k) := by decide +kernel
def RX8 : String := "NineYears"
def TX8 : u_T := fun k => match k with
  | 0 => ("NineYears", "refused", "[I", true)
  | 1 => ("NineYears", "world", "LNineYears$World;", true)
  | 2 => ("NineYears", "kept", "LNineYears$World;", true)
  | 3 => ("NineYears", "images", "I", false)
  | 4 => ("NineYears", "standing", "LNineYears$Standing;", true)
  | 5 => ("NineYears", "otherStanding", "LNineYears$Standing;", true)
  | 6 => ("NineYears", "reader", "LNineYears$Reader;", true)
  | 7 => ("NineYears", "names", "[I", true)
  | 8 => ("NineYears", "stack", "[I", true)
  | 9 => ("NineYears", "voices", "LNineYears$Voices;", true)
  | _ => ("NineYears", "sheets", "[LNineYears$Sheet;", true)
def tyX8 : Nat → FieldType := fun k => match k with
  | 0 => .array .int
  | 1 => .object "NineYears$World"
  | 2 => .object "NineYears$World"
  | 3 => .int
  | 4 => .object "NineYears$Standing"
  | 5 => .object "NineYears$Standing"
  | 6 => .object "NineYears$Reader"
  | 7 => .array .int
  | 8 => .array .int
  | 9 => .object "NineYears$Voices"
  | _ => .array (.object "NineYears$Sheet")
abbrev wsX80 : List Cond := u_ws RX8 TX8 11
theorem nmX8 : ∀ a, a < 11 → ∀ b, b < 11 → a ≠ b → (TX8 a).2.1 ≠ (TX8 b).2.1 := by decide +kernel
theorem tyX8_ok : ∀ k, k < 11 → parseFieldDescriptor (TX8 k).2.2.1 = some (tyX8 k) := by decide +kernel
def RX9 : String := "NineYearsModel"
def TX9 : u_T := fun k => match k with
  | 0 => ("NineYearsModel", "d", "[I", true)
  | 1 => ("NineYearsModel", "kept", "[I", true)
  | 2 => ("NineYearsModel", "images", "I", false)
  | 3 => ("NineYearsModel", "found", "[I", true)
  | 4 => ("NineYearsModel", "way", "[I", true)
  | 5 => ("NineYearsModel", "steps", "[I", true)
  | 6 => ("NineYearsModel", "stanceNow", "[I", true)
  | 7 => ("NineYearsModel", "offeredBy", "[I", true)
  | 8 => ("NineYearsModel", "isYear", "[Z", true)
  | 9 => ("NineYearsModel", "base", "I", false)
  | 10 => ("NineYearsModel", "at", "I", false)
  | 11 => ("NineYearsModel", "size", "I", false)
  | 12 => ("NineYearsModel", "fault", "I", false)
  | 13 => ("NineYearsModel", "opened", "I", false)
  | 14 => ("NineYearsModel", "isOrder", "Z", false)
  | 15 => ("NineYearsModel", "names", "[I", true)
  | 16 => ("NineYearsModel", "traced", "[I", true)
  | 17 => ("NineYearsModel", "traceMany", "I", false)
  | 18 => ("NineYearsModel", "runs", "I", false)
  | 19 => ("NineYearsModel", "bitsOf", "[I", true)
  | 20 => ("NineYearsModel", "sizeOf", "[I", true)
  | 21 => ("NineYearsModel", "number", "[I", true)
  | _ => ("NineYearsModel", "lifted", "[I", true)
def tyX9 : Nat → FieldType := fun k => match k with
  | 0 => .array .int
  | 1 => .array .int
  | 2 => .int
  | 3 => .array .int
  | 4 => .array .int
  | 5 => .array .int
  | 6 => .array .int
  | 7 => .array .int
  | 8 => .array .boolean
  | 9 => .int
  | 10 => .int
  | 11 => .int
  | 12 => .int
  | 13 => .int
  | 14 => .boolean
  | 15 => .array .int
  | 16 => .array .int
  | 17 => .int
  | 18 => .int
  | 19 => .array .int
  | 20 => .array .int
  | 21 => .array .int
  | _ => .array .int
abbrev wsX90 : List Cond := u_ws RX9 TX9 23
theorem nmX9 : ∀ a, a < 23 → ∀ b, b < 23 → a ≠ b → (TX9 a).2.1 ≠ (TX9 b).2.1 := by decide +kernel
theorem tyX9_ok : ∀ k, k < 23 → parseFieldDescriptor (TX9 k).2.2.1 = some (tyX9 k) := by decide +kernel
def RL : String := "NineYearsLaw"
abbrev vwCl : List vw_C := [(RX0, TX0, 11), (RX1, TX1, 6), (RX2, TX2, 3), (RX3, TX3, 3), (RX4, TX4, 8), (RX5, TX5, 2), (RX6, TX6, 5), (RX7, TX7, 17), (RX8, TX8, 11), (RX9, TX9, 23)]
