def R_RB : String := "RateBreaks"
def F_RB : u_T := fun k => match k with
  | 0 => ("RateBreaks", "text", "LRateBreaks$Text;", true)
  | 1 => ("RateBreaks", "rates", "LRateBreaks$Rates;", false)
  | 2 => ("RateBreaks", "draft", "LRateBreaks$Rates;", false)
  | 3 => ("RateBreaks", "shipments", "[LRateBreaks$Shipment;", true)
  | 4 => ("RateBreaks", "made", "I", false)
  | 5 => ("RateBreaks", "contracts", "[LRateBreaks$Ratios;", true)
  | 6 => ("RateBreaks", "bookedBy", "[I", true)
  | _ => ("RateBreaks", "currencies", "LRateBreaks$Ratios;", true)
def t_RB : Nat → FieldType := fun k => match k with
  | 0 => .object "RateBreaks$Text"
  | 1 => .object "RateBreaks$Rates"
  | 2 => .object "RateBreaks$Rates"
  | 3 => .array (.object "RateBreaks$Shipment")
  | 4 => .int
  | 5 => .array (.object "RateBreaks$Ratios")
  | 6 => .array .int
  | _ => .object "RateBreaks$Ratios"
def R_Tx : String := "RateBreaks$Text"
def F_Tx : u_T := fun k => match k with
  | 0 => ("RateBreaks$Text", "signs", "[I", true)
  | 1 => ("RateBreaks$Text", "numbers", "[I", true)
  | 2 => ("RateBreaks$Text", "length", "I", false)
  | _ => ("RateBreaks$Text", "place", "I", false)
def t_Tx : Nat → FieldType := fun k => match k with
  | 0 => .array .int
  | 1 => .array .int
  | 2 => .int
  | _ => .int
def R_Ra : String := "RateBreaks$Rates"
def F_Ra : u_T := fun k => match k with
  | 0 => ("RateBreaks$Rates", "lanes", "[I", true)
  | 1 => ("RateBreaks$Rates", "above", "[I", true)
  | 2 => ("RateBreaks$Rates", "upTo", "[I", true)
  | 3 => ("RateBreaks$Rates", "cents", "[I", true)
  | 4 => ("RateBreaks$Rates", "divisors", "[I", true)
  | 5 => ("RateBreaks$Rates", "minima", "[I", true)
  | 6 => ("RateBreaks$Rates", "fuelUps", "[I", true)
  | 7 => ("RateBreaks$Rates", "fuelDowns", "[I", true)
  | 8 => ("RateBreaks$Rates", "lines", "I", false)
  | _ => ("RateBreaks$Rates", "steps", "I", false)
def t_Ra : Nat → FieldType := fun k => match k with
  | 0 => .array .int
  | 1 => .array .int
  | 2 => .array .int
  | 3 => .array .int
  | 4 => .array .int
  | 5 => .array .int
  | 6 => .array .int
  | 7 => .array .int
  | 8 => .int
  | _ => .int
def R_Ro : String := "RateBreaks$Ratios"
def F_Ro : u_T := fun k => match k with
  | 0 => ("RateBreaks$Ratios", "froms", "[I", true)
  | 1 => ("RateBreaks$Ratios", "ups", "[I", true)
  | 2 => ("RateBreaks$Ratios", "downs", "[I", true)
  | _ => ("RateBreaks$Ratios", "size", "I", false)
def t_Ro : Nat → FieldType := fun k => match k with
  | 0 => .array .int
  | 1 => .array .int
  | 2 => .array .int
  | _ => .int
def R_Sh : String := "RateBreaks$Shipment"
def F_Sh : u_T := fun k => match k with
  | 0 => ("RateBreaks$Shipment", "zone", "I", true)
  | 1 => ("RateBreaks$Shipment", "grams", "I", false)
  | 2 => ("RateBreaks$Shipment", "volume", "I", false)
  | 3 => ("RateBreaks$Shipment", "service", "I", false)
  | 4 => ("RateBreaks$Shipment", "cents", "I", false)
  | _ => ("RateBreaks$Shipment", "left", "I", false)
def t_Sh : Nat → FieldType := fun k => match k with
  | 0 => .int
  | 1 => .int
  | 2 => .int
  | 3 => .int
  | 4 => .int
  | _ => .int
def R_Mo : String := "RateBreaksModel"
def F_Mo : u_T := fun k => match k with
  | 0 => ("RateBreaksModel", "thrownCode", "I", false)
  | 1 => ("RateBreaksModel", "text", "[I", true)
  | 2 => ("RateBreaksModel", "signs", "I", false)
  | 3 => ("RateBreaksModel", "lines", "I", false)
  | 4 => ("RateBreaksModel", "line", "[I", true)
  | 5 => ("RateBreaksModel", "newLines", "I", false)
  | 6 => ("RateBreaksModel", "newLine", "[I", true)
  | 7 => ("RateBreaksModel", "at", "I", false)
  | 8 => ("RateBreaksModel", "shipments", "I", false)
  | 9 => ("RateBreaksModel", "gone", "[Z", true)
  | 10 => ("RateBreaksModel", "zone", "[I", true)
  | 11 => ("RateBreaksModel", "grams", "[I", true)
  | 12 => ("RateBreaksModel", "volume", "[I", true)
  | 13 => ("RateBreaksModel", "service", "[I", true)
  | 14 => ("RateBreaksModel", "price", "[I", true)
  | 15 => ("RateBreaksModel", "left", "[I", true)
  | 16 => ("RateBreaksModel", "contracts", "[I", true)
  | 17 => ("RateBreaksModel", "from", "[I", true)
  | 18 => ("RateBreaksModel", "up", "[I", true)
  | 19 => ("RateBreaksModel", "down", "[I", true)
  | 20 => ("RateBreaksModel", "days", "I", false)
  | 21 => ("RateBreaksModel", "day", "[I", true)
  | 22 => ("RateBreaksModel", "dayUp", "[I", true)
  | 23 => ("RateBreaksModel", "dayDown", "[I", true)
  | 24 => ("RateBreaksModel", "low", "[I", true)
  | 25 => ("RateBreaksModel", "high", "[I", true)
  | _ => ("RateBreaksModel", "costs", "[I", true)
def t_Mo : Nat → FieldType := fun k => match k with
  | 0 => .int
  | 1 => .array .int
  | 2 => .int
  | 3 => .int
  | 4 => .array .int
  | 5 => .int
  | 6 => .array .int
  | 7 => .int
  | 8 => .int
  | 9 => .array .boolean
  | 10 => .array .int
  | 11 => .array .int
  | 12 => .array .int
  | 13 => .array .int
  | 14 => .array .int
  | 15 => .array .int
  | 16 => .array .int
  | 17 => .array .int
  | 18 => .array .int
  | 19 => .array .int
  | 20 => .int
  | 21 => .array .int
  | 22 => .array .int
  | 23 => .array .int
  | 24 => .array .int
  | 25 => .array .int
  | _ => .array .int
def R_La : String := "RateBreaksLaw"
abbrev gj_cl : List vw_C := [(R_RB, F_RB, 8), (R_Tx, F_Tx, 4), (R_Ra, F_Ra, 10), (R_Ro, F_Ro, 4), (R_Sh, F_Sh, 6), (R_Mo, F_Mo, 27)]
abbrev gj_at : List FieldType := [.int, .long, .boolean, .object "RateBreaks$Shipment", .object "RateBreaks$Ratios"]
theorem n_RB : ∀ a, a < 8 → ∀ b, b < 8 → a ≠ b → (F_RB a).2.1 ≠ (F_RB b).2.1 := by decide +kernel
theorem to_RB : ∀ k, k < 8 → parseFieldDescriptor (F_RB k).2.2.1 = some (t_RB k) := by decide +kernel
theorem li_RB : ∀ w ∈ u_ws R_RB F_RB 8, w ∈ lw_tbl := by decide +kernel
theorem n_Tx : ∀ a, a < 4 → ∀ b, b < 4 → a ≠ b → (F_Tx a).2.1 ≠ (F_Tx b).2.1 := by decide +kernel
theorem to_Tx : ∀ k, k < 4 → parseFieldDescriptor (F_Tx k).2.2.1 = some (t_Tx k) := by decide +kernel
theorem li_Tx : ∀ w ∈ u_ws R_Tx F_Tx 4, w ∈ lw_tbl := by decide +kernel
theorem n_Ra : ∀ a, a < 10 → ∀ b, b < 10 → a ≠ b → (F_Ra a).2.1 ≠ (F_Ra b).2.1 := by decide +kernel
theorem to_Ra : ∀ k, k < 10 → parseFieldDescriptor (F_Ra k).2.2.1 = some (t_Ra k) := by decide +kernel
theorem li_Ra : ∀ w ∈ u_ws R_Ra F_Ra 10, w ∈ lw_tbl := by decide +kernel
theorem n_Ro : ∀ a, a < 4 → ∀ b, b < 4 → a ≠ b → (F_Ro a).2.1 ≠ (F_Ro b).2.1 := by decide +kernel
theorem to_Ro : ∀ k, k < 4 → parseFieldDescriptor (F_Ro k).2.2.1 = some (t_Ro k) := by decide +kernel
theorem li_Ro : ∀ w ∈ u_ws R_Ro F_Ro 4, w ∈ lw_tbl := by decide +kernel
theorem n_Sh : ∀ a, a < 6 → ∀ b, b < 6 → a ≠ b → (F_Sh a).2.1 ≠ (F_Sh b).2.1 := by decide +kernel
theorem to_Sh : ∀ k, k < 6 → parseFieldDescriptor (F_Sh k).2.2.1 = some (t_Sh k) := by decide +kernel
theorem li_Sh : ∀ w ∈ u_ws R_Sh F_Sh 6, w ∈ lw_tbl := by decide +kernel
theorem n_Mo : ∀ a, a < 27 → ∀ b, b < 27 → a ≠ b → (F_Mo a).2.1 ≠ (F_Mo b).2.1 := by decide +kernel
theorem to_Mo : ∀ k, k < 27 → parseFieldDescriptor (F_Mo k).2.2.1 = some (t_Mo k) := by decide +kernel
theorem li_Mo : ∀ w ∈ u_ws R_Mo F_Mo 27, w ∈ lw_tbl := by decide +kernel
