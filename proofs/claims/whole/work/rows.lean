section
-- ===== PART A: goes FIRST, ahead of the names: the tables' words, and 'selects' of the private methods out of them =====
/-- a private method of a class that the tables say can be made, by its rows of tables_1 -/
def lw_okq (q : MethodName × Nat) : Prop := (q.1.cls ≠ "java/lang/invoke/MethodHandle" ∧ q.1.cls ≠ "java/lang/invoke/VarHandle") ∧ Cond.instantiable q.1.cls q.2 ∈ tables_1 ∧ Cond.privateMethod q.1 ∈ tables_1 ∧ Cond.instanceMethod q.1 ∈ tables_1
theorem lw_p0 : lw_okq (⟨"RateBreaks", "readInto", "(LRateBreaks$Rates;)I"⟩, 8) := ⟨⟨by decide +kernel, by decide +kernel⟩, List.mem_of_getElem? (i := 17) (by decide +kernel), List.mem_of_getElem? (i := 147) (by decide +kernel), List.mem_of_getElem? (i := 148) (by decide +kernel)⟩
theorem lw_p1 : lw_okq (⟨"RateBreaks$Text", "takeNumber", "()I"⟩, 4) := ⟨⟨by decide +kernel, by decide +kernel⟩, List.mem_of_getElem? (i := 25) (by decide +kernel), List.mem_of_getElem? (i := 163) (by decide +kernel), List.mem_of_getElem? (i := 164) (by decide +kernel)⟩
theorem lw_p2 : lw_okq (⟨"RateBreaks$Rates", "takeKind", "(I[I)Z"⟩, 10) := ⟨⟨by decide +kernel, by decide +kernel⟩, List.mem_of_getElem? (i := 47) (by decide +kernel), List.mem_of_getElem? (i := 175) (by decide +kernel), List.mem_of_getElem? (i := 176) (by decide +kernel)⟩
theorem lw_p3 : lw_okq (⟨"RateBreaks$Rates", "takeStep", "(IIII)Z"⟩, 10) := ⟨⟨by decide +kernel, by decide +kernel⟩, List.mem_of_getElem? (i := 47) (by decide +kernel), List.mem_of_getElem? (i := 179) (by decide +kernel), List.mem_of_getElem? (i := 180) (by decide +kernel)⟩
theorem lw_p4 : lw_okq (⟨"RateBreaks$Rates", "heaviest", "(I)I"⟩, 10) := ⟨⟨by decide +kernel, by decide +kernel⟩, List.mem_of_getElem? (i := 47) (by decide +kernel), List.mem_of_getElem? (i := 188) (by decide +kernel), List.mem_of_getElem? (i := 189) (by decide +kernel)⟩
theorem lw_p5 : lw_okq (⟨"java/lang/Throwable", "fillInStackTrace", "(I)Ljava/lang/Throwable;"⟩, 6) := ⟨⟨by decide +kernel, by decide +kernel⟩, List.mem_of_getElem? (i := 266) (by decide +kernel), List.mem_of_getElem? (i := 264) (by decide +kernel), List.mem_of_getElem? (i := 265) (by decide +kernel)⟩
theorem lw_p6 : lw_okq (⟨"RateBreaks", "present", "(I)LRateBreaks$Shipment;"⟩, 8) := ⟨⟨by decide +kernel, by decide +kernel⟩, List.mem_of_getElem? (i := 17) (by decide +kernel), List.mem_of_getElem? (i := 367) (by decide +kernel), List.mem_of_getElem? (i := 368) (by decide +kernel)⟩
theorem lw_p7 : lw_okq (⟨"RateBreaks", "priceNow", "(LRateBreaks$Shipment;I)I"⟩, 8) := ⟨⟨by decide +kernel, by decide +kernel⟩, List.mem_of_getElem? (i := 17) (by decide +kernel), List.mem_of_getElem? (i := 425) (by decide +kernel), List.mem_of_getElem? (i := 426) (by decide +kernel)⟩
theorem lw_p8 : lw_okq (⟨"RateBreaks$Ratios", "placeFor", "(I)I"⟩, 4) := ⟨⟨by decide +kernel, by decide +kernel⟩, List.mem_of_getElem? (i := 93) (by decide +kernel), List.mem_of_getElem? (i := 479) (by decide +kernel), List.mem_of_getElem? (i := 480) (by decide +kernel)⟩
theorem lw_p9 : lw_okq (⟨"RateBreaksModel", "oneLine", "()Z"⟩, 27) := ⟨⟨by decide +kernel, by decide +kernel⟩, List.mem_of_getElem? (i := 572) (by decide +kernel), List.mem_of_getElem? (i := 676) (by decide +kernel), List.mem_of_getElem? (i := 677) (by decide +kernel)⟩
theorem lw_p10 : lw_okq (⟨"RateBreaksModel", "here", "()I"⟩, 27) := ⟨⟨by decide +kernel, by decide +kernel⟩, List.mem_of_getElem? (i := 572) (by decide +kernel), List.mem_of_getElem? (i := 680) (by decide +kernel), List.mem_of_getElem? (i := 681) (by decide +kernel)⟩
theorem lw_p11 : lw_okq (⟨"RateBreaksModel", "number", "()I"⟩, 27) := ⟨⟨by decide +kernel, by decide +kernel⟩, List.mem_of_getElem? (i := 572) (by decide +kernel), List.mem_of_getElem? (i := 684) (by decide +kernel), List.mem_of_getElem? (i := 685) (by decide +kernel)⟩
theorem lw_p12 : lw_okq (⟨"RateBreaksModel", "heaviest", "(II)I"⟩, 27) := ⟨⟨by decide +kernel, by decide +kernel⟩, List.mem_of_getElem? (i := 572) (by decide +kernel), List.mem_of_getElem? (i := 690) (by decide +kernel), List.mem_of_getElem? (i := 691) (by decide +kernel)⟩
theorem lw_p13 : lw_okq (⟨"RateBreaksModel", "seen", "(II)Z"⟩, 27) := ⟨⟨by decide +kernel, by decide +kernel⟩, List.mem_of_getElem? (i := 572) (by decide +kernel), List.mem_of_getElem? (i := 694) (by decide +kernel), List.mem_of_getElem? (i := 695) (by decide +kernel)⟩
theorem lw_p14 : lw_okq (⟨"RateBreaksModel", "noShipment", "(I)Z"⟩, 27) := ⟨⟨by decide +kernel, by decide +kernel⟩, List.mem_of_getElem? (i := 572) (by decide +kernel), List.mem_of_getElem? (i := 707) (by decide +kernel), List.mem_of_getElem? (i := 708) (by decide +kernel)⟩
theorem lw_p15 : lw_okq (⟨"RateBreaksModel", "toPay", "(II)I"⟩, 27) := ⟨⟨by decide +kernel, by decide +kernel⟩, List.mem_of_getElem? (i := 572) (by decide +kernel), List.mem_of_getElem? (i := 711) (by decide +kernel), List.mem_of_getElem? (i := 712) (by decide +kernel)⟩
def lw_privs_1 : List (MethodName × Nat) := [(⟨"RateBreaks", "readInto", "(LRateBreaks$Rates;)I"⟩, 8), (⟨"RateBreaks$Text", "takeNumber", "()I"⟩, 4), (⟨"RateBreaks$Rates", "takeKind", "(I[I)Z"⟩, 10), (⟨"RateBreaks$Rates", "takeStep", "(IIII)Z"⟩, 10), (⟨"RateBreaks$Rates", "heaviest", "(I)I"⟩, 10), (⟨"java/lang/Throwable", "fillInStackTrace", "(I)Ljava/lang/Throwable;"⟩, 6), (⟨"RateBreaks", "present", "(I)LRateBreaks$Shipment;"⟩, 8), (⟨"RateBreaks", "priceNow", "(LRateBreaks$Shipment;I)I"⟩, 8), (⟨"RateBreaks$Ratios", "placeFor", "(I)I"⟩, 4), (⟨"RateBreaksModel", "oneLine", "()Z"⟩, 27), (⟨"RateBreaksModel", "here", "()I"⟩, 27), (⟨"RateBreaksModel", "number", "()I"⟩, 27), (⟨"RateBreaksModel", "heaviest", "(II)I"⟩, 27), (⟨"RateBreaksModel", "seen", "(II)Z"⟩, 27), (⟨"RateBreaksModel", "noShipment", "(I)Z"⟩, 27), (⟨"RateBreaksModel", "toPay", "(II)I"⟩, 27)]
theorem lw_r1 : ∀ q ∈ lw_privs_1, lw_okq q := List.forall_mem_cons.mpr ⟨lw_p0, List.forall_mem_cons.mpr ⟨lw_p1, List.forall_mem_cons.mpr ⟨lw_p2, List.forall_mem_cons.mpr ⟨lw_p3, List.forall_mem_cons.mpr ⟨lw_p4, List.forall_mem_cons.mpr ⟨lw_p5, List.forall_mem_cons.mpr ⟨lw_p6, List.forall_mem_cons.mpr ⟨lw_p7, List.forall_mem_cons.mpr ⟨lw_p8, List.forall_mem_cons.mpr ⟨lw_p9, List.forall_mem_cons.mpr ⟨lw_p10, List.forall_mem_cons.mpr ⟨lw_p11, List.forall_mem_cons.mpr ⟨lw_p12, List.forall_mem_cons.mpr ⟨lw_p13, List.forall_mem_cons.mpr ⟨lw_p14, List.forall_mem_cons.mpr ⟨lw_p15, fun _ h => absurd h List.not_mem_nil⟩⟩⟩⟩⟩⟩⟩⟩⟩⟩⟩⟩⟩⟩⟩⟩
theorem lw_p16 : lw_okq (⟨"RateBreaksModel", "find", "(II)I"⟩, 27) := ⟨⟨by decide +kernel, by decide +kernel⟩, List.mem_of_getElem? (i := 572) (by decide +kernel), List.mem_of_getElem? (i := 715) (by decide +kernel), List.mem_of_getElem? (i := 716) (by decide +kernel)⟩
theorem lw_p17 : lw_okq (⟨"RateBreaksModel", "priceOf", "(II)I"⟩, 27) := ⟨⟨by decide +kernel, by decide +kernel⟩, List.mem_of_getElem? (i := 572) (by decide +kernel), List.mem_of_getElem? (i := 723) (by decide +kernel), List.mem_of_getElem? (i := 724) (by decide +kernel)⟩
theorem lw_p18 : lw_okq (⟨"RateBreaksModel", "booked", "(I)I"⟩, 27) := ⟨⟨by decide +kernel, by decide +kernel⟩, List.mem_of_getElem? (i := 572) (by decide +kernel), List.mem_of_getElem? (i := 730) (by decide +kernel), List.mem_of_getElem? (i := 731) (by decide +kernel)⟩
def lw_privs_2 : List (MethodName × Nat) := [(⟨"RateBreaksModel", "find", "(II)I"⟩, 27), (⟨"RateBreaksModel", "priceOf", "(II)I"⟩, 27), (⟨"RateBreaksModel", "booked", "(I)I"⟩, 27)]
theorem lw_r2 : ∀ q ∈ lw_privs_2, lw_okq q := List.forall_mem_cons.mpr ⟨lw_p16, List.forall_mem_cons.mpr ⟨lw_p17, List.forall_mem_cons.mpr ⟨lw_p18, fun _ h => absurd h List.not_mem_nil⟩⟩⟩
def lw_privs : List (MethodName × Nat) := lw_privs_1 ++ (lw_privs_2)
def lw_tbl : List Cond := k2_sels lw_privs ++ tables_1
theorem lw_privs_ok : ∀ q ∈ lw_privs, lw_okq q := by
  show ∀ q ∈ lw_privs_1 ++ (lw_privs_2), lw_okq q
  exact List.forall_mem_append.mpr ⟨lw_r1, lw_r2⟩
end
section
def R_RB : String := "RateBreaks"
def F_RB : u_T := fun k => match k with
  | 0 => ("RateBreaks", "text", "LRateBreaks$Text;", true)
  | 1 => ("RateBreaks", "rates", "LRateBreaks$Rates;", false)
  | 2 => ("RateBreaks", "draft", "LRateBreaks$Rates;", false)
  | 3 => ("RateBreaks", "shipments", "[LRateBreaks$Shipment;", true)
  | 4 => ("RateBreaks", "made", "I", false)
  | 5 => ("RateBreaks", "contracts", "[LRateBreaks$Ratios;", true)
  | 6 => ("RateBreaks", "bookedBy", "[I", true)
  | _ => ("RateBreaks", "currencies", "LRateBreaks$Ratios;", true)
def t_RB : Nat → FieldType := fun k => match k with
  | 0 => .object "RateBreaks$Text"
  | 1 => .object "RateBreaks$Rates"
  | 2 => .object "RateBreaks$Rates"
  | 3 => .array (.object "RateBreaks$Shipment")
  | 4 => .int
  | 5 => .array (.object "RateBreaks$Ratios")
  | 6 => .array .int
  | _ => .object "RateBreaks$Ratios"
def R_Tx : String := "RateBreaks$Text"
def F_Tx : u_T := fun k => match k with
  | 0 => ("RateBreaks$Text", "signs", "[I", true)
  | 1 => ("RateBreaks$Text", "numbers", "[I", true)
  | 2 => ("RateBreaks$Text", "length", "I", false)
  | _ => ("RateBreaks$Text", "place", "I", false)
def t_Tx : Nat → FieldType := fun k => match k with
  | 0 => .array .int
  | 1 => .array .int
  | 2 => .int
  | _ => .int
def R_Ra : String := "RateBreaks$Rates"
def F_Ra : u_T := fun k => match k with
  | 0 => ("RateBreaks$Rates", "lanes", "[I", true)
  | 1 => ("RateBreaks$Rates", "above", "[I", true)
  | 2 => ("RateBreaks$Rates", "upTo", "[I", true)
  | 3 => ("RateBreaks$Rates", "cents", "[I", true)
  | 4 => ("RateBreaks$Rates", "divisors", "[I", true)
  | 5 => ("RateBreaks$Rates", "minima", "[I", true)
  | 6 => ("RateBreaks$Rates", "fuelUps", "[I", true)
  | 7 => ("RateBreaks$Rates", "fuelDowns", "[I", true)
  | 8 => ("RateBreaks$Rates", "lines", "I", false)
  | _ => ("RateBreaks$Rates", "steps", "I", false)
def t_Ra : Nat → FieldType := fun k => match k with
  | 0 => .array .int
  | 1 => .array .int
  | 2 => .array .int
  | 3 => .array .int
  | 4 => .array .int
  | 5 => .array .int
  | 6 => .array .int
  | 7 => .array .int
  | 8 => .int
  | _ => .int
def R_Ro : String := "RateBreaks$Ratios"
def F_Ro : u_T := fun k => match k with
  | 0 => ("RateBreaks$Ratios", "froms", "[I", true)
  | 1 => ("RateBreaks$Ratios", "ups", "[I", true)
  | 2 => ("RateBreaks$Ratios", "downs", "[I", true)
  | _ => ("RateBreaks$Ratios", "size", "I", false)
def t_Ro : Nat → FieldType := fun k => match k with
  | 0 => .array .int
  | 1 => .array .int
  | 2 => .array .int
  | _ => .int
def R_Sh : String := "RateBreaks$Shipment"
def F_Sh : u_T := fun k => match k with
  | 0 => ("RateBreaks$Shipment", "zone", "I", true)
  | 1 => ("RateBreaks$Shipment", "grams", "I", false)
  | 2 => ("RateBreaks$Shipment", "volume", "I", false)
  | 3 => ("RateBreaks$Shipment", "service", "I", false)
  | 4 => ("RateBreaks$Shipment", "cents", "I", false)
  | _ => ("RateBreaks$Shipment", "left", "I", false)
def t_Sh : Nat → FieldType := fun k => match k with
  | 0 => .int
  | 1 => .int
  | 2 => .int
  | 3 => .int
  | 4 => .int
  | _ => .int
def R_Mo : String := "RateBreaksModel"
def F_Mo : u_T := fun k => match k with
  | 0 => ("RateBreaksModel", "thrownCode", "I", false)
  | 1 => ("RateBreaksModel", "text", "[I", true)
  | 2 => ("RateBreaksModel", "signs", "I", false)
  | 3 => ("RateBreaksModel", "lines", "I", false)
  | 4 => ("RateBreaksModel", "line", "[I", true)
  | 5 => ("RateBreaksModel", "newLines", "I", false)
  | 6 => ("RateBreaksModel", "newLine", "[I", true)
  | 7 => ("RateBreaksModel", "at", "I", false)
  | 8 => ("RateBreaksModel", "shipments", "I", false)
  | 9 => ("RateBreaksModel", "gone", "[Z", true)
  | 10 => ("RateBreaksModel", "zone", "[I", true)
  | 11 => ("RateBreaksModel", "grams", "[I", true)
  | 12 => ("RateBreaksModel", "volume", "[I", true)
  | 13 => ("RateBreaksModel", "service", "[I", true)
  | 14 => ("RateBreaksModel", "price", "[I", true)
  | 15 => ("RateBreaksModel", "left", "[I", true)
  | 16 => ("RateBreaksModel", "contracts", "[I", true)
  | 17 => ("RateBreaksModel", "from", "[I", true)
  | 18 => ("RateBreaksModel", "up", "[I", true)
  | 19 => ("RateBreaksModel", "down", "[I", true)
  | 20 => ("RateBreaksModel", "days", "I", false)
  | 21 => ("RateBreaksModel", "day", "[I", true)
  | 22 => ("RateBreaksModel", "dayUp", "[I", true)
  | 23 => ("RateBreaksModel", "dayDown", "[I", true)
  | 24 => ("RateBreaksModel", "low", "[I", true)
  | 25 => ("RateBreaksModel", "high", "[I", true)
  | _ => ("RateBreaksModel", "costs", "[I", true)
def t_Mo : Nat → FieldType := fun k => match k with
  | 0 => .int
  | 1 => .array .int
  | 2 => .int
  | 3 => .int
  | 4 => .array .int
  | 5 => .int
  | 6 => .array .int
  | 7 => .int
  | 8 => .int
  | 9 => .array .boolean
  | 10 => .array .int
  | 11 => .array .int
  | 12 => .array .int
  | 13 => .array .int
  | 14 => .array .int
  | 15 => .array .int
  | 16 => .array .int
  | 17 => .array .int
  | 18 => .array .int
  | 19 => .array .int
  | 20 => .int
  | 21 => .array .int
  | 22 => .array .int
  | 23 => .array .int
  | 24 => .array .int
  | 25 => .array .int
  | _ => .array .int
def R_La : String := "RateBreaksLaw"
abbrev gj_cl : List vw_C := [(R_RB, F_RB, 8), (R_Tx, F_Tx, 4), (R_Ra, F_Ra, 10), (R_Ro, F_Ro, 4), (R_Sh, F_Sh, 6), (R_Mo, F_Mo, 27)]
abbrev gj_at : List FieldType := [.int, .long, .boolean, .object "RateBreaks$Shipment", .object "RateBreaks$Ratios"]
theorem n_RB : ∀ a, a < 8 → ∀ b, b < 8 → a ≠ b → (F_RB a).2.1 ≠ (F_RB b).2.1 := by decide +kernel
theorem to_RB : ∀ k, k < 8 → parseFieldDescriptor (F_RB k).2.2.1 = some (t_RB k) := by decide +kernel
theorem li_RB : ∀ w ∈ u_ws R_RB F_RB 8, w ∈ lw_tbl := by decide +kernel
theorem n_Tx : ∀ a, a < 4 → ∀ b, b < 4 → a ≠ b → (F_Tx a).2.1 ≠ (F_Tx b).2.1 := by decide +kernel
theorem to_Tx : ∀ k, k < 4 → parseFieldDescriptor (F_Tx k).2.2.1 = some (t_Tx k) := by decide +kernel
theorem li_Tx : ∀ w ∈ u_ws R_Tx F_Tx 4, w ∈ lw_tbl := by decide +kernel
theorem n_Ra : ∀ a, a < 10 → ∀ b, b < 10 → a ≠ b → (F_Ra a).2.1 ≠ (F_Ra b).2.1 := by decide +kernel
theorem to_Ra : ∀ k, k < 10 → parseFieldDescriptor (F_Ra k).2.2.1 = some (t_Ra k) := by decide +kernel
theorem li_Ra : ∀ w ∈ u_ws R_Ra F_Ra 10, w ∈ lw_tbl := by decide +kernel
theorem n_Ro : ∀ a, a < 4 → ∀ b, b < 4 → a ≠ b → (F_Ro a).2.1 ≠ (F_Ro b).2.1 := by decide +kernel
theorem to_Ro : ∀ k, k < 4 → parseFieldDescriptor (F_Ro k).2.2.1 = some (t_Ro k) := by decide +kernel
theorem li_Ro : ∀ w ∈ u_ws R_Ro F_Ro 4, w ∈ lw_tbl := by decide +kernel
theorem n_Sh : ∀ a, a < 6 → ∀ b, b < 6 → a ≠ b → (F_Sh a).2.1 ≠ (F_Sh b).2.1 := by decide +kernel
theorem to_Sh : ∀ k, k < 6 → parseFieldDescriptor (F_Sh k).2.2.1 = some (t_Sh k) := by decide +kernel
theorem li_Sh : ∀ w ∈ u_ws R_Sh F_Sh 6, w ∈ lw_tbl := by decide +kernel
theorem n_Mo : ∀ a, a < 27 → ∀ b, b < 27 → a ≠ b → (F_Mo a).2.1 ≠ (F_Mo b).2.1 := by decide +kernel
theorem to_Mo : ∀ k, k < 27 → parseFieldDescriptor (F_Mo k).2.2.1 = some (t_Mo k) := by decide +kernel
theorem li_Mo : ∀ w ∈ u_ws R_Mo F_Mo 27, w ∈ lw_tbl := by decide +kernel
end
section
/-! THE MEMORY BY LABELS: a value's reference is a label; ad gives the label's address -/
def gj_tv (ad : Nat → Nat) (v : Value) : Value := match v with
  | .ref x => .ref (ad x)
  | w => w
abbrev gj_X : Type := (Nat → Int32) ⊕ (Nat → Int64) ⊕ (Nat → UInt32) ⊕ (Nat → UInt64) ⊕ (Nat → Option Nat)
def gj_tx (ad : Nat → Nat) (x : gj_X) : gj_X := match x with
  | .inr (.inr (.inr (.inr f))) => .inr (.inr (.inr (.inr (fun j => (f j).map ad))))
  | w => w
def gj_te (dA : Nat → ClassId) (ad : Nat → Nat) (e : va_E) : va_E := match e with
  | .inl a => .inl (dA a.1, a.2.1, gj_tx ad a.2.2)
  | .inr o => .inr (o.1, o.2.map (gj_tv ad))
/-- label 0 is the script's; the labels 1 .. n are the world's -/
def gj_ws (dA : Nat → ClassId) (ad : Nat → Nat) (n : Nat) (C : Nat → va_E) : va_W := (List.range n).map (fun x => (ad (x + 1), gj_te dA ad (C (x + 1))))
theorem gj_ws_get {dA : Nat → ClassId} {ad : Nat → Nat} {n j : Nat} {C : Nat → va_E} (h : j < n) : (gj_ws dA ad n C)[j]? = some (ad (j + 1), gj_te dA ad (C (j + 1))) := by
  simp [gj_ws, h]
theorem gj_ws_out {dA : Nat → ClassId} {ad : Nat → Nat} {n j : Nat} {C : Nat → va_E} (h : ¬ j < n) : (gj_ws dA ad n C)[j]? = none := by
  simp [gj_ws]
  omega
theorem gj_ws_at {dA : Nat → ClassId} {ad : Nat → Nat} {n x : Nat} {C : Nat → va_E} (h0 : x ≠ 0) (h : x ≤ n) : (gj_ws dA ad n C)[x - 1]? = some (ad x, gj_te dA ad (C x)) := by
  obtain ⟨y, rfl⟩ : ∃ y, x = y + 1 := ⟨x - 1, by omega⟩
  exact gj_ws_get (by omega)
theorem gj_ws_set {dA : Nat → ClassId} {ad : Nat → Nat} {n x : Nat} {C : Nat → va_E} (e : va_E) (h0 : x ≠ 0) : (gj_ws dA ad n C).set (x - 1) (ad x, gj_te dA ad e) = gj_ws dA ad n (va_up C x e) := by
  obtain ⟨y, rfl⟩ : ∃ y, x = y + 1 := ⟨x - 1, by omega⟩
  rw [Nat.add_sub_cancel]
  apply List.ext_getElem?
  intro j
  rw [List.getElem?_set]
  by_cases hj : j < n
  · by_cases hx : y = j
    · subst hx
      rw [if_pos rfl, gj_ws_get hj, va_up_self, if_pos (by simp [gj_ws, hj])]
    · rw [if_neg hx, gj_ws_get hj, gj_ws_get hj, va_up_ne C e (by omega)]
  · rw [gj_ws_out hj, gj_ws_out hj]
    by_cases hx : y = j
    · subst hx
      rw [if_pos rfl, if_neg (by simp [gj_ws, hj])]
    · rw [if_neg hx]
/-- the references are labels up to n -/
def gj_ov (n : Nat) (v : Value) : Prop := match v with
  | .ref x => x ≤ n
  | _ => True
def gj_ox (n : Nat) (x : gj_X) : Prop := match x with
  | .inr (.inr (.inr (.inr f))) => ∀ j y, f j = some y → y ≤ n
  | _ => True
def gj_oe (n : Nat) (e : va_E) : Prop := match e with
  | .inl a => gj_ox n a.2.2
  | .inr o => ∀ v ∈ o.2, gj_ov n v
def gj_oC (n : Nat) (C : Nat → va_E) : Prop := ∀ x, x ≤ n → gj_oe n (C x)
def gj_ol (n : Nat) (lc : List (Nat × Value)) (st : List Value) : Prop := (∀ q ∈ lc, gj_ov n q.2) ∧ ∀ v ∈ st, gj_ov n v
def gj_tl (ad : Nat → Nat) (lc : List (Nat × Value)) : List (Nat × Value) := lc.map (fun q => (q.1, gj_tv ad q.2))
theorem gj_cat (ad : Nat → Nat) (v : Value) : (gj_tv ad v).category = v.category := by cases v <;> rfl
theorem gj_cats (ad : Nat → Nat) (st : List Value) : ((st.map (gj_tv ad)).map fun v => v.category) = st.map fun v => v.category := by
  rw [List.map_map]
  exact List.map_congr_left fun v _ => gj_cat ad v
theorem gj_tv_eq {n : Nat} {ad ad' : Nat → Nat} (h : ∀ x, x ≤ n → ad' x = ad x) {v : Value} (hv : gj_ov n v) : gj_tv ad' v = gj_tv ad v := by
  cases v <;> first | rfl | exact congrArg Value.ref (h _ hv)
theorem gj_ts_eq {n : Nat} {ad ad' : Nat → Nat} (h : ∀ x, x ≤ n → ad' x = ad x) {st : List Value} (hv : ∀ v ∈ st, gj_ov n v) : st.map (gj_tv ad') = st.map (gj_tv ad) :=
  List.map_congr_left fun v hm => gj_tv_eq h (hv v hm)
theorem gj_tl_eq {n : Nat} {ad ad' : Nat → Nat} (h : ∀ x, x ≤ n → ad' x = ad x) {lc : List (Nat × Value)} (hv : ∀ q ∈ lc, gj_ov n q.2) : gj_tl ad' lc = gj_tl ad lc :=
  List.map_congr_left fun q hm => by rw [gj_tv_eq h (hv q hm)]
theorem gj_tx_eq {n : Nat} {ad ad' : Nat → Nat} (h : ∀ x, x ≤ n → ad' x = ad x) {x : gj_X} (hx : gj_ox n x) : gj_tx ad' x = gj_tx ad x := by
  rcases x with f | f | f | f | f
  · rfl
  · rfl
  · rfl
  · rfl
  · have e : (fun j => (f j).map ad') = fun j => (f j).map ad := by
      funext j
      cases hf : f j with
      | none => rfl
      | some y => exact congrArg some (h y (hx j y hf))
    show (Sum.inr (Sum.inr (Sum.inr (Sum.inr (fun j => (f j).map ad')))) : gj_X) = _
    rw [e]
    rfl
theorem gj_te_eq {dA : Nat → ClassId} {n : Nat} {ad ad' : Nat → Nat} (h : ∀ x, x ≤ n → ad' x = ad x) {e : va_E} (he : gj_oe n e) : gj_te dA ad' e = gj_te dA ad e := by
  rcases e with a | o
  · show (Sum.inl (dA a.1, a.2.1, gj_tx ad' a.2.2) : va_E) = _
    rw [gj_tx_eq h he]
    rfl
  · show (Sum.inr (o.1, o.2.map (gj_tv ad')) : va_E) = _
    rw [gj_ts_eq h he]
    rfl
theorem gj_ws_eq {dA : Nat → ClassId} {n : Nat} {ad ad' : Nat → Nat} {C : Nat → va_E} (h : ∀ x, x ≤ n → ad' x = ad x) (hC : gj_oC n C) : gj_ws dA ad' n C = gj_ws dA ad n C :=
  List.map_congr_left fun x hx => by
    have hx : x + 1 ≤ n := List.mem_range.mp hx
    rw [h _ hx, gj_te_eq h (hC _ hx)]
theorem gj_ws_push {dA : Nat → ClassId} {n q : Nat} {ad : Nat → Nat} {C : Nat → va_E} {e : va_E} (hC : gj_oC n C) (he : gj_oe n e) : gj_ws dA ad n C ++ [(q, gj_te dA ad e)] = gj_ws dA (va_up ad (n + 1) q) (n + 1) (va_up C (n + 1) e) := by
  have h : ∀ x, x ≤ n → va_up ad (n + 1) q x = ad x := fun x hx => va_up_ne ad q (by omega)
  unfold gj_ws
  rw [List.range_succ, List.map_append]
  congr 1
  · refine List.map_congr_left fun x hx => ?_
    have hx : x + 1 ≤ n := List.mem_range.mp hx
    rw [h _ hx, va_up_ne C e (show x + 1 ≠ n + 1 by omega), gj_te_eq h (hC _ hx)]
  · show [(q, gj_te dA ad e)] = [(va_up ad (n + 1) q (n + 1), gj_te dA (va_up ad (n + 1) q) (va_up C (n + 1) e (n + 1)))]
    rw [va_up_self, va_up_self, gj_te_eq h he]
theorem gj_ov_le {n n' : Nat} (h : n ≤ n') {v : Value} (hv : gj_ov n v) : gj_ov n' v := by
  cases v <;> first | trivial | exact Nat.le_trans hv h
theorem gj_oe_le {n n' : Nat} (h : n ≤ n') {e : va_E} (he : gj_oe n e) : gj_oe n' e := by
  rcases e with ⟨k, m, f | f | f | f | f⟩ | o
  · trivial
  · trivial
  · trivial
  · trivial
  · exact fun j y hy => Nat.le_trans (he j y hy) h
  · exact fun v hv => gj_ov_le h (he v hv)
theorem gj_oC_push {n : Nat} {C : Nat → va_E} {e : va_E} (hC : gj_oC n C) (he : gj_oe (n + 1) e) : gj_oC (n + 1) (va_up C (n + 1) e) := by
  intro x hx
  by_cases h : x = n + 1
  · subst h
    rw [va_up_self]
    exact he
  · rw [va_up_ne C e h]
    exact gj_oe_le (Nat.le_succ n) (hC x (by omega))
theorem gj_oC_up {n x : Nat} {C : Nat → va_E} {e : va_E} (hC : gj_oC n C) (he : gj_oe n e) : gj_oC n (va_up C x e) := by
  intro y hy
  by_cases h : y = x
  · subst h
    rw [va_up_self]
    exact he
  · rw [va_up_ne C e h]
    exact hC y hy
theorem gj_ol_le {n n' : Nat} (h : n ≤ n') {lc : List (Nat × Value)} {st : List Value} (hl : gj_ol n lc st) : gj_ol n' lc st := ⟨fun q hq => gj_ov_le h (hl.1 q hq), fun v hv => gj_ov_le h (hl.2 v hv)⟩
theorem gj_ol_pop {n : Nat} {lc : List (Nat × Value)} {v : Value} {st : List Value} (h : gj_ol n lc (v :: st)) : gj_ol n lc st := ⟨h.1, fun w hw => h.2 w (List.mem_cons_of_mem _ hw)⟩
theorem gj_ol_push {n : Nat} {lc : List (Nat × Value)} {v : Value} {st : List Value} (h : gj_ol n lc st) (hv : gj_ov n v) : gj_ol n lc (v :: st) := ⟨h.1, fun w hw => (List.mem_cons.mp hw).elim (fun e => e ▸ hv) (h.2 w)⟩
theorem gj_ol_loc {n k i : Nat} {lc : List (Nat × Value)} {v : Value} {st : List Value} (h : gj_ol n lc st) (hk : lc[k]? = some (i, v)) : gj_ov n v := h.1 _ (List.mem_of_getElem? hk)
theorem gj_tl_at {ad : Nat → Nat} {lc : List (Nat × Value)} {k i : Nat} {v : Value} (h : lc[k]? = some (i, v)) : (gj_tl ad lc)[k]? = some (i, gj_tv ad v) := by
  simp [gj_tl, h]
def gj_st1 (lc : List (Nat × Value)) (i : Nat) (v : Value) : List (Nat × Value) := (i, v) :: lc.filter (fun q => !(q.1 == i) && !(q.1 + 1 == i && q.2.category == 2))
def gj_st2 (lc : List (Nat × Value)) (i : Nat) (v : Value) : List (Nat × Value) := (i, v) :: lc.filter (fun q => !(q.1 == i) && (!(q.1 == i + 1) && !(q.1 + 1 == i && q.2.category == 2)))
theorem gj_tl_st1 {ad : Nat → Nat} {lc : List (Nat × Value)} {i : Nat} {v : Value} : (i, gj_tv ad v) :: (gj_tl ad lc).filter (fun q => !(q.1 == i) && !(q.1 + 1 == i && q.2.category == 2)) = gj_tl ad (gj_st1 lc i v) := by
  unfold gj_tl gj_st1
  rw [List.map_cons, List.filter_map]
  congr 2
  refine List.filter_congr fun q _ => ?_
  simp [gj_cat]
theorem gj_tl_st2 {ad : Nat → Nat} {lc : List (Nat × Value)} {i : Nat} {v : Value} : (i, gj_tv ad v) :: (gj_tl ad lc).filter (fun q => !(q.1 == i) && (!(q.1 == i + 1) && !(q.1 + 1 == i && q.2.category == 2))) = gj_tl ad (gj_st2 lc i v) := by
  unfold gj_tl gj_st2
  rw [List.map_cons, List.filter_map]
  congr 2
  refine List.filter_congr fun q _ => ?_
  simp [gj_cat]
theorem gj_ol_st1 {n i : Nat} {lc : List (Nat × Value)} {v : Value} {st : List Value} (h : gj_ol n lc (v :: st)) : gj_ol n (gj_st1 lc i v) st :=
  ⟨fun q hq => (List.mem_cons.mp hq).elim (fun e => by rw [e]; exact h.2 v List.mem_cons_self) (fun hm => h.1 q (List.mem_filter.mp hm).1), (gj_ol_pop h).2⟩
theorem gj_ol_st2 {n i : Nat} {lc : List (Nat × Value)} {v : Value} {st : List Value} (h : gj_ol n lc (v :: st)) : gj_ol n (gj_st2 lc i v) st :=
  ⟨fun q hq => (List.mem_cons.mp hq).elim (fun e => by rw [e]; exact h.2 v List.mem_cons_self) (fun hm => h.1 q (List.mem_filter.mp hm).1), (gj_ol_pop h).2⟩
theorem gj_args {ad : Nat → Nat} : ∀ (as : List Value) (i : Nat), lv_args i (as.map (gj_tv ad)) = gj_tl ad (lv_args i as)
  | [], _ => rfl
  | v :: as, i => by
    show (i, gj_tv ad v) :: lv_args (if (gj_tv ad v).category = 2 then i + 2 else i + 1) (as.map (gj_tv ad)) = (i, gj_tv ad v) :: gj_tl ad (lv_args (if v.category = 2 then i + 2 else i + 1) as)
    rw [gj_cat, gj_args as]
theorem gj_args_ov {n : Nat} : ∀ (as : List Value) (i : Nat), (∀ v ∈ as, gj_ov n v) → ∀ q ∈ lv_args i as, gj_ov n q.2
  | [], _, _, q, hq => by cases hq
  | v :: as, i, h, q, hq => by
    have hq : q ∈ (i, v) :: lv_args (if v.category = 2 then i + 2 else i + 1) as := hq
    rcases List.mem_cons.mp hq with e | hm
    · rw [e]
      exact h v List.mem_cons_self
    · exact gj_args_ov as _ (fun w hw => h w (List.mem_cons_of_mem _ hw)) q hm
end
section
/-! THE JUDGEMENT: method md stands at pc with locals lc, stack st, memory (n, C); it comes to an end with Q -/
/-- name, bytes, locals, what it returns, its handlers -/
abbrev gj_M : Type := MethodName × ByteArray × Nat × Option FieldType × List (Nat × Nat × Nat × Nat)
/-- the end: a value, or an exception's class; the memory -/
abbrev gj_R : Type := (Option Value ⊕ String) × Nat × (Nat → va_E)
def gj_tys (dA : Nat → ClassId) : List (ClassId × FieldType) := (List.range gj_at.length).map (fun i => (dA i, gj_at.getD i .int))
theorem gj_tys_at {dA : Nat → ClassId} {k : Nat} {ty : FieldType} (h : gj_at[k]? = some ty) : (gj_tys dA)[k]? = some (dA k, ty) := by
  have hk : k < gj_at.length := (List.getElem?_eq_some_iff.mp h).1
  unfold gj_tys
  rw [List.getElem?_map, List.getElem?_range hk]
  show some (dA k, gj_at.getD k .int) = _
  rw [List.getD_eq_getElem?_getD, h]
  rfl
/-- what the Statement gives of the start, part by part -/
def gj_nar : List Cond := flatC (Jvm.Cond.and given_1 narrow_1)
def gj_Cx (md : gj_M) (p : Program) (l : Launch) (s : State) (m : MethodId) (meth : Method) (c : Code) (s0 : State) (a0 : Array Value) : Prop :=
  p.tables.exec = Jvm.exec ∧ c.code = md.2.1 ∧ l.stackTraces = false ∧ ((∀ w ∈ lw_tbl, w.before a0 s0 = true) ∧ (Jvm.Cond.and given_1 narrow_1).before a0 s0 = true) ∧ s0.WarmedH s.vm ∧ (s0.heap.size ≤ s.heap.size ∧ ∀ q : Nat, q < s0.heap.size → s.heap[q]? = s0.heap[q]?) ∧
  meth.sig.returnType = md.2.2.2.1 ∧ c.maxLocals = md.2.2.1 ∧ s.vm.findClass md.1.cls = some m.cls ∧ meth.locks = false ∧ meth.name = md.1.name ∧ c.exceptionTable.toList = tableOf md.2.2.2.2
def gj_ro (d K N : Nat) (R : Room) : Prop := d + 8 ≤ R.frames ∧ 60 * d + 200 ≤ R.locals ∧ K ≤ R.cells ∧ N ≤ R.slots
/-- what the machine's outcome is to the pure one -/
def gj_out (rv : Option Value ⊕ String) (ad : Nat → Nat) (s : State) (o : Outcome) (t : State) : Prop := match rv with
  | .inl v => o = .returned (v.map (gj_tv ad))
  | .inr E => ∃ (q : Addr) (ce : Cell), o = .threw q ∧ t.heap[q]? = some ce ∧ ce.vm = .none ∧ s.vm.findClass E = some ce.cls
def gj_or (n : Nat) (rv : Option Value ⊕ String) : Prop := match rv with
  | .inl (some v) => gj_ov n v
  | _ => True
def gj_E (below : List Frame) (s s0 : State) (dC : Nat → ClassId) (dI : Nat → Nat → Nat) (dA : Nat → ClassId) (ad : Nat → Nat) (C0 : va_E) (n K N : Nat) (Q : gj_R → Prop) : State → Prop := fun t =>
  ∃ (o : Outcome) (L : List Loc) (rv : Option Value ⊕ String) (n' : Nat) (C' : Nat → va_E) (ad' : Nat → Nat), t.status = .running ∧ Ended t below o ∧ s.WarmedH t.vm ∧ s.sameButNew ({ t with vm := s.vm } : State) L K N ∧ (∀ z ∈ L, s0.heap.size ≤ z.base) ∧
    (s0.heap.size ≤ t.heap.size ∧ ∀ q : Nat, q < s0.heap.size → t.heap[q]? = s0.heap[q]?) ∧ Q (rv, n', C') ∧ gj_out rv ad' s o t ∧ gj_or n' rv ∧ n ≤ n' ∧ (∀ x, x ≤ n → ad' x = ad x) ∧ C' 0 = C0 ∧
    va_P (dC, dI) gj_cl (gj_ws dA ad' n' C') t.heap ∧ va_D (fun q : Nat => s0.heap.size ≤ q) (gj_ws dA ad' n' C') ∧ gj_oC n' C'
/-- the script: label 0 -/
def gj_sc (s0 : State) (ad : Nat → Nat) (e : va_E) : Prop := ∃ (L : Nat) (xs : Nat → Int32), e = .inl (999, L, .inl xs) ∧ va_X (ad 0) L xs s0 s0.heap ∧ ad 0 < s0.heap.size
def gj_G (md : gj_M) (d K N k w pc : Nat) (lc : List (Nat × Value)) (st : List Value) (n : Nat) (C : Nat → va_E) (Q : gj_R → Prop) : Prop :=
  ∀ (p : Program) (l : Launch) (e : Env) (R : Room) (s : State) (m : MethodId) (args : Array Value) (below : List Frame) (meth : Method) (c : Code) (s0 : State) (a0 : Array Value) (dC : Nat → ClassId) (dI : Nat → Nat → Nat) (dA : Nat → ClassId) (H : Heap) (locs : List Loc) (ad : Nat → Nat) (ls : Array Slot),
    gj_Cx md p l s m meth c s0 a0 → gj_ro d K N R → va_K (dC, dI) gj_cl (gj_tys dA) s0 →
    va_P (dC, dI) gj_cl (gj_ws dA ad n C) H → va_D (fun q : Nat => s0.heap.size ≤ q) (gj_ws dA ad n C) → va_S (fun q : Nat => s0.heap.size ≤ q) s.heap H locs → gj_oC n C → gj_sc s0 ad (C 0) → gj_ol n lc st → lv_has ls md.2.2.1 (gj_tl ad lc) →
    W p l e R s m args below meth c H locs k w (gj_E below s s0 dC dI dA ad (C 0) n K N Q) (F0 m pc ls (st.map (gj_tv ad)))
theorem gj_Wm {p : Program} {l : Launch} {e : Env} {R : Room} {s : State} {m : MethodId} {args : Array Value} {below : List Frame} {meth : Method} {c : Code} {H : Heap} {locs : List Loc} {k w : Nat} {Q Q' : State → Prop} {g : JFrame} (h : W p l e R s m args below meth c H locs k w Q g) (hq : ∀ t, Q t → Q' t) : W p l e R s m args below meth c H locs k w Q' g := fun T hT X => by
  obtain ⟨t, a, b⟩ := h T hT X
  exact ⟨t, a, hq t b⟩
/-- a later memory's end is an earlier one's -/
theorem gj_E_mono {below : List Frame} {s s0 : State} {dC : Nat → ClassId} {dI : Nat → Nat → Nat} {dA : Nat → ClassId} {ad ad1 : Nat → Nat} {C0 C1 : va_E} {n n1 K N : Nat} {Q : gj_R → Prop} (hn : n ≤ n1) (ha : ∀ x, x ≤ n → ad1 x = ad x) (h0 : C1 = C0) (t : State) (h : gj_E below s s0 dC dI dA ad1 C1 n1 K N Q t) : gj_E below s s0 dC dI dA ad C0 n K N Q t := by
  subst h0
  obtain ⟨o, L, rv, n', C', ad', h1, h2, h3, h4, h5, h6, h7, h8, h9, h10, h11, h12⟩ := h
  exact ⟨o, L, rv, n', C', ad', h1, h2, h3, h4, h5, h6, h7, h8, h9, Nat.le_trans hn h10, fun x hx => (h11 x (Nat.le_trans hx hn)).trans (ha x hx), h12⟩
theorem gj_conseq {md : gj_M} {d K N k w pc : Nat} {lc : List (Nat × Value)} {st : List Value} {n : Nat} {C : Nat → va_E} {Q Q' : gj_R → Prop} (h : gj_G md d K N k w pc lc st n C Q) (hq : ∀ r, Q r → Q' r) : gj_G md d K N k w pc lc st n C Q' := by
  intro p l e R s m args below meth c s0 a0 dC dI dA H locs ad ls cx ro hK hP hD hS oC sc ol hl
  refine gj_Wm (h p l e R s m args below meth c s0 a0 dC dI dA H locs ad ls cx ro hK hP hD hS oC sc ol hl) ?_
  intro t ⟨o, L, rv, n', C', ad', h1, h2, h3, h4, h5, h6, h7, h8, h9⟩
  exact ⟨o, L, rv, n', C', ad', h1, h2, h3, h4, h5, h6, hq _ h7, h8, h9⟩
theorem gj_widen {md : gj_M} {d K N k w k' w' pc : Nat} {lc : List (Nat × Value)} {st : List Value} {n : Nat} {C : Nat → va_E} {Q : gj_R → Prop} (h1 : k ≤ k') (h2 : w ≤ w') (h : gj_G md d K N k' w' pc lc st n C Q) : gj_G md d K N k w pc lc st n C Q := by
  intro p l e R s m args below meth c s0 a0 dC dI dA H locs ad ls cx ro hK hP hD hS oC sc ol hl
  exact W.widen h1 h2 (h p l e R s m args below meth c s0 a0 dC dI dA H locs ad ls cx ro hK hP hD hS oC sc ol hl)
/-- more depth and room than is needed -/
theorem gj_deeper {md : gj_M} {d d' K N k w pc : Nat} {lc : List (Nat × Value)} {st : List Value} {n : Nat} {C : Nat → va_E} {Q : gj_R → Prop} (hd : d ≤ d') (h : gj_G md d K N k w pc lc st n C Q) : gj_G md d' K N k w pc lc st n C Q := by
  intro p l e R s m args below meth c s0 a0 dC dI dA H locs ad ls cx ro hK hP hD hS oC sc ol hl
  exact h p l e R s m args below meth c s0 a0 dC dI dA H locs ad ls cx ⟨by have := ro.1; omega, by have := ro.2.1; omega, ro.2.2⟩ hK hP hD hS oC sc ol hl
/-- a word of the tables, here -/
theorem gj_word {md : gj_M} {p : Program} {l : Launch} {s : State} {m : MethodId} {meth : Method} {c : Code} {s0 : State} {a0 args : Array Value} (cx : gj_Cx md p l s m meth c s0 a0) {w : Cond} (hw : w ∈ lw_tbl) (hg : goodWord w = true) : w.before args s = true :=
  word_at cx.2.2.2.2.1 (good_of_word hg) (cx.2.2.2.1.1 w hw)
/-- a method ends with v on its stack: what W's own rows want -/
theorem gj_fin {below : List Frame} {args : Array Value} {s s0 : State} {dC : Nat → ClassId} {dI : Nat → Nat → Nat} {dA : Nat → ClassId} {ad : Nat → Nat} {n K N k w : Nat} {C : Nat → va_E} {H : Heap} {Q : gj_R → Prop} {v : Option Value}
    (h0 : s0.heap.size ≤ s.heap.size ∧ ∀ q : Nat, q < s0.heap.size → s.heap[q]? = s0.heap[q]?) {locs : List Loc} (hS : va_S (fun q : Nat => s0.heap.size ≤ q) s.heap H locs)
    (hP : va_P (dC, dI) gj_cl (gj_ws dA ad n C) H) (hD : va_D (fun q : Nat => s0.heap.size ≤ q) (gj_ws dA ad n C)) (oC : gj_oC n C) (hv : gj_or n (.inl v)) (hk : k ≤ K) (hw : w ≤ N) (hQ : Q (.inl v, n, C)) (t : State)
    (h : MQ below (fun _ _ o t => o = .returned (v.map (gj_tv ad)) ∧ t.heap = H) args s k w (fun q : Nat => s0.heap.size ≤ q) t) : gj_E below s s0 dC dI dA ad (C 0) n K N Q t := by
  obtain ⟨o, h1, h2, ⟨h3, h4⟩, L, ⟨-, h5, h6⟩, h7⟩ := h
  refine ⟨o, L, .inl v, n, C, ad, h1, h2, h5, h6.mono hk hw, h7, ?_, hQ, h3, hv, Nat.le_refl n, fun _ _ => rfl, rfl, ?_, hD, oC⟩
  · rw [h4]
    exact ⟨Nat.le_trans h0.1 hS.1, fun q hq => by rw [hS.2.1 q (Nat.lt_of_lt_of_le hq h0.1) (Nat.not_le.mpr hq)]; exact h0.2 q hq⟩
  · rw [h4]; exact hP
section
variable {md : gj_M} {d K N k w pc : Nat} {lc : List (Nat × Value)} {st : List Value} {n : Nat} {C : Nat → va_E} {Q : gj_R → Prop}
theorem gj_iret {v : Int32} (hr : md.2.2.2.1 = some .int) (hk : k ≤ K) (hw : w ≤ N) (hd : decode md.2.1 pc = .ok (.ireturn, 1)) (hQ : Q (.inl (some (.int v)), n, C)) : gj_G md d K N k w pc lc [.int v] n C Q := by
  intro p l e R s m args below meth c s0 a0 dC dI dA H locs ad ls cx ro hK hP hD hS oC sc ol hl
  obtain ⟨hx, hb, -, -, -, h0, hret, -, -, hlocks, -⟩ := cx
  exact gj_Wm (W.iret (v := v) hx hb (hret.trans hr) (fun t ht _ => ⟨rfl, ht⟩) hS.2.2 hd hlocks) (gj_fin (v := some (.int v)) h0 hS hP hD oC trivial hk hw hQ)
theorem gj_zret {v : Int32} (hr : md.2.2.2.1 = some .boolean) (hz : v = 0 ∨ v = 1) (hk : k ≤ K) (hw : w ≤ N) (hd : decode md.2.1 pc = .ok (.ireturn, 1)) (hQ : Q (.inl (some (.int v)), n, C)) : gj_G md d K N k w pc lc [.int v] n C Q := by
  intro p l e R s m args below meth c s0 a0 dC dI dA H locs ad ls cx ro hK hP hD hS oC sc ol hl
  obtain ⟨hx, hb, -, -, -, h0, hret, -, -, hlocks, -⟩ := cx
  have hn : narrow .boolean (.int v) = .int v := by rcases hz with rfl | rfl <;> decide
  exact gj_Wm (W.zret (v := v) hx hb (hret.trans hr) hn (fun t ht _ => ⟨rfl, ht⟩) hS.2.2 hd hlocks) (gj_fin (v := some (.int v)) h0 hS hP hD oC trivial hk hw hQ)
theorem gj_lret {v : Int64} (hr : md.2.2.2.1 = some .long) (hk : k ≤ K) (hw : w ≤ N) (hd : decode md.2.1 pc = .ok (.lreturn, 1)) (hQ : Q (.inl (some (.long v)), n, C)) : gj_G md d K N k w pc lc [.long v] n C Q := by
  intro p l e R s m args below meth c s0 a0 dC dI dA H locs ad ls cx ro hK hP hD hS oC sc ol hl
  obtain ⟨hx, hb, -, -, -, h0, hret, -, -, hlocks, -⟩ := cx
  exact gj_Wm (W.lret (v := v) hx hb (hret.trans hr) (fun t ht _ => ⟨rfl, ht⟩) hS.2.2 hd hlocks) (gj_fin (v := some (.long v)) h0 hS hP hD oC trivial hk hw hQ)
theorem gj_vret (hr : md.2.2.2.1 = none) (hk : k ≤ K) (hw : w ≤ N) (hd : decode md.2.1 pc = .ok (.return_, 1)) (hQ : Q (.inl none, n, C)) : gj_G md d K N k w pc lc [] n C Q := by
  intro p l e R s m args below meth c s0 a0 dC dI dA H locs ad ls cx ro hK hP hD hS oC sc ol hl
  obtain ⟨hx, hb, -, -, -, h0, hret, -, -, hlocks, -⟩ := cx
  exact gj_Wm (W.vret hx hb (hret.trans hr) (fun t ht _ => ⟨rfl, ht⟩) hS.2.2 hd hlocks) (gj_fin (v := none) h0 hS hP hD oC trivial hk hw hQ)
theorem gj_aret {C0 : String} {v : Value} (hr : md.2.2.2.1 = some (.object C0)) (hv : v = .null ∨ ∃ x, v = .ref x) (hk : k ≤ K) (hw : w ≤ N) (hd : decode md.2.1 pc = .ok (.areturn, 1)) (hQ : Q (.inl (some v), n, C)) : gj_G md d K N k w pc lc [v] n C Q := by
  intro p l e R s m args below meth c s0 a0 dC dI dA H locs ad ls cx ro hK hP hD hS oC sc ol hl
  obtain ⟨hx, hb, -, -, -, h0, hret, -, -, hlocks, -⟩ := cx
  exact gj_Wm (W.aret (v := gj_tv ad v) hx hb (hret.trans hr) (Or.inl ⟨_, rfl⟩) (hv.elim (fun h => Or.inl (by rw [h]; rfl)) (fun ⟨x, h⟩ => Or.inr ⟨ad x, by rw [h]; rfl⟩)) (fun t ht _ => ⟨rfl, ht⟩) hS.2.2 hd hlocks) (gj_fin (v := some v) h0 hS hP hD oC (ol.2 v List.mem_cons_self) hk hw hQ)
end
end
section
/-! ONE STEP of the instructions that touch neither memory nor other methods -/
def gj_lk : List (Nat × Value) → Nat → Option Value
  | [], _ => none
  | q :: r, i => if q.1 = i then some q.2 else gj_lk r i
theorem gj_lk_in : ∀ {lc : List (Nat × Value)} {i : Nat} {v : Value}, gj_lk lc i = some v → (i, v) ∈ lc
  | [], _, _, h => by cases h
  | q :: r, i, v, h => by
    unfold gj_lk at h
    split at h
    · rename_i hq
      cases h
      rw [← hq]
      exact List.mem_cons_self
    · exact List.mem_cons_of_mem _ (gj_lk_in h)
theorem gj_lv {ls : Array Slot} {nL : Nat} {ad : Nat → Nat} {lc : List (Nat × Value)} {i : Nat} {v : Value} (hl : lv_has ls nL (gj_tl ad lc)) (h : gj_lk lc i = some v) : ls[i]? = some (.val (gj_tv ad v)) :=
  hl.2.2 (i, gj_tv ad v) (List.mem_map.mpr ⟨(i, v), gj_lk_in h, rfl⟩)
theorem gj_lp {ad : Nat → Nat} {lc : List (Nat × Value)} {i : Nat} {v : Value} (h : gj_lk lc i = some v) : ∃ j : Nat, (gj_tl ad lc)[j]? = some (i, gj_tv ad v) := by
  obtain ⟨j, hj⟩ := List.getElem?_of_mem (gj_lk_in h)
  exact ⟨j, gj_tl_at hj⟩
/-- fewer locals, as a list of one's own -/
def gj_all : List (Nat × Value) → List (Nat × Value) → Prop
  | [], _ => True
  | q :: r, lc => gj_lk lc q.1 = some q.2 ∧ gj_all r lc
theorem gj_all_in : ∀ {l lc : List (Nat × Value)}, gj_all l lc → ∀ q ∈ l, q ∈ lc
  | [], _, _, q, hq => by cases hq
  | a :: r, lc, h, q, hq => (List.mem_cons.mp hq).elim (fun e => by rw [e]; exact gj_lk_in h.1) (fun hm => gj_all_in h.2 q hm)
section
variable {md : gj_M} {d K N k w pc : Nat} {lc : List (Nat × Value)} {st : List Value} {n : Nat} {C : Nat → va_E} {Q : gj_R → Prop}
theorem gj_less {lc' : List (Nat × Value)} (h : gj_all lc' lc) (kk : gj_G md d K N k w pc lc' st n C Q) : gj_G md d K N k w pc lc st n C Q := by
  intro p l e R s m args below meth c s0 a0 dC dI dA H locs ad ls cx ro hK hP hD hS oC sc ol hl
  refine kk p l e R s m args below meth c s0 a0 dC dI dA H locs ad ls cx ro hK hP hD hS oC sc ⟨fun q hq => ol.1 q (gj_all_in h q hq), ol.2⟩ ⟨hl.1, hl.2.1, fun q hq => hl.2.2 q ?_⟩
  obtain ⟨z, hz, e⟩ := List.mem_map.mp hq
  exact List.mem_map.mpr ⟨z, gj_all_in h z hz, e⟩
theorem gj_iconst {z : Int} (hd : decode md.2.1 pc = .ok (.iconst z, 1)) (kk : gj_G md d K N k w (pc + 1) lc (.int (Int32.ofInt z) :: st) n C Q) : gj_G md d K N k w pc lc (st) n C Q := by
  intro p l e R s m args below meth c s0 a0 dC dI dA H locs ad ls cx ro hK hP hD hS oC sc ol hl
  exact lv_iconst cx.1 cx.2.1 hd rfl (kk p l e R s m args below meth c s0 a0 dC dI dA H locs ad ls cx ro hK hP hD hS oC sc (gj_ol_push ol trivial) hl)
theorem gj_bipush {z : Int} (hd : decode md.2.1 pc = .ok (.bipush z, 2)) (kk : gj_G md d K N k w (pc + 2) lc (.int ((Int8.ofInt z).toInt32) :: st) n C Q) : gj_G md d K N k w pc lc (st) n C Q := by
  intro p l e R s m args below meth c s0 a0 dC dI dA H locs ad ls cx ro hK hP hD hS oC sc ol hl
  exact lv_bipush cx.1 cx.2.1 hd rfl (kk p l e R s m args below meth c s0 a0 dC dI dA H locs ad ls cx ro hK hP hD hS oC sc (gj_ol_push ol trivial) hl)
theorem gj_sipush {z : Int} (hd : decode md.2.1 pc = .ok (.sipush z, 3)) (kk : gj_G md d K N k w (pc + 3) lc (.int ((Int16.ofInt z).toInt32) :: st) n C Q) : gj_G md d K N k w pc lc (st) n C Q := by
  intro p l e R s m args below meth c s0 a0 dC dI dA H locs ad ls cx ro hK hP hD hS oC sc ol hl
  exact lv_sipush cx.1 cx.2.1 hd rfl (kk p l e R s m args below meth c s0 a0 dC dI dA H locs ad ls cx ro hK hP hD hS oC sc (gj_ol_push ol trivial) hl)
theorem gj_lconst {z : Fin 2} (hd : decode md.2.1 pc = .ok (.lconst z, 1)) (kk : gj_G md d K N k w (pc + 1) lc (.long (Int64.ofNat z) :: st) n C Q) : gj_G md d K N k w pc lc (st) n C Q := by
  intro p l e R s m args below meth c s0 a0 dC dI dA H locs ad ls cx ro hK hP hD hS oC sc ol hl
  exact lv_lconst cx.1 cx.2.1 hd rfl (kk p l e R s m args below meth c s0 a0 dC dI dA H locs ad ls cx ro hK hP hD hS oC sc (gj_ol_push ol trivial) hl)
theorem gj_null (hd : decode md.2.1 pc = .ok (Instr.aconst_null, 1)) (kk : gj_G md d K N k w (pc + 1) lc (.null :: st) n C Q) : gj_G md d K N k w pc lc (st) n C Q := by
  intro p l e R s m args below meth c s0 a0 dC dI dA H locs ad ls cx ro hK hP hD hS oC sc ol hl
  exact lv_null cx.1 cx.2.1 hd (kk p l e R s m args below meth c s0 a0 dC dI dA H locs ad ls cx ro hK hP hD hS oC sc (gj_ol_push ol trivial) hl)
theorem gj_iload {i : Nat} {x : Int32} (hd : decode md.2.1 pc = .ok (.iload i, 2)) (hk : gj_lk lc i = some (.int x)) (kk : gj_G md d K N k w (pc + 2) lc (.int x :: st) n C Q) : gj_G md d K N k w pc lc (st) n C Q := by
  intro p l e R s m args below meth c s0 a0 dC dI dA H locs ad ls cx ro hK hP hD hS oC sc ol hl
  exact lv_iload cx.1 cx.2.1 hd (gj_lv hl hk) (kk p l e R s m args below meth c s0 a0 dC dI dA H locs ad ls cx ro hK hP hD hS oC sc (gj_ol_push ol trivial) hl)
theorem gj_iload_n {i : Fin 4} {x : Int32} (hd : decode md.2.1 pc = .ok (.iload_n i, 1)) (hk : gj_lk lc i = some (.int x)) (kk : gj_G md d K N k w (pc + 1) lc (.int x :: st) n C Q) : gj_G md d K N k w pc lc (st) n C Q := by
  intro p l e R s m args below meth c s0 a0 dC dI dA H locs ad ls cx ro hK hP hD hS oC sc ol hl
  exact lv_iload_n cx.1 cx.2.1 hd rfl (gj_lv hl hk) (kk p l e R s m args below meth c s0 a0 dC dI dA H locs ad ls cx ro hK hP hD hS oC sc (gj_ol_push ol trivial) hl)
theorem gj_lload {i : Nat} {x : Int64} (hd : decode md.2.1 pc = .ok (.lload i, 2)) (hk : gj_lk lc i = some (.long x)) (kk : gj_G md d K N k w (pc + 2) lc (.long x :: st) n C Q) : gj_G md d K N k w pc lc (st) n C Q := by
  intro p l e R s m args below meth c s0 a0 dC dI dA H locs ad ls cx ro hK hP hD hS oC sc ol hl
  exact lv_lload cx.1 cx.2.1 hd (gj_lv hl hk) (kk p l e R s m args below meth c s0 a0 dC dI dA H locs ad ls cx ro hK hP hD hS oC sc (gj_ol_push ol trivial) hl)
theorem gj_lload_n {i : Fin 4} {x : Int64} (hd : decode md.2.1 pc = .ok (.lload_n i, 1)) (hk : gj_lk lc i = some (.long x)) (kk : gj_G md d K N k w (pc + 1) lc (.long x :: st) n C Q) : gj_G md d K N k w pc lc (st) n C Q := by
  intro p l e R s m args below meth c s0 a0 dC dI dA H locs ad ls cx ro hK hP hD hS oC sc ol hl
  exact lv_lload_n cx.1 cx.2.1 hd rfl (gj_lv hl hk) (kk p l e R s m args below meth c s0 a0 dC dI dA H locs ad ls cx ro hK hP hD hS oC sc (gj_ol_push ol trivial) hl)
theorem gj_aload {i : Nat} {x : Nat} (hd : decode md.2.1 pc = .ok (.aload i, 2)) (hk : gj_lk lc i = some (.ref x)) (kk : gj_G md d K N k w (pc + 2) lc (.ref x :: st) n C Q) : gj_G md d K N k w pc lc (st) n C Q := by
  intro p l e R s m args below meth c s0 a0 dC dI dA H locs ad ls cx ro hK hP hD hS oC sc ol hl
  exact lv_aload cx.1 cx.2.1 hd (gj_lv hl hk) (kk p l e R s m args below meth c s0 a0 dC dI dA H locs ad ls cx ro hK hP hD hS oC sc (gj_ol_push ol (ol.1 _ (gj_lk_in hk))) hl)
theorem gj_aloadN {i : Nat} (hd : decode md.2.1 pc = .ok (.aload i, 2)) (hk : gj_lk lc i = some .null) (kk : gj_G md d K N k w (pc + 2) lc (.null :: st) n C Q) : gj_G md d K N k w pc lc (st) n C Q := by
  intro p l e R s m args below meth c s0 a0 dC dI dA H locs ad ls cx ro hK hP hD hS oC sc ol hl
  exact lv_aloadN cx.1 cx.2.1 hd (gj_lv hl hk) (kk p l e R s m args below meth c s0 a0 dC dI dA H locs ad ls cx ro hK hP hD hS oC sc (gj_ol_push ol trivial) hl)
theorem gj_aload_n {i : Fin 4} {x : Nat} (hd : decode md.2.1 pc = .ok (.aload_n i, 1)) (hk : gj_lk lc i = some (.ref x)) (kk : gj_G md d K N k w (pc + 1) lc (.ref x :: st) n C Q) : gj_G md d K N k w pc lc (st) n C Q := by
  intro p l e R s m args below meth c s0 a0 dC dI dA H locs ad ls cx ro hK hP hD hS oC sc ol hl
  exact lv_aload_n cx.1 cx.2.1 hd rfl (gj_lv hl hk) (kk p l e R s m args below meth c s0 a0 dC dI dA H locs ad ls cx ro hK hP hD hS oC sc (gj_ol_push ol (ol.1 _ (gj_lk_in hk))) hl)
theorem gj_aload_nN {i : Fin 4} (hd : decode md.2.1 pc = .ok (.aload_n i, 1)) (hk : gj_lk lc i = some .null) (kk : gj_G md d K N k w (pc + 1) lc (.null :: st) n C Q) : gj_G md d K N k w pc lc (st) n C Q := by
  intro p l e R s m args below meth c s0 a0 dC dI dA H locs ad ls cx ro hK hP hD hS oC sc ol hl
  exact lv_aload_nN cx.1 cx.2.1 hd rfl (gj_lv hl hk) (kk p l e R s m args below meth c s0 a0 dC dI dA H locs ad ls cx ro hK hP hD hS oC sc (gj_ol_push ol trivial) hl)
theorem gj_istore {i : Nat} {x : Int32} (hd : decode md.2.1 pc = .ok (.istore i, 2)) (hn : i < md.2.2.1) (kk : gj_G md d K N k w (pc + 2) (gj_st1 lc i (.int x)) st n C Q) : gj_G md d K N k w pc lc (.int x :: st) n C Q := by
  intro p l e R s m args below meth c s0 a0 dC dI dA H locs ad ls cx ro hK hP hD hS oC sc ol hl
  exact lv_istore cx.1 cx.2.1 hd hl hn (gj_tl_st1 (v := .int x)) (fun ls hl => kk p l e R s m args below meth c s0 a0 dC dI dA H locs ad ls cx ro hK hP hD hS oC sc (gj_ol_st1 ol) hl)
theorem gj_lstore {i : Nat} {x : Int64} (hd : decode md.2.1 pc = .ok (.lstore i, 2)) (hn : i + 1 < md.2.2.1) (kk : gj_G md d K N k w (pc + 2) (gj_st2 lc i (.long x)) st n C Q) : gj_G md d K N k w pc lc (.long x :: st) n C Q := by
  intro p l e R s m args below meth c s0 a0 dC dI dA H locs ad ls cx ro hK hP hD hS oC sc ol hl
  exact lv_lstore cx.1 cx.2.1 hd hl hn (gj_tl_st2 (v := .long x)) (fun ls hl => kk p l e R s m args below meth c s0 a0 dC dI dA H locs ad ls cx ro hK hP hD hS oC sc (gj_ol_st2 ol) hl)
theorem gj_astore {i : Nat} {x : Nat} (hd : decode md.2.1 pc = .ok (.astore i, 2)) (hn : i < md.2.2.1) (kk : gj_G md d K N k w (pc + 2) (gj_st1 lc i (.ref x)) st n C Q) : gj_G md d K N k w pc lc (.ref x :: st) n C Q := by
  intro p l e R s m args below meth c s0 a0 dC dI dA H locs ad ls cx ro hK hP hD hS oC sc ol hl
  exact lv_astore cx.1 cx.2.1 hd hl hn (gj_tl_st1 (v := .ref x)) (fun ls hl => kk p l e R s m args below meth c s0 a0 dC dI dA H locs ad ls cx ro hK hP hD hS oC sc (gj_ol_st1 ol) hl)
theorem gj_astoreN {i : Nat} (hd : decode md.2.1 pc = .ok (.astore i, 2)) (hn : i < md.2.2.1) (kk : gj_G md d K N k w (pc + 2) (gj_st1 lc i (.null)) st n C Q) : gj_G md d K N k w pc lc (.null :: st) n C Q := by
  intro p l e R s m args below meth c s0 a0 dC dI dA H locs ad ls cx ro hK hP hD hS oC sc ol hl
  exact lv_astoreN cx.1 cx.2.1 hd hl hn (gj_tl_st1 (v := .null)) (fun ls hl => kk p l e R s m args below meth c s0 a0 dC dI dA H locs ad ls cx ro hK hP hD hS oC sc (gj_ol_st1 ol) hl)
theorem gj_istore_n {i : Fin 4} {x : Int32} (hd : decode md.2.1 pc = .ok (.istore_n i, 1)) (hn : i < md.2.2.1) (kk : gj_G md d K N k w (pc + 1) (gj_st1 lc i (.int x)) st n C Q) : gj_G md d K N k w pc lc (.int x :: st) n C Q := by
  intro p l e R s m args below meth c s0 a0 dC dI dA H locs ad ls cx ro hK hP hD hS oC sc ol hl
  exact lv_istore_n cx.1 cx.2.1 hd rfl hl hn (gj_tl_st1 (v := .int x)) (fun ls hl => kk p l e R s m args below meth c s0 a0 dC dI dA H locs ad ls cx ro hK hP hD hS oC sc (gj_ol_st1 ol) hl)
theorem gj_lstore_n {i : Fin 4} {x : Int64} (hd : decode md.2.1 pc = .ok (.lstore_n i, 1)) (hn : i + 1 < md.2.2.1) (kk : gj_G md d K N k w (pc + 1) (gj_st2 lc i (.long x)) st n C Q) : gj_G md d K N k w pc lc (.long x :: st) n C Q := by
  intro p l e R s m args below meth c s0 a0 dC dI dA H locs ad ls cx ro hK hP hD hS oC sc ol hl
  exact lv_lstore_n cx.1 cx.2.1 hd rfl hl hn (gj_tl_st2 (v := .long x)) (fun ls hl => kk p l e R s m args below meth c s0 a0 dC dI dA H locs ad ls cx ro hK hP hD hS oC sc (gj_ol_st2 ol) hl)
theorem gj_astore_n {i : Fin 4} {x : Nat} (hd : decode md.2.1 pc = .ok (.astore_n i, 1)) (hn : i < md.2.2.1) (kk : gj_G md d K N k w (pc + 1) (gj_st1 lc i (.ref x)) st n C Q) : gj_G md d K N k w pc lc (.ref x :: st) n C Q := by
  intro p l e R s m args below meth c s0 a0 dC dI dA H locs ad ls cx ro hK hP hD hS oC sc ol hl
  exact lv_astore_n cx.1 cx.2.1 hd rfl hl hn (gj_tl_st1 (v := .ref x)) (fun ls hl => kk p l e R s m args below meth c s0 a0 dC dI dA H locs ad ls cx ro hK hP hD hS oC sc (gj_ol_st1 ol) hl)
theorem gj_astore_nN {i : Fin 4} (hd : decode md.2.1 pc = .ok (.astore_n i, 1)) (hn : i < md.2.2.1) (kk : gj_G md d K N k w (pc + 1) (gj_st1 lc i (.null)) st n C Q) : gj_G md d K N k w pc lc (.null :: st) n C Q := by
  intro p l e R s m args below meth c s0 a0 dC dI dA H locs ad ls cx ro hK hP hD hS oC sc ol hl
  exact lv_astore_nN cx.1 cx.2.1 hd rfl hl hn (gj_tl_st1 (v := .null)) (fun ls hl => kk p l e R s m args below meth c s0 a0 dC dI dA H locs ad ls cx ro hK hP hD hS oC sc (gj_ol_st1 ol) hl)
theorem gj_iinc {i : Nat} {z : Int} {x : Int32} (hd : decode md.2.1 pc = .ok (.iinc i z, 3)) (hk : gj_lk lc i = some (.int x)) (hn : i < md.2.2.1) (kk : gj_G md d K N k w (pc + 3) (gj_st1 lc i (.int (x + Int32.ofInt z))) st n C Q) : gj_G md d K N k w pc lc st n C Q := by
  intro p l e R s m args below meth c s0 a0 dC dI dA H locs ad ls cx ro hK hP hD hS oC sc ol hl
  obtain ⟨j, hj⟩ := gj_lp (ad := ad) hk
  exact lv_iinc cx.1 cx.2.1 hd hl (k := j) hj rfl hn (gj_tl_st1 (v := .int (x + Int32.ofInt z))) (fun ls hl => kk p l e R s m args below meth c s0 a0 dC dI dA H locs ad ls cx ro hK hP hD hS oC sc (gj_ol_st1 (gj_ol_push ol trivial)) hl)
theorem gj_iadd {x y : Int32} (hd : decode md.2.1 pc = .ok (.iadd, 1)) (kk : gj_G md d K N k w (pc + 1) lc (.int (x + y) :: st) n C Q) : gj_G md d K N k w pc lc (.int y :: .int x :: st) n C Q := by
  intro p l e R s m args below meth c s0 a0 dC dI dA H locs ad ls cx ro hK hP hD hS oC sc ol hl
  exact lv_iadd cx.1 cx.2.1 hd (kk p l e R s m args below meth c s0 a0 dC dI dA H locs ad ls cx ro hK hP hD hS oC sc (gj_ol_push (gj_ol_pop (gj_ol_pop ol)) trivial) hl)
theorem gj_isub {x y : Int32} (hd : decode md.2.1 pc = .ok (.isub, 1)) (kk : gj_G md d K N k w (pc + 1) lc (.int (x - y) :: st) n C Q) : gj_G md d K N k w pc lc (.int y :: .int x :: st) n C Q := by
  intro p l e R s m args below meth c s0 a0 dC dI dA H locs ad ls cx ro hK hP hD hS oC sc ol hl
  exact lv_isub cx.1 cx.2.1 hd (kk p l e R s m args below meth c s0 a0 dC dI dA H locs ad ls cx ro hK hP hD hS oC sc (gj_ol_push (gj_ol_pop (gj_ol_pop ol)) trivial) hl)
theorem gj_imul {x y : Int32} (hd : decode md.2.1 pc = .ok (.imul, 1)) (kk : gj_G md d K N k w (pc + 1) lc (.int (x * y) :: st) n C Q) : gj_G md d K N k w pc lc (.int y :: .int x :: st) n C Q := by
  intro p l e R s m args below meth c s0 a0 dC dI dA H locs ad ls cx ro hK hP hD hS oC sc ol hl
  exact lv_imul cx.1 cx.2.1 hd (kk p l e R s m args below meth c s0 a0 dC dI dA H locs ad ls cx ro hK hP hD hS oC sc (gj_ol_push (gj_ol_pop (gj_ol_pop ol)) trivial) hl)
theorem gj_iand {x y : Int32} (hd : decode md.2.1 pc = .ok (.iand, 1)) (kk : gj_G md d K N k w (pc + 1) lc (.int (x &&& y) :: st) n C Q) : gj_G md d K N k w pc lc (.int y :: .int x :: st) n C Q := by
  intro p l e R s m args below meth c s0 a0 dC dI dA H locs ad ls cx ro hK hP hD hS oC sc ol hl
  exact lv_iand cx.1 cx.2.1 hd (kk p l e R s m args below meth c s0 a0 dC dI dA H locs ad ls cx ro hK hP hD hS oC sc (gj_ol_push (gj_ol_pop (gj_ol_pop ol)) trivial) hl)
theorem gj_ior {x y : Int32} (hd : decode md.2.1 pc = .ok (.ior, 1)) (kk : gj_G md d K N k w (pc + 1) lc (.int (x ||| y) :: st) n C Q) : gj_G md d K N k w pc lc (.int y :: .int x :: st) n C Q := by
  intro p l e R s m args below meth c s0 a0 dC dI dA H locs ad ls cx ro hK hP hD hS oC sc ol hl
  exact lv_ior cx.1 cx.2.1 hd (kk p l e R s m args below meth c s0 a0 dC dI dA H locs ad ls cx ro hK hP hD hS oC sc (gj_ol_push (gj_ol_pop (gj_ol_pop ol)) trivial) hl)
theorem gj_ixor {x y : Int32} (hd : decode md.2.1 pc = .ok (.ixor, 1)) (kk : gj_G md d K N k w (pc + 1) lc (.int (x ^^^ y) :: st) n C Q) : gj_G md d K N k w pc lc (.int y :: .int x :: st) n C Q := by
  intro p l e R s m args below meth c s0 a0 dC dI dA H locs ad ls cx ro hK hP hD hS oC sc ol hl
  exact lv_ixor cx.1 cx.2.1 hd (kk p l e R s m args below meth c s0 a0 dC dI dA H locs ad ls cx ro hK hP hD hS oC sc (gj_ol_push (gj_ol_pop (gj_ol_pop ol)) trivial) hl)
theorem gj_ishl {x y : Int32} (hd : decode md.2.1 pc = .ok (.ishl, 1)) (kk : gj_G md d K N k w (pc + 1) lc (.int (x <<< (y &&& 31)) :: st) n C Q) : gj_G md d K N k w pc lc (.int y :: .int x :: st) n C Q := by
  intro p l e R s m args below meth c s0 a0 dC dI dA H locs ad ls cx ro hK hP hD hS oC sc ol hl
  exact lv_ishl cx.1 cx.2.1 hd (kk p l e R s m args below meth c s0 a0 dC dI dA H locs ad ls cx ro hK hP hD hS oC sc (gj_ol_push (gj_ol_pop (gj_ol_pop ol)) trivial) hl)
theorem gj_ishr {x y : Int32} (hd : decode md.2.1 pc = .ok (.ishr, 1)) (kk : gj_G md d K N k w (pc + 1) lc (.int (x >>> (y &&& 31)) :: st) n C Q) : gj_G md d K N k w pc lc (.int y :: .int x :: st) n C Q := by
  intro p l e R s m args below meth c s0 a0 dC dI dA H locs ad ls cx ro hK hP hD hS oC sc ol hl
  exact lv_ishr cx.1 cx.2.1 hd (kk p l e R s m args below meth c s0 a0 dC dI dA H locs ad ls cx ro hK hP hD hS oC sc (gj_ol_push (gj_ol_pop (gj_ol_pop ol)) trivial) hl)
theorem gj_idiv {x y : Int32} (hd : decode md.2.1 pc = .ok (.idiv, 1)) (hne : ¬ y = 0) (kk : gj_G md d K N k w (pc + 1) lc (.int (x / y) :: st) n C Q) : gj_G md d K N k w pc lc (.int y :: .int x :: st) n C Q := by
  intro p l e R s m args below meth c s0 a0 dC dI dA H locs ad ls cx ro hK hP hD hS oC sc ol hl
  exact lv_idiv cx.1 cx.2.1 hd hne (kk p l e R s m args below meth c s0 a0 dC dI dA H locs ad ls cx ro hK hP hD hS oC sc (gj_ol_push (gj_ol_pop (gj_ol_pop ol)) trivial) hl)
theorem gj_irem {x y : Int32} (hd : decode md.2.1 pc = .ok (.irem, 1)) (hne : ¬ y = 0) (kk : gj_G md d K N k w (pc + 1) lc (.int (x - x / y * y) :: st) n C Q) : gj_G md d K N k w pc lc (.int y :: .int x :: st) n C Q := by
  intro p l e R s m args below meth c s0 a0 dC dI dA H locs ad ls cx ro hK hP hD hS oC sc ol hl
  exact lv_irem cx.1 cx.2.1 hd hne (kk p l e R s m args below meth c s0 a0 dC dI dA H locs ad ls cx ro hK hP hD hS oC sc (gj_ol_push (gj_ol_pop (gj_ol_pop ol)) trivial) hl)
theorem gj_ladd {x y : Int64} (hd : decode md.2.1 pc = .ok (.ladd, 1)) (kk : gj_G md d K N k w (pc + 1) lc (.long (x + y) :: st) n C Q) : gj_G md d K N k w pc lc (.long y :: .long x :: st) n C Q := by
  intro p l e R s m args below meth c s0 a0 dC dI dA H locs ad ls cx ro hK hP hD hS oC sc ol hl
  exact lv_ladd cx.1 cx.2.1 hd (kk p l e R s m args below meth c s0 a0 dC dI dA H locs ad ls cx ro hK hP hD hS oC sc (gj_ol_push (gj_ol_pop (gj_ol_pop ol)) trivial) hl)
theorem gj_lsub {x y : Int64} (hd : decode md.2.1 pc = .ok (.lsub, 1)) (kk : gj_G md d K N k w (pc + 1) lc (.long (x - y) :: st) n C Q) : gj_G md d K N k w pc lc (.long y :: .long x :: st) n C Q := by
  intro p l e R s m args below meth c s0 a0 dC dI dA H locs ad ls cx ro hK hP hD hS oC sc ol hl
  exact lv_lsub cx.1 cx.2.1 hd (kk p l e R s m args below meth c s0 a0 dC dI dA H locs ad ls cx ro hK hP hD hS oC sc (gj_ol_push (gj_ol_pop (gj_ol_pop ol)) trivial) hl)
theorem gj_lmul {x y : Int64} (hd : decode md.2.1 pc = .ok (.lmul, 1)) (kk : gj_G md d K N k w (pc + 1) lc (.long (x * y) :: st) n C Q) : gj_G md d K N k w pc lc (.long y :: .long x :: st) n C Q := by
  intro p l e R s m args below meth c s0 a0 dC dI dA H locs ad ls cx ro hK hP hD hS oC sc ol hl
  exact lv_lmul cx.1 cx.2.1 hd (kk p l e R s m args below meth c s0 a0 dC dI dA H locs ad ls cx ro hK hP hD hS oC sc (gj_ol_push (gj_ol_pop (gj_ol_pop ol)) trivial) hl)
theorem gj_ldiv {x y : Int64} (hd : decode md.2.1 pc = .ok (.ldiv, 1)) (hne : ¬ y = 0) (kk : gj_G md d K N k w (pc + 1) lc (.long (x / y) :: st) n C Q) : gj_G md d K N k w pc lc (.long y :: .long x :: st) n C Q := by
  intro p l e R s m args below meth c s0 a0 dC dI dA H locs ad ls cx ro hK hP hD hS oC sc ol hl
  exact lv_ldiv cx.1 cx.2.1 hd hne (kk p l e R s m args below meth c s0 a0 dC dI dA H locs ad ls cx ro hK hP hD hS oC sc (gj_ol_push (gj_ol_pop (gj_ol_pop ol)) trivial) hl)
theorem gj_lrem {x y : Int64} (hd : decode md.2.1 pc = .ok (.lrem, 1)) (hne : ¬ y = 0) (kk : gj_G md d K N k w (pc + 1) lc (.long (x - x / y * y) :: st) n C Q) : gj_G md d K N k w pc lc (.long y :: .long x :: st) n C Q := by
  intro p l e R s m args below meth c s0 a0 dC dI dA H locs ad ls cx ro hK hP hD hS oC sc ol hl
  exact lv_lrem cx.1 cx.2.1 hd hne (kk p l e R s m args below meth c s0 a0 dC dI dA H locs ad ls cx ro hK hP hD hS oC sc (gj_ol_push (gj_ol_pop (gj_ol_pop ol)) trivial) hl)
theorem gj_lcmp {x y : Int64} (hd : decode md.2.1 pc = .ok (.lcmp, 1)) (kk : gj_G md d K N k w (pc + 1) lc (.int (lg_cmp x y) :: st) n C Q) : gj_G md d K N k w pc lc (.long y :: .long x :: st) n C Q := by
  intro p l e R s m args below meth c s0 a0 dC dI dA H locs ad ls cx ro hK hP hD hS oC sc ol hl
  exact W.lcmp cx.1 cx.2.1 hd (kk p l e R s m args below meth c s0 a0 dC dI dA H locs ad ls cx ro hK hP hD hS oC sc (gj_ol_push (gj_ol_pop (gj_ol_pop ol)) trivial) hl)
theorem gj_ineg {x : Int32} (hd : decode md.2.1 pc = .ok (.ineg, 1)) (kk : gj_G md d K N k w (pc + 1) lc (.int (-x) :: st) n C Q) : gj_G md d K N k w pc lc (.int x :: st) n C Q := by
  intro p l e R s m args below meth c s0 a0 dC dI dA H locs ad ls cx ro hK hP hD hS oC sc ol hl
  exact lv_ineg cx.1 cx.2.1 hd (kk p l e R s m args below meth c s0 a0 dC dI dA H locs ad ls cx ro hK hP hD hS oC sc (gj_ol_push (gj_ol_pop ol) trivial) hl)
theorem gj_i2l {x : Int32} (hd : decode md.2.1 pc = .ok (.i2l, 1)) (kk : gj_G md d K N k w (pc + 1) lc (.long x.toInt64 :: st) n C Q) : gj_G md d K N k w pc lc (.int x :: st) n C Q := by
  intro p l e R s m args below meth c s0 a0 dC dI dA H locs ad ls cx ro hK hP hD hS oC sc ol hl
  exact lv_i2l cx.1 cx.2.1 hd rfl (kk p l e R s m args below meth c s0 a0 dC dI dA H locs ad ls cx ro hK hP hD hS oC sc (gj_ol_push (gj_ol_pop ol) trivial) hl)
theorem gj_l2i {x : Int64} (hd : decode md.2.1 pc = .ok (.l2i, 1)) (kk : gj_G md d K N k w (pc + 1) lc (.int x.toInt32 :: st) n C Q) : gj_G md d K N k w pc lc (.long x :: st) n C Q := by
  intro p l e R s m args below meth c s0 a0 dC dI dA H locs ad ls cx ro hK hP hD hS oC sc ol hl
  exact lv_l2i cx.1 cx.2.1 hd rfl (kk p l e R s m args below meth c s0 a0 dC dI dA H locs ad ls cx ro hK hP hD hS oC sc (gj_ol_push (gj_ol_pop ol) trivial) hl)
theorem gj_dup {v : Value} (hd : decode md.2.1 pc = .ok (.dup, 1)) (hv : v.category = 1) (kk : gj_G md d K N k w (pc + 1) lc (v :: v :: st) n C Q) : gj_G md d K N k w pc lc (v :: st) n C Q := by
  intro p l e R s m args below meth c s0 a0 dC dI dA H locs ad ls cx ro hK hP hD hS oC sc ol hl
  exact lv_dup cx.1 cx.2.1 hd ((gj_cat ad v).trans hv) (kk p l e R s m args below meth c s0 a0 dC dI dA H locs ad ls cx ro hK hP hD hS oC sc (gj_ol_push ol (ol.2 v List.mem_cons_self)) hl)
theorem gj_pop {v : Value} (hd : decode md.2.1 pc = .ok (.pop, 1)) (hv : v.category = 1) (kk : gj_G md d K N k w (pc + 1) lc (st) n C Q) : gj_G md d K N k w pc lc (v :: st) n C Q := by
  intro p l e R s m args below meth c s0 a0 dC dI dA H locs ad ls cx ro hK hP hD hS oC sc ol hl
  exact lv_pop cx.1 cx.2.1 hd ((gj_cat ad v).trans hv) (kk p l e R s m args below meth c s0 a0 dC dI dA H locs ad ls cx ro hK hP hD hS oC sc (gj_ol_pop ol) hl)
theorem gj_dup_x1 {v u : Value} (hd : decode md.2.1 pc = .ok (.dup_x1, 1)) (hv : v.category = 1) (hu : u.category = 1) (kk : gj_G md d K N k w (pc + 1) lc (v :: u :: v :: st) n C Q) : gj_G md d K N k w pc lc (v :: u :: st) n C Q := by
  intro p l e R s m args below meth c s0 a0 dC dI dA H locs ad ls cx ro hK hP hD hS oC sc ol hl
  exact lv_dup_x1 cx.1 cx.2.1 hd ((gj_cat ad v).trans hv) ((gj_cat ad u).trans hu) (kk p l e R s m args below meth c s0 a0 dC dI dA H locs ad ls cx ro hK hP hD hS oC sc (gj_ol_push (gj_ol_push (gj_ol_push (gj_ol_pop (gj_ol_pop ol)) (ol.2 v List.mem_cons_self)) (ol.2 u (List.mem_cons_of_mem _ List.mem_cons_self))) (ol.2 v List.mem_cons_self)) hl)
theorem gj_dup2 {v u : Value} (hd : decode md.2.1 pc = .ok (.dup2, 1)) (hv : v.category = 1) (hu : u.category = 1) (kk : gj_G md d K N k w (pc + 1) lc (v :: u :: v :: u :: st) n C Q) : gj_G md d K N k w pc lc (v :: u :: st) n C Q := by
  intro p l e R s m args below meth c s0 a0 dC dI dA H locs ad ls cx ro hK hP hD hS oC sc ol hl
  exact lv_dup2_11 cx.1 cx.2.1 hd ((gj_cat ad v).trans hv) ((gj_cat ad u).trans hu) (kk p l e R s m args below meth c s0 a0 dC dI dA H locs ad ls cx ro hK hP hD hS oC sc (gj_ol_push (gj_ol_push ol (ol.2 u (List.mem_cons_of_mem _ List.mem_cons_self))) (ol.2 v List.mem_cons_self)) hl)
theorem gj_dup_x2 {v u z : Value} (hd : decode md.2.1 pc = .ok (.dup_x2, 1)) (hv : v.category = 1) (hu : u.category = 1) (hz : z.category = 1) (kk : gj_G md d K N k w (pc + 1) lc (v :: u :: z :: v :: st) n C Q) : gj_G md d K N k w pc lc (v :: u :: z :: st) n C Q := by
  intro p l e R s m args below meth c s0 a0 dC dI dA H locs ad ls cx ro hK hP hD hS oC sc ol hl
  exact lv_dup_x2 cx.1 cx.2.1 hd ((gj_cat ad v).trans hv) ((gj_cat ad u).trans hu) ((gj_cat ad z).trans hz) (kk p l e R s m args below meth c s0 a0 dC dI dA H locs ad ls cx ro hK hP hD hS oC sc (gj_ol_push (gj_ol_push (gj_ol_push (gj_ol_push (gj_ol_pop (gj_ol_pop (gj_ol_pop ol))) (ol.2 v List.mem_cons_self)) (ol.2 z (List.mem_cons_of_mem _ (List.mem_cons_of_mem _ List.mem_cons_self)))) (ol.2 u (List.mem_cons_of_mem _ List.mem_cons_self))) (ol.2 v List.mem_cons_self)) hl)
theorem gj_goto {off : Int} {tgt : Nat} (hd : decode md.2.1 pc = .ok (.goto off, 3)) (ht : (pc : Int) + off = (tgt : Int)) (kk : gj_G md d K N k w tgt lc st n C Q) : gj_G md d K N k w pc lc st n C Q := by
  intro p l e R s m args below meth c s0 a0 dC dI dA H locs ad ls cx ro hK hP hD hS oC sc ol hl
  exact lv_goto cx.1 cx.2.1 hd ht (kk p l e R s m args below meth c s0 a0 dC dI dA H locs ad ls cx ro hK hP hD hS oC sc ol hl)
theorem gj_if_eq {x : Int32} {off : Int} {tgt : Nat} (hd : decode md.2.1 pc = .ok (.ifCond .eq off, 3)) (ht : (pc : Int) + off = (tgt : Int)) (kt : x = 0 → gj_G md d K N k w tgt lc st n C Q) (kf : ¬ (x = 0) → gj_G md d K N k w (pc + 3) lc st n C Q) : gj_G md d K N k w pc lc (.int x :: st) n C Q := by
  intro p l e R s m args below meth c s0 a0 dC dI dA H locs ad ls cx ro hK hP hD hS oC sc ol hl
  exact lv_if_eq cx.1 cx.2.1 hd ht (fun h => kt h p l e R s m args below meth c s0 a0 dC dI dA H locs ad ls cx ro hK hP hD hS oC sc (gj_ol_pop ol) hl) (fun h => kf h p l e R s m args below meth c s0 a0 dC dI dA H locs ad ls cx ro hK hP hD hS oC sc (gj_ol_pop ol) hl)
theorem gj_icmp_eq {x y : Int32} {off : Int} {tgt : Nat} (hd : decode md.2.1 pc = .ok (.if_icmp .eq off, 3)) (ht : (pc : Int) + off = (tgt : Int)) (kt : x = y → gj_G md d K N k w tgt lc st n C Q) (kf : ¬ (x = y) → gj_G md d K N k w (pc + 3) lc st n C Q) : gj_G md d K N k w pc lc (.int y :: .int x :: st) n C Q := by
  intro p l e R s m args below meth c s0 a0 dC dI dA H locs ad ls cx ro hK hP hD hS oC sc ol hl
  exact lv_icmp_eq cx.1 cx.2.1 hd ht (fun h => kt h p l e R s m args below meth c s0 a0 dC dI dA H locs ad ls cx ro hK hP hD hS oC sc (gj_ol_pop (gj_ol_pop ol)) hl) (fun h => kf h p l e R s m args below meth c s0 a0 dC dI dA H locs ad ls cx ro hK hP hD hS oC sc (gj_ol_pop (gj_ol_pop ol)) hl)
theorem gj_if_lt {x : Int32} {off : Int} {tgt : Nat} (hd : decode md.2.1 pc = .ok (.ifCond .lt off, 3)) (ht : (pc : Int) + off = (tgt : Int)) (kt : x < 0 → gj_G md d K N k w tgt lc st n C Q) (kf : ¬ (x < 0) → gj_G md d K N k w (pc + 3) lc st n C Q) : gj_G md d K N k w pc lc (.int x :: st) n C Q := by
  intro p l e R s m args below meth c s0 a0 dC dI dA H locs ad ls cx ro hK hP hD hS oC sc ol hl
  exact lv_if_lt cx.1 cx.2.1 hd ht (fun h => kt h p l e R s m args below meth c s0 a0 dC dI dA H locs ad ls cx ro hK hP hD hS oC sc (gj_ol_pop ol) hl) (fun h => kf h p l e R s m args below meth c s0 a0 dC dI dA H locs ad ls cx ro hK hP hD hS oC sc (gj_ol_pop ol) hl)
theorem gj_icmp_lt {x y : Int32} {off : Int} {tgt : Nat} (hd : decode md.2.1 pc = .ok (.if_icmp .lt off, 3)) (ht : (pc : Int) + off = (tgt : Int)) (kt : x < y → gj_G md d K N k w tgt lc st n C Q) (kf : ¬ (x < y) → gj_G md d K N k w (pc + 3) lc st n C Q) : gj_G md d K N k w pc lc (.int y :: .int x :: st) n C Q := by
  intro p l e R s m args below meth c s0 a0 dC dI dA H locs ad ls cx ro hK hP hD hS oC sc ol hl
  exact lv_icmp_lt cx.1 cx.2.1 hd ht (fun h => kt h p l e R s m args below meth c s0 a0 dC dI dA H locs ad ls cx ro hK hP hD hS oC sc (gj_ol_pop (gj_ol_pop ol)) hl) (fun h => kf h p l e R s m args below meth c s0 a0 dC dI dA H locs ad ls cx ro hK hP hD hS oC sc (gj_ol_pop (gj_ol_pop ol)) hl)
theorem gj_if_ge {x : Int32} {off : Int} {tgt : Nat} (hd : decode md.2.1 pc = .ok (.ifCond .ge off, 3)) (ht : (pc : Int) + off = (tgt : Int)) (kt : 0 ≤ x → gj_G md d K N k w tgt lc st n C Q) (kf : ¬ (0 ≤ x) → gj_G md d K N k w (pc + 3) lc st n C Q) : gj_G md d K N k w pc lc (.int x :: st) n C Q := by
  intro p l e R s m args below meth c s0 a0 dC dI dA H locs ad ls cx ro hK hP hD hS oC sc ol hl
  exact lv_if_ge cx.1 cx.2.1 hd ht (fun h => kt h p l e R s m args below meth c s0 a0 dC dI dA H locs ad ls cx ro hK hP hD hS oC sc (gj_ol_pop ol) hl) (fun h => kf h p l e R s m args below meth c s0 a0 dC dI dA H locs ad ls cx ro hK hP hD hS oC sc (gj_ol_pop ol) hl)
theorem gj_icmp_ge {x y : Int32} {off : Int} {tgt : Nat} (hd : decode md.2.1 pc = .ok (.if_icmp .ge off, 3)) (ht : (pc : Int) + off = (tgt : Int)) (kt : y ≤ x → gj_G md d K N k w tgt lc st n C Q) (kf : ¬ (y ≤ x) → gj_G md d K N k w (pc + 3) lc st n C Q) : gj_G md d K N k w pc lc (.int y :: .int x :: st) n C Q := by
  intro p l e R s m args below meth c s0 a0 dC dI dA H locs ad ls cx ro hK hP hD hS oC sc ol hl
  exact lv_icmp_ge cx.1 cx.2.1 hd ht (fun h => kt h p l e R s m args below meth c s0 a0 dC dI dA H locs ad ls cx ro hK hP hD hS oC sc (gj_ol_pop (gj_ol_pop ol)) hl) (fun h => kf h p l e R s m args below meth c s0 a0 dC dI dA H locs ad ls cx ro hK hP hD hS oC sc (gj_ol_pop (gj_ol_pop ol)) hl)
theorem gj_if_gt {x : Int32} {off : Int} {tgt : Nat} (hd : decode md.2.1 pc = .ok (.ifCond .gt off, 3)) (ht : (pc : Int) + off = (tgt : Int)) (kt : 0 < x → gj_G md d K N k w tgt lc st n C Q) (kf : ¬ (0 < x) → gj_G md d K N k w (pc + 3) lc st n C Q) : gj_G md d K N k w pc lc (.int x :: st) n C Q := by
  intro p l e R s m args below meth c s0 a0 dC dI dA H locs ad ls cx ro hK hP hD hS oC sc ol hl
  exact lv_if_gt cx.1 cx.2.1 hd ht (fun h => kt h p l e R s m args below meth c s0 a0 dC dI dA H locs ad ls cx ro hK hP hD hS oC sc (gj_ol_pop ol) hl) (fun h => kf h p l e R s m args below meth c s0 a0 dC dI dA H locs ad ls cx ro hK hP hD hS oC sc (gj_ol_pop ol) hl)
theorem gj_icmp_gt {x y : Int32} {off : Int} {tgt : Nat} (hd : decode md.2.1 pc = .ok (.if_icmp .gt off, 3)) (ht : (pc : Int) + off = (tgt : Int)) (kt : y < x → gj_G md d K N k w tgt lc st n C Q) (kf : ¬ (y < x) → gj_G md d K N k w (pc + 3) lc st n C Q) : gj_G md d K N k w pc lc (.int y :: .int x :: st) n C Q := by
  intro p l e R s m args below meth c s0 a0 dC dI dA H locs ad ls cx ro hK hP hD hS oC sc ol hl
  exact lv_icmp_gt cx.1 cx.2.1 hd ht (fun h => kt h p l e R s m args below meth c s0 a0 dC dI dA H locs ad ls cx ro hK hP hD hS oC sc (gj_ol_pop (gj_ol_pop ol)) hl) (fun h => kf h p l e R s m args below meth c s0 a0 dC dI dA H locs ad ls cx ro hK hP hD hS oC sc (gj_ol_pop (gj_ol_pop ol)) hl)
theorem gj_if_le {x : Int32} {off : Int} {tgt : Nat} (hd : decode md.2.1 pc = .ok (.ifCond .le off, 3)) (ht : (pc : Int) + off = (tgt : Int)) (kt : x ≤ 0 → gj_G md d K N k w tgt lc st n C Q) (kf : ¬ (x ≤ 0) → gj_G md d K N k w (pc + 3) lc st n C Q) : gj_G md d K N k w pc lc (.int x :: st) n C Q := by
  intro p l e R s m args below meth c s0 a0 dC dI dA H locs ad ls cx ro hK hP hD hS oC sc ol hl
  exact lv_if_le cx.1 cx.2.1 hd ht (fun h => kt h p l e R s m args below meth c s0 a0 dC dI dA H locs ad ls cx ro hK hP hD hS oC sc (gj_ol_pop ol) hl) (fun h => kf h p l e R s m args below meth c s0 a0 dC dI dA H locs ad ls cx ro hK hP hD hS oC sc (gj_ol_pop ol) hl)
theorem gj_icmp_le {x y : Int32} {off : Int} {tgt : Nat} (hd : decode md.2.1 pc = .ok (.if_icmp .le off, 3)) (ht : (pc : Int) + off = (tgt : Int)) (kt : x ≤ y → gj_G md d K N k w tgt lc st n C Q) (kf : ¬ (x ≤ y) → gj_G md d K N k w (pc + 3) lc st n C Q) : gj_G md d K N k w pc lc (.int y :: .int x :: st) n C Q := by
  intro p l e R s m args below meth c s0 a0 dC dI dA H locs ad ls cx ro hK hP hD hS oC sc ol hl
  exact lv_icmp_le cx.1 cx.2.1 hd ht (fun h => kt h p l e R s m args below meth c s0 a0 dC dI dA H locs ad ls cx ro hK hP hD hS oC sc (gj_ol_pop (gj_ol_pop ol)) hl) (fun h => kf h p l e R s m args below meth c s0 a0 dC dI dA H locs ad ls cx ro hK hP hD hS oC sc (gj_ol_pop (gj_ol_pop ol)) hl)
theorem gj_if_ne {x : Int32} {off : Int} {tgt : Nat} (hd : decode md.2.1 pc = .ok (.ifCond .ne off, 3)) (ht : (pc : Int) + off = (tgt : Int)) (kt : ¬ x = 0 → gj_G md d K N k w tgt lc st n C Q) (kf : x = 0 → gj_G md d K N k w (pc + 3) lc st n C Q) : gj_G md d K N k w pc lc (.int x :: st) n C Q := by
  intro p l e R s m args below meth c s0 a0 dC dI dA H locs ad ls cx ro hK hP hD hS oC sc ol hl
  exact lv_if_ne cx.1 cx.2.1 hd ht (fun h => kt h p l e R s m args below meth c s0 a0 dC dI dA H locs ad ls cx ro hK hP hD hS oC sc (gj_ol_pop ol) hl) (fun h => kf h p l e R s m args below meth c s0 a0 dC dI dA H locs ad ls cx ro hK hP hD hS oC sc (gj_ol_pop ol) hl)
theorem gj_icmp_ne {x y : Int32} {off : Int} {tgt : Nat} (hd : decode md.2.1 pc = .ok (.if_icmp .ne off, 3)) (ht : (pc : Int) + off = (tgt : Int)) (kt : ¬ x = y → gj_G md d K N k w tgt lc st n C Q) (kf : x = y → gj_G md d K N k w (pc + 3) lc st n C Q) : gj_G md d K N k w pc lc (.int y :: .int x :: st) n C Q := by
  intro p l e R s m args below meth c s0 a0 dC dI dA H locs ad ls cx ro hK hP hD hS oC sc ol hl
  exact lv_icmp_ne cx.1 cx.2.1 hd ht (fun h => kt h p l e R s m args below meth c s0 a0 dC dI dA H locs ad ls cx ro hK hP hD hS oC sc (gj_ol_pop (gj_ol_pop ol)) hl) (fun h => kf h p l e R s m args below meth c s0 a0 dC dI dA H locs ad ls cx ro hK hP hD hS oC sc (gj_ol_pop (gj_ol_pop ol)) hl)
theorem gj_ifnull {x : Nat} {off : Int} (hd : decode md.2.1 pc = .ok (.ifnull off, 3)) (kk : gj_G md d K N k w (pc + 3) lc (st) n C Q) : gj_G md d K N k w pc lc (.ref x :: st) n C Q := by
  intro p l e R s m args below meth c s0 a0 dC dI dA H locs ad ls cx ro hK hP hD hS oC sc ol hl
  exact lv_ifnull cx.1 cx.2.1 hd (kk p l e R s m args below meth c s0 a0 dC dI dA H locs ad ls cx ro hK hP hD hS oC sc (gj_ol_pop ol) hl)
theorem gj_ifnonnullN {off : Int} (hd : decode md.2.1 pc = .ok (.ifnonnull off, 3)) (kk : gj_G md d K N k w (pc + 3) lc (st) n C Q) : gj_G md d K N k w pc lc (.null :: st) n C Q := by
  intro p l e R s m args below meth c s0 a0 dC dI dA H locs ad ls cx ro hK hP hD hS oC sc ol hl
  exact lv_ifnonnullN cx.1 cx.2.1 hd (kk p l e R s m args below meth c s0 a0 dC dI dA H locs ad ls cx ro hK hP hD hS oC sc (gj_ol_pop ol) hl)
theorem gj_ifnonnull {x : Nat} {off : Int} {tgt : Nat} (hd : decode md.2.1 pc = .ok (.ifnonnull off, 3)) (ht : (pc : Int) + off = (tgt : Int)) (kk : gj_G md d K N k w tgt lc st n C Q) : gj_G md d K N k w pc lc (.ref x :: st) n C Q := by
  intro p l e R s m args below meth c s0 a0 dC dI dA H locs ad ls cx ro hK hP hD hS oC sc ol hl
  exact lv_ifnonnull cx.1 cx.2.1 hd ht (kk p l e R s m args below meth c s0 a0 dC dI dA H locs ad ls cx ro hK hP hD hS oC sc (gj_ol_pop ol) hl)
theorem gj_ifnullN {off : Int} {tgt : Nat} (hd : decode md.2.1 pc = .ok (.ifnull off, 3)) (ht : (pc : Int) + off = (tgt : Int)) (kk : gj_G md d K N k w tgt lc st n C Q) : gj_G md d K N k w pc lc (.null :: st) n C Q := by
  intro p l e R s m args below meth c s0 a0 dC dI dA H locs ad ls cx ro hK hP hD hS oC sc ol hl
  exact lv_ifnullN cx.1 cx.2.1 hd ht (kk p l e R s m args below meth c s0 a0 dC dI dA H locs ad ls cx ro hK hP hD hS oC sc (gj_ol_pop ol) hl)
theorem gj_lookup {dflt off : Int} {ps : Array (Int × Int)} {len tgt : Nat} {x : Int32} (hd : decode md.2.1 pc = .ok (.lookupswitch dflt ps, len)) (hp : (ps.toList.zip (ps.toList.drop 1)).all (fun (a, next) => a.1 < next.1) = true) (ho : Op.lookupswitch.offset ps.toList dflt x.toInt = off) (ht : (pc : Int) + off = (tgt : Int)) (kk : gj_G md d K N k w tgt lc st n C Q) : gj_G md d K N k w pc lc (.int x :: st) n C Q := by
  intro p l e R s m args below meth c s0 a0 dC dI dA H locs ad ls cx ro hK hP hD hS oC sc ol hl
  exact lv_lookup cx.1 cx.2.1 hd hp ho ht (kk p l e R s m args below meth c s0 a0 dC dI dA H locs ad ls cx ro hK hP hD hS oC sc (gj_ol_pop ol) hl)
theorem gj_tableOut {dflt lo hi : Int} {offs : Array Int} {len tgt : Nat} {x : Int32} (hd : decode md.2.1 pc = .ok (.tableswitch dflt lo hi offs, len)) (h : x.toInt < lo ∨ hi < x.toInt) (ht : (pc : Int) + dflt = (tgt : Int)) (kk : gj_G md d K N k w tgt lc st n C Q) : gj_G md d K N k w pc lc (.int x :: st) n C Q := by
  intro p l e R s m args below meth c s0 a0 dC dI dA H locs ad ls cx ro hK hP hD hS oC sc ol hl
  exact lv_tableOut cx.1 cx.2.1 hd h ht (kk p l e R s m args below meth c s0 a0 dC dI dA H locs ad ls cx ro hK hP hD hS oC sc (gj_ol_pop ol) hl)
theorem gj_tableIn {dflt lo hi off : Int} {offs : Array Int} {len tgt : Nat} {x : Int32} (hd : decode md.2.1 pc = .ok (.tableswitch dflt lo hi offs, len)) (h1 : ¬ x.toInt < lo) (h2 : ¬ hi < x.toInt) (ho : offs[(x.toInt - lo).toNat]? = some off) (ht : (pc : Int) + off = (tgt : Int)) (kk : gj_G md d K N k w tgt lc st n C Q) : gj_G md d K N k w pc lc (.int x :: st) n C Q := by
  intro p l e R s m args below meth c s0 a0 dC dI dA H locs ad ls cx ro hK hP hD hS oC sc ol hl
  exact lv_tableIn cx.1 cx.2.1 hd h1 h2 ho ht (kk p l e R s m args below meth c s0 a0 dC dI dA H locs ad ls cx ro hK hP hD hS oC sc (gj_ol_pop ol) hl)
theorem gj_ldc {ix : Nat} {v : Int32} (hd : decode md.2.1 pc = .ok (.ldc ix, 2)) (hw : Cond.constant md.1.cls ix v ∈ lw_tbl) (kk : gj_G md d K N k w (pc + 2) lc (.int v :: st) n C Q) : gj_G md d K N k w pc lc st n C Q := by
  intro p l e R s m args below meth c s0 a0 dC dI dA H locs ad ls cx ro hK hP hD hS oC sc ol hl
  exact lv_ldc cx.1 cx.2.1 cx.2.2.2.2.2.2.2.2.1 (gj_word cx hw rfl) hd (kk p l e R s m args below meth c s0 a0 dC dI dA H locs ad ls cx ro hK hP hD hS oC sc (gj_ol_push ol trivial) hl)
theorem gj_ldcw {ix : Nat} {v : Int32} (hd : decode md.2.1 pc = .ok (.ldc_w ix, 3)) (hw : Cond.constant md.1.cls ix v ∈ lw_tbl) (kk : gj_G md d K N k w (pc + 3) lc (.int v :: st) n C Q) : gj_G md d K N k w pc lc st n C Q := by
  intro p l e R s m args below meth c s0 a0 dC dI dA H locs ad ls cx ro hK hP hD hS oC sc ol hl
  exact lv_ldcw cx.1 cx.2.1 cx.2.2.2.2.2.2.2.2.1 (gj_word cx hw rfl) hd (kk p l e R s m args below meth c s0 a0 dC dI dA H locs ad ls cx ro hK hP hD hS oC sc (gj_ol_push ol trivial) hl)
theorem gj_ldc2 {ix : Nat} {v : Int64} (hd : decode md.2.1 pc = .ok (.ldc2_w ix, 3)) (hw : Cond.constantLong md.1.cls ix v ∈ lw_tbl) (kk : gj_G md d K N k w (pc + 3) lc (.long v :: st) n C Q) : gj_G md d K N k w pc lc st n C Q := by
  intro p l e R s m args below meth c s0 a0 dC dI dA H locs ad ls cx ro hK hP hD hS oC sc ol hl
  exact lv_ldc2 cx.1 cx.2.1 cx.2.2.2.2.2.2.2.2.1 (gj_word cx hw rfl) hd (kk p l e R s m args below meth c s0 a0 dC dI dA H locs ad ls cx ro hK hP hD hS oC sc (gj_ol_push ol trivial) hl)
end
end
section
/-! MEMORY: fields, arrays, making -/
theorem gj_ne0i {s0 : State} {ad : Nat → Nat} {C : Nat → va_E} {x ci : Nat} {fs : List Value} (sc : gj_sc s0 ad (C 0)) (hc : C x = .inr (ci, fs)) : x ≠ 0 := by
  rintro rfl
  obtain ⟨L, xs, h, -⟩ := sc
  rw [hc] at h
  cases h
theorem gj_ne0a {s0 : State} {ad : Nat → Nat} {C : Nat → va_E} {x k len : Nat} {a : gj_X} {ty : FieldType} (sc : gj_sc s0 ad (C 0)) (hc : C x = .inl (k, len, a)) (ha : gj_at[k]? = some ty) : x ≠ 0 := by
  rintro rfl
  obtain ⟨L, xs, h, -⟩ := sc
  rw [hc] at h
  cases h
  revert ha
  exact fun h => by have := (List.getElem?_eq_some_iff.mp h).1; revert this; decide
theorem gj_up0 {C : Nat → va_E} {x : Nat} {e : va_E} (h : x ≠ 0) : va_up C x e 0 = C 0 := va_up_ne C e (Ne.symm h)
theorem gj_wsi {dA : Nat → ClassId} {ad : Nat → Nat} {n x ci : Nat} {C : Nat → va_E} {fs : List Value} (h0 : x ≠ 0) (h : x ≤ n) (hc : C x = .inr (ci, fs)) : (gj_ws dA ad n C)[x - 1]? = some (ad x, .inr (ci, fs.map (gj_tv ad))) := by
  rw [gj_ws_at h0 h, hc]
  rfl
theorem gj_wsa {dA : Nat → ClassId} {ad : Nat → Nat} {n x k len : Nat} {C : Nat → va_E} {a : gj_X} (h0 : x ≠ 0) (h : x ≤ n) (hc : C x = .inl (k, len, a)) : (gj_ws dA ad n C)[x - 1]? = some (ad x, .inl (dA k, len, gj_tx ad a)) := by
  rw [gj_ws_at h0 h, hc]
  rfl
/-- a field by its entry in the pool of own: class ci, place kf -/
def gj_fok (own : String) (ix ci kf : Nat) : Prop := ∃ (C0 : String) (T : u_T) (N0 : Nat), gj_cl[ci]? = some (C0, T, N0) ∧ kf < N0 ∧ Cond.fieldLink own ix (T kf).1 (T kf).2.1 (T kf).2.2.1 ∈ lw_tbl ∧ ∀ w ∈ u_ws C0 T N0, w ∈ lw_tbl
/-- .. and that it may be written -/
def gj_pok (own : String) (ix ci kf : Nat) (ty : FieldType) (fin : Bool) : Prop := ∃ (C0 : String) (T : u_T) (N0 : Nat) (t0 : Nat → FieldType), gj_cl[ci]? = some (C0, T, N0) ∧ kf < N0 ∧ Cond.fieldLink own ix (T kf).1 (T kf).2.1 (T kf).2.2.1 ∈ lw_tbl ∧ (∀ w ∈ u_ws C0 T N0, w ∈ lw_tbl) ∧
  (∀ k, k < N0 → parseFieldDescriptor (T k).2.2.1 = some (t0 k)) ∧ (∀ a, a < N0 → ∀ b, b < N0 → a ≠ b → (T a).2.1 ≠ (T b).2.1) ∧ parseFieldDescriptor (T kf).2.2.1 = some ty ∧ (T kf).2.2.2 = fin ∧ (fin = true → (T kf).1 = own)
theorem gj_lays {md : gj_M} {p : Program} {l : Launch} {s : State} {m : MethodId} {meth : Method} {c : Code} {s0 : State} {a0 args : Array Value} (cx : gj_Cx md p l s m meth c s0 a0) {C0 : String} {T : u_T} {N0 : Nat} (h : ∀ w ∈ u_ws C0 T N0, w ∈ lw_tbl) : ∀ w ∈ u_ws C0 T N0, w.before args s = true := by
  intro w hw
  refine gj_word cx (h w hw) ?_
  obtain ⟨k, -, rfl⟩ := List.mem_map.mp hw
  unfold u_lay
  split <;> rfl
section
variable {md : gj_M} {d K N k w pc : Nat} {lc : List (Nat × Value)} {st : List Value} {n : Nat} {C : Nat → va_E} {Q : gj_R → Prop}
theorem gj_get {ix ci kf x : Nat} {fs : List Value} {v : Value} (hd : decode md.2.1 pc = .ok (.getfield ix, 3)) (hf : gj_fok md.1.cls ix ci kf) (hc : C x = .inr (ci, fs)) (hv : fs[kf]? = some v) (kk : gj_G md d K N k w (pc + 3) lc (v :: st) n C Q) : gj_G md d K N k w pc lc (.ref x :: st) n C Q := by
  intro p l e R s m args below meth c s0 a0 dC dI dA H locs ad ls cx ro hK hP hD hS oC sc ol hl
  obtain ⟨C0, T, N0, h1, h2, h3, h4⟩ := hf
  have hx0 := gj_ne0i sc hc
  have hxn : x ≤ n := ol.2 (.ref x) List.mem_cons_self
  have hvn : gj_ov n v := by
    have := oC x hxn
    rw [hc] at this
    exact this v (List.mem_of_getElem? hv)
  exact va_get (D := (dC, dI)) (cl := gj_cl) cx.1 cx.2.1 (gj_lays cx h4) (fun _ h => h) cx.2.2.2.2.2.2.2.2.1 (va_K.moved cx.2.2.2.2.1.alike hK) hP (x - 1) (gj_wsi hx0 hxn hc) h1 kf h2 (gj_word cx h3 rfl) (fun _ h => h) (v := gj_tv ad v) (by rw [List.getElem?_map, hv]; rfl) hd
    (kk p l e R s m args below meth c s0 a0 dC dI dA H locs ad ls cx ro hK hP hD hS oC sc (gj_ol_push (gj_ol_pop ol) hvn) hl)
theorem gj_put {ix ci kf x : Nat} {fs : List Value} {v : Value} {ty : FieldType} (hd : decode md.2.1 pc = .ok (.putfield ix, 3)) (hf : gj_pok md.1.cls ix ci kf ty false) (hc : C x = .inr (ci, fs)) (hv : kf < fs.length) (hn : ∀ ad, narrow ty (gj_tv ad v) = gj_tv ad v) (hfit : ∀ ad, fits ty (gj_tv ad v) = true) (kk : gj_G md d K N k w (pc + 3) lc st n (va_up C x (.inr (ci, fs.set kf v))) Q) : gj_G md d K N k w pc lc (v :: .ref x :: st) n C Q := by
  intro p l e R s m args below meth c s0 a0 dC dI dA H locs ad ls cx ro hK hP hD hS oC sc ol hl
  obtain ⟨C0, T, N0, t0, h1, h2, h3, h4, h5, h6, h7, h8, -⟩ := hf
  have hx0 := gj_ne0i sc hc
  have hxn : x ≤ n := ol.2 (.ref x) (List.mem_cons_of_mem _ List.mem_cons_self)
  have he : gj_oe n (.inr (ci, fs.set kf v)) := by
    have := oC x hxn
    rw [hc] at this
    intro u hu
    rcases List.mem_or_eq_of_mem_set hu with h | h
    · exact this u h
    · rw [h]; exact ol.2 v List.mem_cons_self
  have e9 : (gj_ws dA ad n C).set (x - 1) (ad x, .inr (ci, (fs.map (gj_tv ad)).set kf (gj_tv ad v))) = gj_ws dA ad n (va_up C x (.inr (ci, fs.set kf v))) := by
    rw [← gj_ws_set _ hx0, ← List.map_set]
    rfl
  refine va_put (D := (dC, dI)) (cl := gj_cl) cx.1 cx.2.1 (gj_lays cx h4) (fun _ h => h) t0 h5 h6 cx.2.2.2.2.2.2.2.2.1 (va_K.moved cx.2.2.2.2.1.alike hK) hP hD hS (x - 1) (gj_wsi hx0 hxn hc) h1 kf h2 (gj_word cx h3 rfl) (fun _ h => h) h8 (v := gj_tv ad v) h7 (hn ad) (hfit ad) (by rw [List.length_map]; exact hv) hd (fun H1 locs1 hP1 hD1 hS1 => ?_)
  rw [e9] at hP1 hD1
  have := kk p l e R s m args below meth c s0 a0 dC dI dA H1 locs1 ad ls cx ro hK hP1 hD1 hS1 (gj_oC_up oC he) (by rw [gj_up0 hx0]; exact sc) (gj_ol_pop (gj_ol_pop ol)) hl
  rw [gj_up0 hx0] at this
  exact this
theorem gj_putF {ix ci kf x : Nat} {fs : List Value} {v : Value} {ty : FieldType} (hd : decode md.2.1 pc = .ok (.putfield ix, 3)) (hf : gj_pok md.1.cls ix ci kf ty true) (hin : md.1.name = "<init>") (hc : C x = .inr (ci, fs)) (hv : kf < fs.length) (hn : ∀ ad, narrow ty (gj_tv ad v) = gj_tv ad v) (hfit : ∀ ad, fits ty (gj_tv ad v) = true) (kk : gj_G md d K N k w (pc + 3) lc st n (va_up C x (.inr (ci, fs.set kf v))) Q) : gj_G md d K N k w pc lc (v :: .ref x :: st) n C Q := by
  intro p l e R s m args below meth c s0 a0 dC dI dA H locs ad ls cx ro hK hP hD hS oC sc ol hl
  obtain ⟨C0, T, N0, t0, h1, h2, h3, h4, h5, h6, h7, h8, h9⟩ := hf
  have hx0 := gj_ne0i sc hc
  have hxn : x ≤ n := ol.2 (.ref x) (List.mem_cons_of_mem _ List.mem_cons_self)
  have he : gj_oe n (.inr (ci, fs.set kf v)) := by
    have := oC x hxn
    rw [hc] at this
    intro u hu
    rcases List.mem_or_eq_of_mem_set hu with h | h
    · exact this u h
    · rw [h]; exact ol.2 v List.mem_cons_self
  have e9 : (gj_ws dA ad n C).set (x - 1) (ad x, .inr (ci, (fs.map (gj_tv ad)).set kf (gj_tv ad v))) = gj_ws dA ad n (va_up C x (.inr (ci, fs.set kf v))) := by
    rw [← gj_ws_set _ hx0, ← List.map_set]
    rfl
  refine va_putF (D := (dC, dI)) (cl := gj_cl) cx.1 cx.2.1 (gj_lays cx h4) (fun _ h => h) t0 h5 h6 cx.2.2.2.2.2.2.2.2.1 (va_K.moved cx.2.2.2.2.1.alike hK) hP hD hS (x - 1) (gj_wsi hx0 hxn hc) h1 kf h2 (gj_word cx h3 rfl) (fun _ h => h) h8 (cx.2.2.2.2.2.2.2.2.2.2.1.trans hin) (h9 rfl) (v := gj_tv ad v) h7 (hn ad) (hfit ad) (by rw [List.length_map]; exact hv) hd (fun H1 locs1 hP1 hD1 hS1 => ?_)
  rw [e9] at hP1 hD1
  have := kk p l e R s m args below meth c s0 a0 dC dI dA H1 locs1 ad ls cx ro hK hP1 hD1 hS1 (gj_oC_up oC he) (by rw [gj_up0 hx0]; exact sc) (gj_ol_pop (gj_ol_pop ol)) hl
  rw [gj_up0 hx0] at this
  exact this
theorem gj_iald {x kA len : Nat} {f : Nat → Int32} {i : Int32} (hd : decode md.2.1 pc = .ok (.iaload, 1)) (hc : C x = .inl (kA, len, .inl f)) (ha : gj_at[kA]? = some .int) (hi : vp_in i len) (kk : gj_G md d K N k w (pc + 1) lc (.int (f i.toNatClampNeg) :: st) n C Q) : gj_G md d K N k w pc lc (.int i :: .ref x :: st) n C Q := by
  intro p l e R s m args below meth c s0 a0 dC dI dA H locs ad ls cx ro hK hP hD hS oC sc ol hl
  have hxn : x ≤ n := ol.2 (.ref x) (List.mem_cons_of_mem _ List.mem_cons_self)
  exact va_iald (D := (dC, dI)) (cl := gj_cl) cx.1 cx.2.1 (va_K.moved cx.2.2.2.2.1.alike hK) hP (x - 1) kA (gj_wsa (gj_ne0a sc hc ha) hxn hc) (gj_tys_at ha) hi hd
    (kk p l e R s m args below meth c s0 a0 dC dI dA H locs ad ls cx ro hK hP hD hS oC sc (gj_ol_push (gj_ol_pop (gj_ol_pop ol)) trivial) hl)
theorem gj_zald {x kA len : Nat} {f : Nat → Int32} {i : Int32} (hd : decode md.2.1 pc = .ok (.baload, 1)) (hc : C x = .inl (kA, len, .inl f)) (ha : gj_at[kA]? = some .boolean) (hi : vp_in i len) (kk : gj_G md d K N k w (pc + 1) lc (.int (f i.toNatClampNeg) :: st) n C Q) : gj_G md d K N k w pc lc (.int i :: .ref x :: st) n C Q := by
  intro p l e R s m args below meth c s0 a0 dC dI dA H locs ad ls cx ro hK hP hD hS oC sc ol hl
  have hxn : x ≤ n := ol.2 (.ref x) (List.mem_cons_of_mem _ List.mem_cons_self)
  exact va_zald (D := (dC, dI)) (cl := gj_cl) cx.1 cx.2.1 (va_K.moved cx.2.2.2.2.1.alike hK) hP (x - 1) kA (gj_wsa (gj_ne0a sc hc ha) hxn hc) (gj_tys_at ha) hi hd
    (kk p l e R s m args below meth c s0 a0 dC dI dA H locs ad ls cx ro hK hP hD hS oC sc (gj_ol_push (gj_ol_pop (gj_ol_pop ol)) trivial) hl)
theorem gj_lald {x kA len : Nat} {f : Nat → Int64} {i : Int32} (hd : decode md.2.1 pc = .ok (.laload, 1)) (hc : C x = .inl (kA, len, .inr (.inl f))) (ha : gj_at[kA]? = some .long) (hi : vp_in i len) (kk : gj_G md d K N k w (pc + 1) lc (.long (f i.toNatClampNeg) :: st) n C Q) : gj_G md d K N k w pc lc (.int i :: .ref x :: st) n C Q := by
  intro p l e R s m args below meth c s0 a0 dC dI dA H locs ad ls cx ro hK hP hD hS oC sc ol hl
  have hxn : x ≤ n := ol.2 (.ref x) (List.mem_cons_of_mem _ List.mem_cons_self)
  exact va_lald (D := (dC, dI)) (cl := gj_cl) cx.1 cx.2.1 (va_K.moved cx.2.2.2.2.1.alike hK) hP (x - 1) kA (gj_wsa (gj_ne0a sc hc ha) hxn hc) (gj_tys_at ha) hi hd
    (kk p l e R s m args below meth c s0 a0 dC dI dA H locs ad ls cx ro hK hP hD hS oC sc (gj_ol_push (gj_ol_pop (gj_ol_pop ol)) trivial) hl)
theorem gj_rf (ad : Nat → Nat) (o : Option Nat) : gj_tv ad (va_rf o) = va_rf (o.map ad) := by cases o <;> rfl
theorem gj_aald {x kA len : Nat} {f : Nat → Option Nat} {i : Int32} {C0 : String} (hd : decode md.2.1 pc = .ok (.aaload, 1)) (hc : C x = .inl (kA, len, .inr (.inr (.inr (.inr f))))) (ha : gj_at[kA]? = some (.object C0)) (hi : vp_in i len) (kk : gj_G md d K N k w (pc + 1) lc (va_rf (f i.toNatClampNeg) :: st) n C Q) : gj_G md d K N k w pc lc (.int i :: .ref x :: st) n C Q := by
  intro p l e R s m args below meth c s0 a0 dC dI dA H locs ad ls cx ro hK hP hD hS oC sc ol hl
  have hxn : x ≤ n := ol.2 (.ref x) (List.mem_cons_of_mem _ List.mem_cons_self)
  have hvn : gj_ov n (va_rf (f i.toNatClampNeg)) := by
    have := oC x hxn
    rw [hc] at this
    cases hf : f i.toNatClampNeg with
    | none => trivial
    | some y => exact this _ _ hf
  have := kk p l e R s m args below meth c s0 a0 dC dI dA H locs ad ls cx ro hK hP hD hS oC sc (gj_ol_push (gj_ol_pop (gj_ol_pop ol)) hvn) hl
  rw [List.map_cons, gj_rf] at this
  exact va_aldq (D := (dC, dI)) (cl := gj_cl) cx.1 cx.2.1 (va_K.moved cx.2.2.2.2.1.alike hK) hP (x - 1) kA (gj_wsa (gj_ne0a sc hc ha) hxn hc) (gj_tys_at ha) hi hd this
theorem gj_iast {x kA len : Nat} {f : Nat → Int32} {i v : Int32} (hd : decode md.2.1 pc = .ok (.iastore, 1)) (hc : C x = .inl (kA, len, .inl f)) (ha : gj_at[kA]? = some .int) (hi : vp_in i len) (kk : gj_G md d K N k w (pc + 1) lc st n (va_up C x (.inl (kA, len, .inl (upd f i.toNatClampNeg v)))) Q) : gj_G md d K N k w pc lc (.int v :: .int i :: .ref x :: st) n C Q := by
  intro p l e R s m args below meth c s0 a0 dC dI dA H locs ad ls cx ro hK hP hD hS oC sc ol hl
  have hxn : x ≤ n := ol.2 (.ref x) (List.mem_cons_of_mem _ (List.mem_cons_of_mem _ List.mem_cons_self))
  have hx0 := gj_ne0a sc hc ha
  refine va_iast (D := (dC, dI)) (cl := gj_cl) cx.1 cx.2.1 (va_K.moved cx.2.2.2.2.1.alike hK) hP hD hS (x - 1) kA (gj_wsa hx0 hxn hc) (gj_tys_at ha) hi hd (fun H1 locs1 hP1 hD1 hS1 => ?_)
  have e9 := gj_ws_set (dA := dA) (ad := ad) (n := n) (C := C) (.inl (kA, len, .inl (upd f i.toNatClampNeg v))) hx0
  have hP1 : va_P (dC, dI) gj_cl ((gj_ws dA ad n C).set (x - 1) (ad x, gj_te dA ad (.inl (kA, len, .inl (upd f i.toNatClampNeg v))))) H1 := hP1
  have hD1 : va_D (fun q : Nat => s0.heap.size ≤ q) ((gj_ws dA ad n C).set (x - 1) (ad x, gj_te dA ad (.inl (kA, len, .inl (upd f i.toNatClampNeg v))))) := hD1
  rw [e9] at hP1 hD1
  have := kk p l e R s m args below meth c s0 a0 dC dI dA H1 locs1 ad ls cx ro hK hP1 hD1 hS1 (gj_oC_up oC trivial) (by rw [gj_up0 hx0]; exact sc) (gj_ol_pop (gj_ol_pop (gj_ol_pop ol))) hl
  rw [gj_up0 hx0] at this
  exact this
theorem gj_zast {x kA len : Nat} {f : Nat → Int32} {i v : Int32} (hd : decode md.2.1 pc = .ok (.bastore, 1)) (hc : C x = .inl (kA, len, .inl f)) (ha : gj_at[kA]? = some .boolean) (hi : vp_in i len) (kk : gj_G md d K N k w (pc + 1) lc st n (va_up C x (.inl (kA, len, .inl (upd f i.toNatClampNeg (vp_nar .boolean v))))) Q) : gj_G md d K N k w pc lc (.int v :: .int i :: .ref x :: st) n C Q := by
  intro p l e R s m args below meth c s0 a0 dC dI dA H locs ad ls cx ro hK hP hD hS oC sc ol hl
  have hxn : x ≤ n := ol.2 (.ref x) (List.mem_cons_of_mem _ (List.mem_cons_of_mem _ List.mem_cons_self))
  have hx0 := gj_ne0a sc hc ha
  refine va_zast (D := (dC, dI)) (cl := gj_cl) cx.1 cx.2.1 (va_K.moved cx.2.2.2.2.1.alike hK) hP hD hS (x - 1) kA (gj_wsa hx0 hxn hc) (gj_tys_at ha) hi hd (fun H1 locs1 hP1 hD1 hS1 => ?_)
  have e9 := gj_ws_set (dA := dA) (ad := ad) (n := n) (C := C) (.inl (kA, len, .inl (upd f i.toNatClampNeg (vp_nar .boolean v)))) hx0
  have hP1 : va_P (dC, dI) gj_cl ((gj_ws dA ad n C).set (x - 1) (ad x, gj_te dA ad (.inl (kA, len, .inl (upd f i.toNatClampNeg (vp_nar .boolean v)))))) H1 := hP1
  have hD1 : va_D (fun q : Nat => s0.heap.size ≤ q) ((gj_ws dA ad n C).set (x - 1) (ad x, gj_te dA ad (.inl (kA, len, .inl (upd f i.toNatClampNeg (vp_nar .boolean v)))))) := hD1
  rw [e9] at hP1 hD1
  have := kk p l e R s m args below meth c s0 a0 dC dI dA H1 locs1 ad ls cx ro hK hP1 hD1 hS1 (gj_oC_up oC trivial) (by rw [gj_up0 hx0]; exact sc) (gj_ol_pop (gj_ol_pop (gj_ol_pop ol))) hl
  rw [gj_up0 hx0] at this
  exact this
theorem gj_last {x kA len : Nat} {f : Nat → Int64} {i : Int32} {v : Int64} (hd : decode md.2.1 pc = .ok (.lastore, 1)) (hc : C x = .inl (kA, len, .inr (.inl f))) (ha : gj_at[kA]? = some .long) (hi : vp_in i len) (kk : gj_G md d K N k w (pc + 1) lc st n (va_up C x (.inl (kA, len, .inr (.inl (vp_updL f i.toNatClampNeg v))))) Q) : gj_G md d K N k w pc lc (.long v :: .int i :: .ref x :: st) n C Q := by
  intro p l e R s m args below meth c s0 a0 dC dI dA H locs ad ls cx ro hK hP hD hS oC sc ol hl
  have hxn : x ≤ n := ol.2 (.ref x) (List.mem_cons_of_mem _ (List.mem_cons_of_mem _ List.mem_cons_self))
  have hx0 := gj_ne0a sc hc ha
  refine va_last (D := (dC, dI)) (cl := gj_cl) cx.1 cx.2.1 (va_K.moved cx.2.2.2.2.1.alike hK) hP hD hS (x - 1) kA (gj_wsa hx0 hxn hc) (gj_tys_at ha) hi hd (fun H1 locs1 hP1 hD1 hS1 => ?_)
  have e9 := gj_ws_set (dA := dA) (ad := ad) (n := n) (C := C) (.inl (kA, len, .inr (.inl (vp_updL f i.toNatClampNeg v)))) hx0
  have hP1 : va_P (dC, dI) gj_cl ((gj_ws dA ad n C).set (x - 1) (ad x, gj_te dA ad (.inl (kA, len, .inr (.inl (vp_updL f i.toNatClampNeg v)))))) H1 := hP1
  have hD1 : va_D (fun q : Nat => s0.heap.size ≤ q) ((gj_ws dA ad n C).set (x - 1) (ad x, gj_te dA ad (.inl (kA, len, .inr (.inl (vp_updL f i.toNatClampNeg v)))))) := hD1
  rw [e9] at hP1 hD1
  have := kk p l e R s m args below meth c s0 a0 dC dI dA H1 locs1 ad ls cx ro hK hP1 hD1 hS1 (gj_oC_up oC trivial) (by rw [gj_up0 hx0]; exact sc) (gj_ol_pop (gj_ol_pop (gj_ol_pop ol))) hl
  rw [gj_up0 hx0] at this
  exact this
theorem gj_upm (ad : Nat → Nat) (f : Nat → Option Nat) (j : Nat) (o : Option Nat) : (fun i => (va_up f j o i).map ad) = va_up (fun i => (f i).map ad) j (o.map ad) := by
  funext i
  unfold va_up
  split <;> rfl
theorem gj_oxq {n j y : Nat} {f : Nat → Option Nat} (h : ∀ j y, f j = some y → y ≤ n) (hy : y ≤ n) : ∀ i z, va_up f j (some y) i = some z → z ≤ n := by
  intro i z hz
  unfold va_up at hz
  split at hz
  · cases hz; exact hy
  · exact h i z hz
theorem gj_oxn {n j : Nat} {f : Nat → Option Nat} (h : ∀ j y, f j = some y → y ≤ n) : ∀ i z, va_up f j none i = some z → z ≤ n := by
  intro i z hz
  unfold va_up at hz
  split at hz
  · cases hz
  · exact h i z hz
theorem gj_aast {x y kA len cv : Nat} {f : Nat → Option Nat} {i : Int32} {r : vw_C} {vs : List Value} (hd : decode md.2.1 pc = .ok (.aastore, 1)) (hc : C x = .inl (kA, len, .inr (.inr (.inr (.inr f))))) (hv : C y = .inr (cv, vs)) (hr : gj_cl[cv]? = some r) (ha : gj_at[kA]? = some (.object r.1)) (hi : vp_in i len) (kk : gj_G md d K N k w (pc + 1) lc st n (va_up C x (.inl (kA, len, .inr (.inr (.inr (.inr (va_up f i.toNatClampNeg (some y)))))))) Q) : gj_G md d K N k w pc lc (.ref y :: .int i :: .ref x :: st) n C Q := by
  intro p l e R s m args below meth c s0 a0 dC dI dA H locs ad ls cx ro hK hP hD hS oC sc ol hl
  have hxn : x ≤ n := ol.2 (.ref x) (List.mem_cons_of_mem _ (List.mem_cons_of_mem _ List.mem_cons_self))
  have hyn : y ≤ n := ol.2 (.ref y) List.mem_cons_self
  have hx0 := gj_ne0a sc hc ha
  have hy0 := gj_ne0i sc hv
  have hox : ∀ j y, f j = some y → y ≤ n := by
    have := oC x hxn
    rw [hc] at this
    exact this
  refine va_astq (D := (dC, dI)) (cl := gj_cl) cx.1 cx.2.1 (va_K.moved cx.2.2.2.2.1.alike hK) hP hD hS (x - 1) kA (y - 1) cv (gj_wsa hx0 hxn hc) (gj_tys_at ha) (gj_wsi hy0 hyn hv) hr hi hd (fun H1 locs1 hP1 hD1 hS1 => ?_)
  have e9 := gj_ws_set (dA := dA) (ad := ad) (n := n) (C := C) (.inl (kA, len, .inr (.inr (.inr (.inr (va_up f i.toNatClampNeg (some y))))))) hx0
  have e8 : gj_te dA ad (.inl (kA, len, .inr (.inr (.inr (.inr (va_up f i.toNatClampNeg (some y))))))) = .inl (dA kA, len, .inr (.inr (.inr (.inr (va_up (fun j => (f j).map ad) i.toNatClampNeg (some (ad y))))))) := by
    show (Sum.inl (dA kA, len, Sum.inr (Sum.inr (Sum.inr (Sum.inr (fun j => (va_up f i.toNatClampNeg (some y) j).map ad))))) : va_E) = _
    rw [gj_upm]
    rfl
  rw [e8] at e9
  rw [e9] at hP1 hD1
  have := kk p l e R s m args below meth c s0 a0 dC dI dA H1 locs1 ad ls cx ro hK hP1 hD1 hS1 (gj_oC_up oC (gj_oxq hox hyn)) (by rw [gj_up0 hx0]; exact sc) (gj_ol_pop (gj_ol_pop (gj_ol_pop ol))) hl
  rw [gj_up0 hx0] at this
  exact this
theorem gj_aastN {x kA len : Nat} {f : Nat → Option Nat} {i : Int32} {C0 : String} (hd : decode md.2.1 pc = .ok (.aastore, 1)) (hc : C x = .inl (kA, len, .inr (.inr (.inr (.inr f))))) (ha : gj_at[kA]? = some (.object C0)) (hi : vp_in i len) (kk : gj_G md d K N k w (pc + 1) lc st n (va_up C x (.inl (kA, len, .inr (.inr (.inr (.inr (va_up f i.toNatClampNeg none))))))) Q) : gj_G md d K N k w pc lc (.null :: .int i :: .ref x :: st) n C Q := by
  intro p l e R s m args below meth c s0 a0 dC dI dA H locs ad ls cx ro hK hP hD hS oC sc ol hl
  have hxn : x ≤ n := ol.2 (.ref x) (List.mem_cons_of_mem _ (List.mem_cons_of_mem _ List.mem_cons_self))
  have hx0 := gj_ne0a sc hc ha
  have hox : ∀ j y, f j = some y → y ≤ n := by
    have := oC x hxn
    rw [hc] at this
    exact this
  refine va_astqN (D := (dC, dI)) (cl := gj_cl) cx.1 cx.2.1 (va_K.moved cx.2.2.2.2.1.alike hK) hP hD hS (x - 1) kA (gj_wsa hx0 hxn hc) (gj_tys_at ha) hi hd (fun H1 locs1 hP1 hD1 hS1 => ?_)
  have e9 := gj_ws_set (dA := dA) (ad := ad) (n := n) (C := C) (.inl (kA, len, .inr (.inr (.inr (.inr (va_up f i.toNatClampNeg none)))))) hx0
  have e8 : gj_te dA ad (.inl (kA, len, .inr (.inr (.inr (.inr (va_up f i.toNatClampNeg none)))))) = .inl (dA kA, len, .inr (.inr (.inr (.inr (va_up (fun j => (f j).map ad) i.toNatClampNeg none))))) := by
    show (Sum.inl (dA kA, len, Sum.inr (Sum.inr (Sum.inr (Sum.inr (fun j => (va_up f i.toNatClampNeg none j).map ad))))) : va_E) = _
    rw [gj_upm]
    rfl
  rw [e8] at e9
  rw [e9] at hP1 hD1
  have := kk p l e R s m args below meth c s0 a0 dC dI dA H1 locs1 ad ls cx ro hK hP1 hD1 hS1 (gj_oC_up oC (gj_oxn hox)) (by rw [gj_up0 hx0]; exact sc) (gj_ol_pop (gj_ol_pop (gj_ol_pop ol))) hl
  rw [gj_up0 hx0] at this
  exact this
theorem gj_alen {x kA len : Nat} {a : gj_X} {ty : FieldType} (hd : decode md.2.1 pc = .ok (.arraylength, 1)) (hc : C x = .inl (kA, len, a)) (ha : gj_at[kA]? = some ty) (kk : gj_G md d K N k w (pc + 1) lc (.int (Int32.ofNat len) :: st) n C Q) : gj_G md d K N k w pc lc (.ref x :: st) n C Q := by
  intro p l e R s m args below meth c s0 a0 dC dI dA H locs ad ls cx ro hK hP hD hS oC sc ol hl
  have hxn : x ≤ n := ol.2 (.ref x) List.mem_cons_self
  exact va_alen (D := (dC, dI)) (cl := gj_cl) cx.1 cx.2.1 (va_K.moved cx.2.2.2.2.1.alike hK) hP (x - 1) kA (gj_wsa (gj_ne0a sc hc ha) hxn hc) (gj_tys_at ha) rfl hd
    (kk p l e R s m args below meth c s0 a0 dC dI dA H locs ad ls cx ro hK hP hD hS oC sc (gj_ol_push (gj_ol_pop ol) trivial) hl)
/-- the script's ints and length -/
theorem gj_xS {p : Program} {l : Launch} {s : State} {m : MethodId} {meth : Method} {c : Code} {s0 : State} {a0 : Array Value} {b L : Nat} {xs : Nat → Int32} (cx : gj_Cx md p l s m meth c s0 a0) (h : va_X b L xs s0 s0.heap) (hb : b < s0.heap.size) : va_X b L xs s s.heap :=
  (va_X.moved cx.2.2.2.2.1.alike h).kept (cx.2.2.2.2.2.1.2 b hb)
theorem gj_sld {L : Nat} {xs : Nat → Int32} {i : Int32} (hd : decode md.2.1 pc = .ok (.iaload, 1)) (hc : C 0 = .inl (999, L, .inl xs)) (hi : vp_in i L) (kk : gj_G md d K N k w (pc + 1) lc (.int (xs i.toNatClampNeg) :: st) n C Q) : gj_G md d K N k w pc lc (.int i :: .ref 0 :: st) n C Q := by
  intro p l e R s m args below meth c s0 a0 dC dI dA H locs ad ls cx ro hK hP hD hS oC sc ol hl
  obtain ⟨L', xs', h1, h2, h3⟩ := id sc
  rw [hc] at h1
  cases h1
  exact va_sld cx.1 cx.2.1 (gj_xS cx h2 h3) (Nat.lt_of_lt_of_le h3 cx.2.2.2.2.2.1.1) (Nat.not_le.mpr h3) hS hi hd
    (kk p l e R s m args below meth c s0 a0 dC dI dA H locs ad ls cx ro hK hP hD hS oC sc (gj_ol_push (gj_ol_pop (gj_ol_pop ol)) trivial) hl)
theorem gj_slen {L : Nat} {xs : Nat → Int32} (hd : decode md.2.1 pc = .ok (.arraylength, 1)) (hc : C 0 = .inl (999, L, .inl xs)) (kk : gj_G md d K N k w (pc + 1) lc (.int (Int32.ofNat L) :: st) n C Q) : gj_G md d K N k w pc lc (.ref 0 :: st) n C Q := by
  intro p l e R s m args below meth c s0 a0 dC dI dA H locs ad ls cx ro hK hP hD hS oC sc ol hl
  obtain ⟨L', xs', h1, h2, h3⟩ := id sc
  rw [hc] at h1
  cases h1
  exact va_slen cx.1 cx.2.1 (gj_xS cx h2 h3) (Nat.lt_of_lt_of_le h3 cx.2.2.2.2.2.1.1) (Nat.not_le.mpr h3) hS hd
    (kk p l e R s m args below meth c s0 a0 dC dI dA H locs ad ls cx ro hK hP hD hS oC sc (gj_ol_push (gj_ol_pop ol) trivial) hl)
end
end
section
/-! MAKING: a new cell takes the next label -/
section
variable {md : gj_M} {d K N k w pc : Nat} {lc : List (Nat × Value)} {st : List Value} {n : Nat} {C : Nat → va_E} {Q : gj_R → Prop}
theorem gj_grow {p : Program} {l : Launch} {e : Env} {R : Room} {s : State} {m : MethodId} {args : Array Value} {below : List Frame} {meth : Method} {c : Code} {s0 : State} {a0 : Array Value} {dC : Nat → ClassId} {dI : Nat → Nat → Nat} {dA : Nat → ClassId} {H1 : Heap} {locs : List Loc} {ad : Nat → Nat} {ls : Array Slot} {q : Nat} {ne : va_E}
    (kk : gj_G md d K N k w pc lc (.ref (n + 1) :: st) (n + 1) (va_up C (n + 1) ne) Q) (cx : gj_Cx md p l s m meth c s0 a0) (ro : gj_ro d K N R) (hK : va_K (dC, dI) gj_cl (gj_tys dA) s0)
    (hP : va_P (dC, dI) gj_cl (gj_ws dA ad n C ++ [(q, gj_te dA ad ne)]) H1) (hD : va_D (fun q : Nat => s0.heap.size ≤ q) (gj_ws dA ad n C ++ [(q, gj_te dA ad ne)])) (hS : va_S (fun q : Nat => s0.heap.size ≤ q) s.heap H1 locs) (oC : gj_oC n C) (he : gj_oe n ne) (sc : gj_sc s0 ad (C 0)) (ol : gj_ol n lc st) (hl : lv_has ls md.2.2.1 (gj_tl ad lc)) :
    W p l e R s m args below meth c H1 locs k w (gj_E below s s0 dC dI dA ad (C 0) n K N Q) (F0 m pc ls (.ref q :: st.map (gj_tv ad))) := by
  have ha : ∀ x, x ≤ n → va_up ad (n + 1) q x = ad x := fun x hx => va_up_ne ad q (by omega)
  have h0 : va_up C (n + 1) ne 0 = C 0 := va_up_ne C ne (by omega)
  rw [gj_ws_push oC he] at hP hD
  have := kk p l e R s m args below meth c s0 a0 dC dI dA H1 locs (va_up ad (n + 1) q) ls cx ro hK hP hD hS (gj_oC_push oC (gj_oe_le (Nat.le_succ n) he)) (by
    rw [h0]
    obtain ⟨L, xs, h1, h2, h3⟩ := sc
    have h4 := ha 0 (Nat.zero_le n)
    exact ⟨L, xs, h1, by rw [h4]; exact h2, by rw [h4]; exact h3⟩) (gj_ol_push (gj_ol_le (Nat.le_succ n) ol) (Nat.le_refl (n + 1))) (by rw [gj_tl_eq ha ol.1]; exact hl)
  rw [List.map_cons, gj_ts_eq ha ol.2, show gj_tv (va_up ad (n + 1) q) (.ref (n + 1)) = .ref q from congrArg Value.ref (va_up_self ad (n + 1) q)] at this
  exact gj_Wm this (gj_E_mono (Nat.le_succ n) ha h0)
theorem gj_newI {z : Int32} {kA len : Nat} (hd : decode md.2.1 pc = .ok (.newarray .int, 2)) (hw : Cond.arrayClass .int ∈ lw_tbl) (ha : gj_at[kA]? = some .int) (hz : ¬ z < 0) (hl : z.toNatClampNeg = len) (hb : len * 4 ≤ 536870912) (hk : k + 1 ≤ K) (hn : w + len ≤ N)
    (kk : gj_G md d K N (k + 1) (w + len) (pc + 2) lc (.ref (n + 1) :: st) (n + 1) (va_up C (n + 1) (.inl (kA, len, .inl (fun _ => 0)))) Q) : gj_G md d K N k w pc lc (.int z :: st) n C Q := by
  intro p l e R s m args below meth c s0 a0 dC dI dA H locs ad ls cx ro hK hP hD hS oC sc ol hl2
  have hKs := va_K.moved cx.2.2.2.2.1.alike hK
  refine va_newa (atype := .int) (ty := .int) (D := (dC, dI)) (cl := gj_cl) (a0 := (len, .inl (fun _ => 0))) cx.1 cx.2.1 (gj_word cx hw rfl) rfl hKs hP hD hS (fun q hq => Nat.le_trans cx.2.2.2.2.2.1.1 hq) (fun _ => rfl) hz hl hb (Nat.le_trans hk ro.2.2.1) (Nat.le_trans hn ro.2.2.2) hd (fun q cA H1 hK1 hP1 hD1 hS1 => ?_)
  have e1 : s.vm.findClass ("[" ++ FieldType.int.toString) = some cA := (hK1.2 (gj_tys dA).length (cA, .int) (by simp)).2
  have e2 : s.vm.findClass ("[" ++ FieldType.int.toString) = some (dA kA) := (hKs.2 kA (dA kA, .int) (gj_tys_at ha)).2
  cases Option.some.inj (e1.symm.trans e2)
  exact gj_grow (ne := .inl (kA, len, .inl (fun _ => 0))) kk cx ro hK hP1 hD1 hS1 oC trivial sc (gj_ol_pop ol) hl2
theorem gj_newZ {z : Int32} {kA len : Nat} (hd : decode md.2.1 pc = .ok (.newarray .boolean, 2)) (hw : Cond.arrayClass .boolean ∈ lw_tbl) (ha : gj_at[kA]? = some .boolean) (hz : ¬ z < 0) (hl : z.toNatClampNeg = len) (hb : len * 1 ≤ 536870912) (hk : k + 1 ≤ K) (hn : w + len ≤ N)
    (kk : gj_G md d K N (k + 1) (w + len) (pc + 2) lc (.ref (n + 1) :: st) (n + 1) (va_up C (n + 1) (.inl (kA, len, .inl (fun _ => 0)))) Q) : gj_G md d K N k w pc lc (.int z :: st) n C Q := by
  intro p l e R s m args below meth c s0 a0 dC dI dA H locs ad ls cx ro hK hP hD hS oC sc ol hl2
  have hKs := va_K.moved cx.2.2.2.2.1.alike hK
  refine va_newa (atype := .boolean) (ty := .boolean) (D := (dC, dI)) (cl := gj_cl) (a0 := (len, .inl (fun _ => 0))) cx.1 cx.2.1 (gj_word cx hw rfl) rfl hKs hP hD hS (fun q hq => Nat.le_trans cx.2.2.2.2.2.1.1 hq) (fun _ => rfl) hz hl hb (Nat.le_trans hk ro.2.2.1) (Nat.le_trans hn ro.2.2.2) hd (fun q cA H1 hK1 hP1 hD1 hS1 => ?_)
  have e1 : s.vm.findClass ("[" ++ FieldType.boolean.toString) = some cA := (hK1.2 (gj_tys dA).length (cA, .boolean) (by simp)).2
  have e2 : s.vm.findClass ("[" ++ FieldType.boolean.toString) = some (dA kA) := (hKs.2 kA (dA kA, .boolean) (gj_tys_at ha)).2
  cases Option.some.inj (e1.symm.trans e2)
  exact gj_grow (ne := .inl (kA, len, .inl (fun _ => 0))) kk cx ro hK hP1 hD1 hS1 oC trivial sc (gj_ol_pop ol) hl2
theorem gj_newL {z : Int32} {kA len : Nat} (hd : decode md.2.1 pc = .ok (.newarray .long, 2)) (hw : Cond.arrayClass .long ∈ lw_tbl) (ha : gj_at[kA]? = some .long) (hz : ¬ z < 0) (hl : z.toNatClampNeg = len) (hb : len * 8 ≤ 536870912) (hk : k + 1 ≤ K) (hn : w + len ≤ N)
    (kk : gj_G md d K N (k + 1) (w + len) (pc + 2) lc (.ref (n + 1) :: st) (n + 1) (va_up C (n + 1) (.inl (kA, len, .inr (.inl (fun _ => 0))))) Q) : gj_G md d K N k w pc lc (.int z :: st) n C Q := by
  intro p l e R s m args below meth c s0 a0 dC dI dA H locs ad ls cx ro hK hP hD hS oC sc ol hl2
  have hKs := va_K.moved cx.2.2.2.2.1.alike hK
  refine va_newa (atype := .long) (ty := .long) (D := (dC, dI)) (cl := gj_cl) (a0 := (len, .inr (.inl (fun _ => 0)))) cx.1 cx.2.1 (gj_word cx hw rfl) rfl hKs hP hD hS (fun q hq => Nat.le_trans cx.2.2.2.2.2.1.1 hq) (fun _ => rfl) hz hl hb (Nat.le_trans hk ro.2.2.1) (Nat.le_trans hn ro.2.2.2) hd (fun q cA H1 hK1 hP1 hD1 hS1 => ?_)
  have e1 : s.vm.findClass ("[" ++ FieldType.long.toString) = some cA := (hK1.2 (gj_tys dA).length (cA, .long) (by simp)).2
  have e2 : s.vm.findClass ("[" ++ FieldType.long.toString) = some (dA kA) := (hKs.2 kA (dA kA, .long) (gj_tys_at ha)).2
  cases Option.some.inj (e1.symm.trans e2)
  exact gj_grow (ne := .inl (kA, len, .inr (.inl (fun _ => 0)))) kk cx ro hK hP1 hD1 hS1 oC trivial sc (gj_ol_pop ol) hl2
theorem gj_newQ {z : Int32} {kA len ix : Nat} {C0 : String} (hd : decode md.2.1 pc = .ok (.anewarray ix, 3)) (hw : Cond.classLink md.1.cls ix C0 ∈ lw_tbl) (hw2 : Cond.arrayOver (.object C0) ∈ lw_tbl) (ha : gj_at[kA]? = some (.object C0)) (hz : ¬ z < 0) (hl : z.toNatClampNeg = len) (hb : len * 4 ≤ 536870912) (hk : k + 1 ≤ K) (hn : w + len ≤ N)
    (kk : gj_G md d K N (k + 1) (w + len) (pc + 3) lc (.ref (n + 1) :: st) (n + 1) (va_up C (n + 1) (.inl (kA, len, .inr (.inr (.inr (.inr (fun _ => none))))))) Q) : gj_G md d K N k w pc lc (.int z :: st) n C Q := by
  intro p l e R s m args below meth c s0 a0 dC dI dA H locs ad ls cx ro hK hP hD hS oC sc ol hl2
  have hKs := va_K.moved cx.2.2.2.2.1.alike hK
  refine va_newq (D := (dC, dI)) (cl := gj_cl) cx.1 cx.2.1 cx.2.2.2.2.2.2.2.2.1 (gj_word cx hw rfl) (va_AO.moved cx.2.2.2.2.1.alike (va_AO.of (cx.2.2.2.1.1 _ hw2))) hKs hP hD hS (fun q hq => Nat.le_trans cx.2.2.2.2.2.1.1 hq) hz hl hb (Nat.le_trans hk ro.2.2.1) (Nat.le_trans hn ro.2.2.2) hd (fun q cA H1 hK1 hP1 hD1 hS1 => ?_)
  obtain ⟨-, -, -, -, -, e1⟩ : va_RA s cA (.object C0) := (hK1.2 (gj_tys dA).length (cA, .object C0) (by simp)).2
  obtain ⟨-, -, -, -, -, e2⟩ : va_RA s (dA kA) (.object C0) := (hKs.2 kA (dA kA, .object C0) (gj_tys_at ha)).2
  cases Option.some.inj (e1.symm.trans e2)
  exact gj_grow (ne := .inl (kA, len, .inr (.inr (.inr (.inr (fun _ => none)))))) kk cx ro hK hP1 hD1 hS1 oC (fun _ _ h => nomatch h) sc (gj_ol_pop ol) hl2
/-- a class that can be made: its fields' first values -/
def gj_nok (own : String) (ix ci N0 : Nat) (fs : List Value) : Prop := ∃ (C0 : String) (T : u_T) (t0 : Nat → FieldType), gj_cl[ci]? = some (C0, T, N0) ∧ (∀ w ∈ u_ws C0 T N0, w ∈ lw_tbl) ∧ (∀ k, k < N0 → parseFieldDescriptor (T k).2.2.1 = some (t0 k)) ∧ Cond.classLink own ix C0 ∈ lw_tbl ∧ Cond.instantiable C0 N0 ∈ lw_tbl ∧ Cond.initialized C0 ∈ lw_tbl ∧
  (∀ j, j < N0 → defaultValue (t0 j) = vp_V fs j) ∧ (∀ ad, fs.map (gj_tv ad) = fs) ∧ ∀ n, gj_oe n (.inr (ci, fs))
theorem gj_new {ix ci N0 : Nat} {fs : List Value} (hd : decode md.2.1 pc = .ok (.new ix, 3)) (hf : gj_nok md.1.cls ix ci N0 fs) (hk : k + 1 ≤ K) (hn : w + N0 ≤ N)
    (kk : gj_G md d K N (k + 1) (w + N0) (pc + 3) lc (.ref (n + 1) :: st) (n + 1) (va_up C (n + 1) (.inr (ci, fs))) Q) : gj_G md d K N k w pc lc st n C Q := by
  intro p l e R s m args below meth c s0 a0 dC dI dA H locs ad ls cx ro hK hP hD hS oC sc ol hl2
  obtain ⟨C0, T, t0, h1, h2, h3, h4, h5, h6, h7, h8, h9⟩ := hf
  refine va_new (D := (dC, dI)) (cl := gj_cl) (fs := fs) cx.1 cx.2.1 (gj_lays cx h2) (fun _ h => h) t0 h3 cx.2.2.2.2.2.2.2.2.1 (gj_word cx h4 rfl) (gj_word cx h5 rfl) (gj_word cx h6 rfl) (va_K.moved cx.2.2.2.2.1.alike hK) hP hD hS (fun q hq => Nat.le_trans cx.2.2.2.2.2.1.1 hq) h1 h7 (Nat.le_trans hk ro.2.2.1) (Nat.le_trans hn ro.2.2.2) hd (fun q H1 hP1 hD1 hS1 => ?_)
  have e9 : gj_te dA ad (.inr (ci, fs)) = .inr (ci, fs) := by
    show (Sum.inr (ci, fs.map (gj_tv ad)) : va_E) = _
    rw [h8]
  exact gj_grow (ne := .inr (ci, fs)) kk cx ro hK (by rw [e9]; exact hP1) (by rw [e9]; exact hD1) hS1 oC (h9 n) sc ol hl2
theorem gj_objInit {ix x : Nat} (hd : decode md.2.1 pc = .ok (.invokespecial ix, 3)) (h1 : Cond.methodLink md.1.cls ix objectInit ∈ lw_tbl) (h2 : Cond.instanceMethod objectInit ∈ lw_tbl) (h3 : Cond.code objectInit ⟨#[0xb1]⟩ 1 none ∈ lw_tbl) (hs : (st.map fun v => v.category).sum ≤ 100) (kk : gj_G md d K N k w (pc + 3) lc st n C Q) : gj_G md d K N k w pc lc (.ref x :: st) n C Q := by
  intro p l e R s m args below meth c s0 a0 dC dI dA H locs ad ls cx ro hK hP hD hS oC sc ol hl
  exact W.objInit cx.1 cx.2.1 cx.2.2.2.2.2.2.2.2.1 (gj_word cx h1 rfl) (gj_word cx h2 rfl) (gj_word cx h3 rfl) rfl (by rw [cx.2.2.2.2.2.2.2.1]; exact hl.1) rfl hd (by have := ro.1; omega) (by
      have e1 := gj_cats ad st
      show 2 * 0 + ((st.map (gj_tv ad)).map fun v => v.category).sum + 12 ≤ R.locals
      rw [e1]
      have := ro.2.1
      omega)
    (kk p l e R s m args below meth c s0 a0 dC dI dA H locs ad ls cx ro hK hP hD hS oC sc (gj_ol_pop ol) hl)
theorem gj_max {ix : Nat} {x y : Int32} (hd : decode md.2.1 pc = .ok (.invokestatic ix, 3)) (h1 : Cond.methodLink md.1.cls ix Lib.Math.max.name ∈ lw_tbl) (h2 : Cond.static Lib.Math.max.name ∈ lw_tbl) (h3 : Cond.initialized "java/lang/Math" ∈ lw_tbl) (h4 : Cond.code Lib.Math.max.name Lib.Math.max.code 2 (some .int) ∈ lw_tbl) (hs : (st.map fun v => v.category).sum ≤ 100) (hk : k ≤ K) (hw : w ≤ N) (kk : gj_G md d K N k w (pc + 3) lc (.int (if x < y then y else x) :: st) n C Q) : gj_G md d K N k w pc lc (.int y :: .int x :: st) n C Q := by
  intro p l e R s m args below meth c s0 a0 dC dI dA H locs ad ls cx ro hK hP hD hS oC sc ol hl
  exact va_mmax cx.1 cx.2.1 (cx.2.2.2.2.2.2.2.1.trans hl.1.symm) cx.2.2.2.2.2.2.2.2.1 (gj_word cx h1 rfl) (gj_word cx h2 rfl) (gj_word cx h3 rfl) (gj_word cx h4 rfl) (by have := ro.1; omega) (by
      rw [gj_cats ad st]
      have := ro.2.1
      omega) (Nat.le_trans hk ro.2.2.1) (Nat.le_trans hw ro.2.2.2) hd
    (kk p l e R s m args below meth c s0 a0 dC dI dA H locs ad ls cx ro hK hP hD hS oC sc (gj_ol_push (gj_ol_pop (gj_ol_pop ol)) trivial) hl)
theorem gj_maxL {ix : Nat} {x y : Int64} (hd : decode md.2.1 pc = .ok (.invokestatic ix, 3)) (h1 : Cond.methodLink md.1.cls ix Lib.MathLoose.max_long.x ∈ lw_tbl) (h2 : Cond.static Lib.MathLoose.max_long.x ∈ lw_tbl) (h3 : Cond.initialized "java/lang/Math" ∈ lw_tbl) (h4 : Cond.code Lib.MathLoose.max_long.x Lib.MathLoose.max_long.code 4 (some .long) ∈ lw_tbl) (hs : (st.map fun v => v.category).sum ≤ 100) (hk : k ≤ K) (hw : w ≤ N) (kk : gj_G md d K N k w (pc + 3) lc (.long (if y < x then x else y) :: st) n C Q) : gj_G md d K N k w pc lc (.long y :: .long x :: st) n C Q := by
  intro p l e R s m args below meth c s0 a0 dC dI dA H locs ad ls cx ro hK hP hD hS oC sc ol hl
  exact va_mmax_long cx.1 cx.2.1 (cx.2.2.2.2.2.2.2.1.trans hl.1.symm) cx.2.2.2.2.2.2.2.2.1 (gj_word cx h1 rfl) (gj_word cx h2 rfl) (gj_word cx h3 rfl) (gj_word cx h4 rfl) (by have := ro.1; omega) (by
      rw [gj_cats ad st]
      have := ro.2.1
      omega) (Nat.le_trans hk ro.2.2.1) (Nat.le_trans hw ro.2.2.2) hd
    (kk p l e R s m args below meth c s0 a0 dC dI dA H locs ad ls cx ro hK hP hD hS oC sc (gj_ol_push (gj_ol_pop (gj_ol_pop ol)) trivial) hl)
end
end
section
/-! CALLS -/
/-- a method of the tables -/
def gj_mok (md : gj_M) : Prop := plainName md.1.cls = true ∧ (md.1.cls ≠ "java/lang/invoke/MethodHandle" ∧ md.1.cls ≠ "java/lang/invoke/VarHandle") ∧
  ((md.2.2.2.2 = [] ∧ Cond.code md.1 md.2.1 md.2.2.1 md.2.2.2.1 ∈ lw_tbl) ∨ Cond.codeWith md.1 md.2.1 md.2.2.1 md.2.2.2.1 md.2.2.2.2 ∈ lw_tbl)
theorem gj_meth {md me : gj_M} {p : Program} {l : Launch} {s : State} {m : MethodId} {meth : Method} {c : Code} {s0 : State} {a0 : Array Value} (cx : gj_Cx md p l s m meth c s0 a0) (hm : gj_mok me) :
    ∃ (mk : MethodId) (methk : Method) (ck : Code), s.methodNamed? me.1 = some mk ∧ s.vm.method? mk = some methk ∧ methk.code = some ck ∧ ck.code = me.2.1 ∧ ck.maxLocals = me.2.2.1 ∧ methk.sig.returnType = me.2.2.2.1 ∧ methk.locks = false ∧ ck.exceptionTable.toList = tableOf me.2.2.2.2 ∧ parseMethodDescriptor me.1.desc = some methk.sig := by
  rcases hm.2.2 with ⟨h0, h⟩ | h
  · have hc : (Cond.code me.1 me.2.1 me.2.2.1 me.2.2.2.1).before a0 s = true := gj_word cx h rfl
    obtain ⟨mk, hn⟩ := Cond.code_named hc
    obtain ⟨methk, ck, h1, h2, h3, h4, h5, h6, h7, h8⟩ := Cond.code_spec hn hc
    refine ⟨mk, methk, ck, hn, h1, h2, h3, h4, h5, h6, ?_, h8⟩
    rw [h0]
    have h9 : ck.exceptionTable.size = 0 := by simpa [Array.isEmpty] using h7
    exact List.eq_nil_of_length_eq_zero (by simpa using h9)
  · have hc : (Cond.codeWith me.1 me.2.1 me.2.2.1 me.2.2.2.1 me.2.2.2.2).before a0 s = true := gj_word cx h rfl
    obtain ⟨mk, methk, ck, hn, h1, h2, h3, h4, h5, h6, h7, h8⟩ := Cond.codeWith_spec hc
    exact ⟨mk, methk, ck, hn, h1, h2, h3, h4, h6, h7, by rw [← h5]; exact (table_eq _).symm, h8⟩
theorem gj_weaken {tb : Tables} {e : Env} {mid below : List Frame} {a b : State} (h : Steps tb e (mid ++ below) a b) : Steps tb e below a b := by
  obtain ⟨n, h1, h2⟩ := h
  exact ⟨n, h1, fun k hk => (h2 k hk).weaken⟩
section
variable {md me : gj_M} {d K N k w K1 N1 pc : Nat} {lc : List (Nat × Value)} {st rest : List Value} {n : Nat} {C : Nat → va_E} {Q Q1 : gj_R → Prop}
/-- where an exception of class E has come up at the frame's pc -/
def gj_GX (md : gj_M) (d K N k w pc : Nat) (lc : List (Nat × Value)) (E : String) (n : Nat) (C : Nat → va_E) (Q : gj_R → Prop) : Prop :=
  ∀ (p : Program) (l : Launch) (e : Env) (R : Room) (s : State) (m : MethodId) (args : Array Value) (below : List Frame) (meth : Method) (c : Code) (s0 : State) (a0 : Array Value) (dC : Nat → ClassId) (dI : Nat → Nat → Nat) (dA : Nat → ClassId) (H : Heap) (locs : List Loc) (ad : Nat → Nat) (ls : Array Slot) (rs : List Value) (q : Addr) (ce : Cell),
    gj_Cx md p l s m meth c s0 a0 → gj_ro d K N R → va_K (dC, dI) gj_cl (gj_tys dA) s0 →
    va_P (dC, dI) gj_cl (gj_ws dA ad n C) H → va_D (fun q : Nat => s0.heap.size ≤ q) (gj_ws dA ad n C) → va_S (fun q : Nat => s0.heap.size ≤ q) s.heap H locs → gj_oC n C → gj_sc s0 ad (C 0) → (∀ q ∈ lc, gj_ov n q.2) → lv_has ls md.2.2.1 (gj_tl ad lc) →
    H[q]? = some ce → ce.vm = .none → s.vm.findClass E = some ce.cls →
    ∀ T : State, T.heap = H → Stand p l e R s m args below meth c T locs k w → ∃ t, Steps p.tables e below ((T.setTop (F0 m pc ls rs)).pushFrame (.throwing q)) t ∧ gj_E below s s0 dC dI dA ad (C 0) n K N Q t
/-- the callee's walk, seen from the caller's frame g -/
theorem gj_into {p : Program} {l : Launch} {e : Env} {R : Room} {s : State} {m : MethodId} {args : Array Value} {below : List Frame} {meth : Method} {c : Code} {s0 : State} {a0 : Array Value} {dC : Nat → ClassId} {dI : Nat → Nat → Nat} {dA : Nat → ClassId} {H : Heap} {locs : List Loc} {ad : Nat → Nat} {as : List Value} {T : State} {g : JFrame} {ig : Instr} {mk : MethodId} {methk : Method} {ck : Code}
    (X : Stand p l e R s m args below meth c T locs k w) (hT : T.heap = H) (cx : gj_Cx md p l s m meth c s0 a0) (ro : gj_ro (d + 1) K N R) (hK : va_K (dC, dI) gj_cl (gj_tys dA) s0)
    (hP : va_P (dC, dI) gj_cl (gj_ws dA ad n C) H) (hD : va_D (fun q : Nat => s0.heap.size ≤ q) (gj_ws dA ad n C)) (hS : va_S (fun q : Nat => s0.heap.size ≤ q) s.heap H locs) (oC : gj_oC n C) (sc : gj_sc s0 ad (C 0)) (ov : ∀ v ∈ as, gj_ov n v)
    (hg : g.method = m) (hsize : g.locals.size = c.maxLocals) (hdg : decode c.code g.pc = .ok (ig, 3)) (hst : 2 * g.monitorRoom + (g.stack.map fun v => v.category).sum + me.2.2.1 ≤ 49)
    (hplain : plainName me.1.cls = true) (hn : s.methodNamed? me.1 = some mk) (hmk : s.vm.method? mk = some methk) (hck : methk.code = some ck) (hby : ck.code = me.2.1) (hml : ck.maxLocals = me.2.2.1) (hret : methk.sig.returnType = me.2.2.2.1) (hlk : methk.locks = false) (htb : ck.exceptionTable.toList = tableOf me.2.2.2.2)
    (hal : (lg_sl (as.map (gj_tv ad))).length ≤ me.2.2.1) (hk : k + K1 ≤ K) (hw : w + N1 ≤ N) (hG : gj_G me d K1 N1 0 0 0 (lv_args 0 as) [] n C Q1) :
    ∃ t, (∀ acts, Steps p.tables e below (doInvoke e (T.setTop g) acts mk (as.map (gj_tv ad)).toArray).1 t) ∧ gj_E (.java g :: below) (T.calling g mk (as.map (gj_tv ad)).toArray) s0 dC dI dA ad (C 0) n K1 N1 Q1 t := by
  have hTv : s.WarmedH T.vm := X.warmed
  have hpk : T.plainMethod mk := hTv.plainAt (fun k hk => by
    obtain ⟨k', hk', hn'⟩ := className_of_methodNamed hn
    cases Option.some.inj (hk.symm.trans hk')
    rw [hn']
    exact hplain)
  have hmT : T.vm.method? mk = some methk := by rw [hTv.alike.method?]; exact hmk
  obtain ⟨Y, hin⟩ := X.into hg hsize hdg (as.map (gj_tv ad)).toArray (R' := { frames := d + 8, cells := K1, slots := N1, locals := 60 * d + 200 }) hmT hck hlk hpk (by have := ro.1; show d + 8 + 1 ≤ R.frames; omega) (by have := ro.2.1; rw [hml]; show _ + (me.2.2.1 + 11) + (60 * d + 200) ≤ R.locals; omega) (Nat.le_trans hk ro.2.2.1) (Nat.le_trans hw ro.2.2.2)
  obtain ⟨hx, -, htr, hroot, hWs, h0, -⟩ := id cx
  have hh : (T.calling g mk (as.map (gj_tv ad)).toArray).heap = H := hT
  have hvm : (T.calling g mk (as.map (gj_tv ad)).toArray).vm = T.vm := rfl
  have hW2 : s0.WarmedH (T.calling g mk (as.map (gj_tv ad)).toArray).vm := by rw [hvm]; exact State.WarmedH.trans hWs hTv
  have cx2 : gj_Cx me p l (T.calling g mk (as.map (gj_tv ad)).toArray) mk methk ck s0 a0 := by
    refine ⟨hx, hby, htr, hroot, hW2, ?_, hret, hml, ?_, hlk, (name_of_methodNamed hn hmk).1, htb⟩
    · rw [hh]
      exact ⟨Nat.le_trans h0.1 hS.1, fun q hq => by rw [hS.2.1 q (Nat.lt_of_lt_of_le hq h0.1) (Nat.not_le.mpr hq)]; exact h0.2 q hq⟩
    · rw [hvm, hTv.alike.findClass]
      exact findClass_of_methodNamed hn
  have hl := lv_entry (as.map (gj_tv ad)) (n := me.2.2.1) hal
  rw [gj_args] at hl
  have := hG p l e { frames := d + 8, cells := K1, slots := N1, locals := 60 * d + 200 } (T.calling g mk (as.map (gj_tv ad)).toArray) mk (as.map (gj_tv ad)).toArray (.java g :: below) methk ck s0 a0 dC dI dA H [] ad _ cx2 ⟨Nat.le_refl _, Nat.le_refl _, Nat.le_refl _, Nat.le_refl _⟩ hK hP hD (by rw [hh]; exact va_S.rf) oC sc ⟨gj_args_ov as 0 ov, fun v hv => nomatch hv⟩ hl
  obtain ⟨t, h1, h2⟩ := this _ (show ((T.setTop g).pushFrame (.java (entryFrame mk (as.map (gj_tv ad)).toArray ck.maxLocals))).heap = H from hT) Y
  refine ⟨t, fun acts => ?_, h2⟩
  rw [hin acts]
  refine gj_weaken (mid := [.java g]) ?_
  rw [List.map_nil, ← lg_entry_eq] at h1
  rw [hml] at h1 ⊢
  exact h1
/-- how any call goes on: 'inv' is the instruction's own step -/
theorem gj_call {p : Program} {l : Launch} {e : Env} {R : Room} {s : State} {m : MethodId} {args : Array Value} {below : List Frame} {meth : Method} {c : Code} {s0 : State} {a0 : Array Value} {dC : Nat → ClassId} {dI : Nat → Nat → Nat} {dA : Nat → ClassId} {H : Heap} {locs : List Loc} {ad : Nat → Nat} {ls : Array Slot} {as : List Value} {ig : Instr} {mk : MethodId} {methk : Method} {ck : Code} {stk : List Value}
    (cx : gj_Cx md p l s m meth c s0 a0) (ro : gj_ro (d + 1) K N R) (hK : va_K (dC, dI) gj_cl (gj_tys dA) s0)
    (hP : va_P (dC, dI) gj_cl (gj_ws dA ad n C) H) (hD : va_D (fun q : Nat => s0.heap.size ≤ q) (gj_ws dA ad n C)) (hS : va_S (fun q : Nat => s0.heap.size ≤ q) s.heap H locs) (oC : gj_oC n C) (sc : gj_sc s0 ad (C 0)) (ov : ∀ v ∈ as, gj_ov n v) (ol : gj_ol n lc rest) (hl : lv_has ls md.2.2.1 (gj_tl ad lc))
    (hdg : decode md.2.1 pc = .ok (ig, 3)) (hst : (rest.map fun v => v.category).sum + me.2.2.1 ≤ 49)
    (hplain : plainName me.1.cls = true) (hn : s.methodNamed? me.1 = some mk) (hmk : s.vm.method? mk = some methk) (hck : methk.code = some ck) (hby : ck.code = me.2.1) (hml : ck.maxLocals = me.2.2.1) (hret : methk.sig.returnType = me.2.2.2.1) (hlk : methk.locks = false) (htb : ck.exceptionTable.toList = tableOf me.2.2.2.2)
    (hal : (lg_sl (as.map (gj_tv ad))).length ≤ me.2.2.1) (hk : k + K1 ≤ K) (hw : w + N1 ≤ N) (hG : gj_G me d K1 N1 0 0 0 (lv_args 0 as) [] n C Q1)
    (inv : ∀ T : State, T.heap = H → Stand p l e R s m args below meth c T locs k w → ∃ vm₁, Stand p l e R s m args below meth c (T.setVm vm₁) locs k w ∧ ∀ target, (∀ acts, Steps p.tables e below (doInvoke e ((T.setVm vm₁).setTop (F0 m pc ls (rest.map (gj_tv ad)))) acts mk (as.map (gj_tv ad)).toArray).1 target) → Steps p.tables e below (T.setTop (F0 m pc ls stk)) target)
    (kr : ∀ (v : Option Value) (n' : Nat) (C' : Nat → va_E), n ≤ n' → Q1 (.inl v, n', C') → gj_G md (d + 1) K N (k + K1) (w + N1) (pc + 3) lc (v.toList ++ rest) n' C' Q)
    (kx : ∀ (E : String) (n' : Nat) (C' : Nat → va_E), n ≤ n' → Q1 (.inr E, n', C') → gj_GX md (d + 1) K N (k + K1) (w + N1) pc lc E n' C' Q) :
    W p l e R s m args below meth c H locs k w (gj_E below s s0 dC dI dA ad (C 0) n K N Q) (F0 m pc ls stk) := by
  intro T hT X
  obtain ⟨vm₁, X₁, hstep⟩ := inv T hT X
  have hdc : decode c.code pc = .ok (ig, 3) := by rw [cx.2.1]; exact hdg
  obtain ⟨t, hsteps, o, L, rv, n', C', ad', h1, h2, h3, h4, h5, h6, h7, h8, h9, h10, h11, h12, h13, h14, h15⟩ := gj_into (g := F0 m pc ls (rest.map (gj_tv ad))) X₁ hT cx ro hK hP hD hS oC sc ov rfl (by rw [cx.2.2.2.2.2.2.2.1]; exact hl.1) hdc (by
      show 2 * 0 + ((rest.map (gj_tv ad)).map fun v => v.category).sum + me.2.2.1 ≤ 49
      rw [gj_cats]
      omega) hplain hn hmk hck hby hml hret hlk htb hal hk hw hG
  have hvm1 : s.WarmedH (T.setVm vm₁).vm := X₁.warmed
  have hal' : ∀ x, x ≤ n → ad' x = ad x := h11
  have hls : lv_has ls md.2.2.1 (gj_tl ad' lc) := by rw [gj_tl_eq hal' ol.1]; exact hl
  have hsc : gj_sc s0 ad' (C' 0) := by
    rw [h12]
    obtain ⟨L0, xs, q1, q2, q3⟩ := sc
    have q4 := hal' 0 (Nat.zero_le n)
    exact ⟨L0, xs, q1, by rw [q4]; exact q2, by rw [q4]; exact q3⟩
  have hSt : ∀ T' : State, T'.heap = t.heap → va_S (fun q : Nat => s0.heap.size ≤ q) s.heap T'.heap (locs ++ L) := by
    intro T' hT'
    have hz : ∀ q : Nat, q < s.heap.size → ¬ s0.heap.size ≤ q → t.heap[q]? = s.heap[q]? := fun q hq hn => by
      have hq0 : q < s0.heap.size := Nat.not_le.mp hn
      rw [h6.2 q hq0, cx.2.2.2.2.2.1.2 q hq0]
    have hsz : s.heap.size ≤ t.heap.size := by
      have e1 : (T.setVm vm₁).heap.size ≤ t.heap.size := h4.2.1
      have e2 : (T.setVm vm₁).heap = H := hT
      rw [e2] at e1
      exact Nat.le_trans hS.1 e1
    rw [hT']
    exact ⟨hsz, hz, fun z hz => (List.mem_append.mp hz).elim (hS.2.2 z) (h5 z)⟩
  rcases rv with v | E
  · have ho : o = .returned (v.map (gj_tv ad')) := h8
    subst ho
    obtain ⟨T', X', hW', hB', ht⟩ := X₁.outOf (g := F0 m pc ls (rest.map (gj_tv ad))) rfl hdc h2 h3 h4
    have hT' : T'.heap = t.heap := by rw [ht]; rfl
    have hk2 := kr v n' C' h10 h7
    have ol2 : gj_ol n' lc (v.toList ++ rest) := ⟨fun q hq => gj_ov_le h10 (ol.1 q hq), fun u hu => by
      rcases List.mem_append.mp hu with h | h
      · cases v with
        | none => cases h
        | some v => rw [List.mem_singleton.mp h]; exact h9
      · exact gj_ov_le h10 (ol.2 u h)⟩
    obtain ⟨t2, a1, b1⟩ := hk2 p l e R s m args below meth c s0 a0 dC dI dA T'.heap (locs ++ L) ad' ls cx ro hK (by rw [hT']; exact h13) h14 (hSt T' hT') h15 hsc ol2 hls T' rfl X'
    refine ⟨t2, hstep _ (fun acts => (hsteps acts).trans ?_), gj_E_mono h10 hal' h12 t2 b1⟩
    rw [ht]
    have e5 : ((v.toList ++ rest).map (gj_tv ad')) = (v.map (gj_tv ad')).toList ++ rest.map (gj_tv ad) := by
      rw [List.map_append, gj_ts_eq hal' ol.2]
      cases v <;> rfl
    rw [e5] at a1
    exact a1
  · obtain ⟨q, ce, ho, hce, hcv, hcl⟩ : ∃ (q : Addr) (ce : Cell), o = .threw q ∧ t.heap[q]? = some ce ∧ ce.vm = .none ∧ ((T.setVm vm₁).calling (F0 m pc ls (rest.map (gj_tv ad))) mk (as.map (gj_tv ad)).toArray).vm.findClass E = some ce.cls := h8
    subst ho
    obtain ⟨T', X', hW', hB', ht⟩ := X₁.outOfThrown (g := F0 m pc ls (rest.map (gj_tv ad))) rfl h2 h3 h4
    have hT' : T'.heap = t.heap := by rw [ht, throwing_heap]
    have hcl2 : s.vm.findClass E = some ce.cls := by
      have e7 : (T.setVm vm₁).vm.findClass E = some ce.cls := hcl
      rw [hvm1.alike.findClass] at e7
      exact e7
    obtain ⟨t2, a1, b1⟩ := kx E n' C' h10 h7 p l e R s m args below meth c s0 a0 dC dI dA T'.heap (locs ++ L) ad' ls (rest.map (gj_tv ad)) q ce cx ro hK (by rw [hT']; exact h13) h14 (hSt T' hT') h15 hsc (fun q hq => gj_ov_le h10 (ol.1 q hq)) hls (by rw [hT']; exact hce) hcv hcl2 T' rfl X'
    refine ⟨t2, hstep _ (fun acts => (hsteps acts).trans ?_), gj_E_mono h10 hal' h12 t2 b1⟩
    rw [ht]
    exact a1
end
/-! THE INVOKE INSTRUCTIONS -/
section
variable {md me : gj_M} {d K N k w K1 N1 pc ix : Nat} {lc : List (Nat × Value)} {rest as : List Value} {n : Nat} {C : Nat → va_E} {Q Q1 : gj_R → Prop}
theorem gj_sl (ad : Nat → Nat) : ∀ as : List Value, (lg_sl (as.map (gj_tv ad))).length = (lg_sl as).length
  | [] => rfl
  | v :: as => by
    have h := gj_sl ad as
    cases v <;> simp_all [lg_sl, gj_tv, Value.category]
/-- what a stack holds is what its parts hold -/
theorem gj_ol_app {as : List Value} (h : gj_ol n lc (as.reverse ++ rest)) : (∀ v ∈ as, gj_ov n v) ∧ gj_ol n lc rest :=
  ⟨fun v hv => h.2 v (List.mem_append_left _ (List.mem_reverse.mpr hv)), h.1, fun v hv => h.2 v (List.mem_append_right _ hv)⟩
theorem gj_rev (ad : Nat → Nat) (as rest : List Value) : (as.reverse ++ rest).map (gj_tv ad) = (as.map (gj_tv ad)).reverse ++ rest.map (gj_tv ad) := by
  rw [List.map_append, List.map_reverse]
theorem gj_plen {x : MethodName} {sig : MethodDescriptor} {q : Nat} (h : (parseMethodDescriptor x.desc).map (fun d => d.parameters.length) = some q) (hs : parseMethodDescriptor x.desc = some sig) : sig.parameters.length = q := by
  rw [hs] at h
  exact Option.some.inj h
theorem gj_callS (hd : decode md.2.1 pc = .ok (.invokestatic ix, 3)) (hm : gj_mok me) (h1 : Cond.methodLink md.1.cls ix me.1 ∈ lw_tbl) (h2 : Cond.static me.1 ∈ lw_tbl) (h3 : Cond.initialized me.1.cls ∈ lw_tbl) (hlen : (parseMethodDescriptor me.1.desc).map (fun d => d.parameters.length) = some as.length) (hal : (lg_sl as).length ≤ me.2.2.1) (hst : (rest.map fun v => v.category).sum + me.2.2.1 ≤ 49) (hk : k + K1 ≤ K) (hw : w + N1 ≤ N) (hG : gj_G me d K1 N1 0 0 0 (lv_args 0 as) [] n C Q1)
    (kx : ∀ (E : String) (n' : Nat) (C' : Nat → va_E), n ≤ n' → Q1 (.inr E, n', C') → gj_GX md (d + 1) K N (k + K1) (w + N1) pc lc E n' C' Q)
    (kr : ∀ (v : Option Value) (n' : Nat) (C' : Nat → va_E), n ≤ n' → Q1 (.inl v, n', C') → gj_G md (d + 1) K N (k + K1) (w + N1) (pc + 3) lc (v.toList ++ rest) n' C' Q) :
    gj_G md (d + 1) K N k w pc lc (as.reverse ++ rest) n C Q := by
  intro p l e R s m args below meth c s0 a0 dC dI dA H locs ad ls cx ro hK hP hD hS oC sc ol hl
  obtain ⟨mk, methk, ck, hn, hmk, hck, hby, hml, hret, hlk, htb, hsig⟩ := gj_meth cx hm
  obtain ⟨kP, hkP, -⟩ := className_of_methodNamed hn
  have hst2 : (Cond.static me.1).before args s = true := gj_word cx h2 rfl
  have hin2 : (Cond.initialized me.1.cls).before args s = true := gj_word cx h3 rfl
  have hstatic : methk.isStatic = true := Cond.static_spec hn hmk hst2
  have hinit : kP.init = .initialized := Cond.initialized_spec (findClass_of_methodNamed hn) hkP hin2
  obtain ⟨ov, ol2⟩ := gj_ol_app ol
  refine gj_call cx ro hK hP hD hS oC sc ov ol2 hl hd hst hm.1 hn hmk hck hby hml hret hlk htb (by rw [gj_sl]; exact hal) hk hw hG ?_ kr kx
  intro T hT X
  obtain ⟨vm₁, X₁, st⟩ := X.invokestatic cx.1 cx.2.2.2.2.2.2.2.2.1 (gj_word cx h1 rfl) hn hmk hstatic hkP hinit hm.2.1 (g := F0 m pc ls ((as.reverse ++ rest).map (gj_tv ad))) rfl (argsL := as.map (gj_tv ad)) (rest := rest.map (gj_tv ad)) (by rw [List.length_map]; exact (gj_plen hlen hsig).symm) (gj_rev ad as rest) (by rw [cx.2.1]; exact hd)
  exact ⟨vm₁, X₁, st⟩
theorem gj_callSN {host : String} (hd : decode md.2.1 pc = .ok (.invokestatic ix, 3)) (hm : gj_mok me) (h1 : Cond.methodLinkNest md.1.cls ix me.1 host ∈ lw_tbl) (h2 : Cond.static me.1 ∈ lw_tbl) (h3 : Cond.initialized me.1.cls ∈ lw_tbl) (hlen : (parseMethodDescriptor me.1.desc).map (fun d => d.parameters.length) = some as.length) (hal : (lg_sl as).length ≤ me.2.2.1) (hst : (rest.map fun v => v.category).sum + me.2.2.1 ≤ 49) (hk : k + K1 ≤ K) (hw : w + N1 ≤ N) (hG : gj_G me d K1 N1 0 0 0 (lv_args 0 as) [] n C Q1)
    (kx : ∀ (E : String) (n' : Nat) (C' : Nat → va_E), n ≤ n' → Q1 (.inr E, n', C') → gj_GX md (d + 1) K N (k + K1) (w + N1) pc lc E n' C' Q)
    (kr : ∀ (v : Option Value) (n' : Nat) (C' : Nat → va_E), n ≤ n' → Q1 (.inl v, n', C') → gj_G md (d + 1) K N (k + K1) (w + N1) (pc + 3) lc (v.toList ++ rest) n' C' Q) :
    gj_G md (d + 1) K N k w pc lc (as.reverse ++ rest) n C Q := by
  intro p l e R s m args below meth c s0 a0 dC dI dA H locs ad ls cx ro hK hP hD hS oC sc ol hl
  obtain ⟨mk, methk, ck, hn, hmk, hck, hby, hml, hret, hlk, htb, hsig⟩ := gj_meth cx hm
  obtain ⟨kP, hkP, -⟩ := className_of_methodNamed hn
  have hst2 : (Cond.static me.1).before args s = true := gj_word cx h2 rfl
  have hin2 : (Cond.initialized me.1.cls).before args s = true := gj_word cx h3 rfl
  have hstatic : methk.isStatic = true := Cond.static_spec hn hmk hst2
  have hinit : kP.init = .initialized := Cond.initialized_spec (findClass_of_methodNamed hn) hkP hin2
  have hlink : (Cond.methodLinkNest md.1.cls ix me.1 host).before args s = true := va_Nw.use rfl (va_Nw.warmM cx.2.2.2.2.1 (va_Nw.of rfl (cx.2.2.2.1.1 _ h1)))
  obtain ⟨ov, ol2⟩ := gj_ol_app ol
  refine gj_call cx ro hK hP hD hS oC sc ov ol2 hl hd hst hm.1 hn hmk hck hby hml hret hlk htb (by rw [gj_sl]; exact hal) hk hw hG ?_ kr kx
  intro T hT X
  obtain ⟨vm₁, X₁, st⟩ := X.invokestaticNest cx.1 cx.2.2.2.2.2.2.2.2.1 hlink hn hmk hstatic hkP hinit hm.2.1 (g := F0 m pc ls ((as.reverse ++ rest).map (gj_tv ad))) rfl (argsL := as.map (gj_tv ad)) (rest := rest.map (gj_tv ad)) (by rw [List.length_map]; exact (gj_plen hlen hsig).symm) (gj_rev ad as rest) (by rw [cx.2.1]; exact hd)
  exact ⟨vm₁, X₁, st⟩
theorem gj_callV {x ci N0 : Nat} {T0 : u_T} {fs : List Value} (hd : decode md.2.1 pc = .ok (.invokevirtual ix, 3)) (hm : gj_mok me) (h1 : Cond.methodLink md.1.cls ix me.1 ∈ lw_tbl) (h2 : Cond.instanceMethod me.1 ∈ lw_tbl) (h3 : Cond.selects me.1.cls me.1 me.1 ∈ lw_tbl) (hc : C x = .inr (ci, fs)) (hcl : gj_cl[ci]? = some (me.1.cls, T0, N0)) (hlen : (parseMethodDescriptor me.1.desc).map (fun d => d.parameters.length) = some as.length) (hal : (lg_sl (.ref x :: as)).length ≤ me.2.2.1) (hst : (rest.map fun v => v.category).sum + me.2.2.1 ≤ 49) (hk : k + K1 ≤ K) (hw : w + N1 ≤ N) (hG : gj_G me d K1 N1 0 0 0 (lv_args 0 (.ref x :: as)) [] n C Q1)
    (kx : ∀ (E : String) (n' : Nat) (C' : Nat → va_E), n ≤ n' → Q1 (.inr E, n', C') → gj_GX md (d + 1) K N (k + K1) (w + N1) pc lc E n' C' Q)
    (kr : ∀ (v : Option Value) (n' : Nat) (C' : Nat → va_E), n ≤ n' → Q1 (.inl v, n', C') → gj_G md (d + 1) K N (k + K1) (w + N1) (pc + 3) lc (v.toList ++ rest) n' C' Q) :
    gj_G md (d + 1) K N k w pc lc (as.reverse ++ .ref x :: rest) n C Q := by
  intro p l e R s m args below meth c s0 a0 dC dI dA H locs ad ls cx ro hK hP hD hS oC sc ol hl
  obtain ⟨mk, methk, ck, hn, hmk, hck, hby, hml, hret, hlk, htb, hsig⟩ := gj_meth cx hm
  obtain ⟨ov, ol1⟩ := gj_ol_app ol
  have hxn : x ≤ n := ol1.2 (.ref x) List.mem_cons_self
  have hsel : (Cond.selects me.1.cls me.1 me.1).before args s = true := gj_word cx h3 rfl
  have hins : (Cond.instanceMethod me.1).before args s = true := gj_word cx h2 rfl
  obtain ⟨mk2, methM, hn2, hmM, hstM, habM⟩ := Cond.instanceMethod_spec hins
  cases Option.some.inj (hn.symm.trans hn2)
  cases Option.some.inj (hmk.symm.trans hmM)
  obtain ⟨cellB, hcB, hoB, hclB⟩ := va_recv (va_K.moved cx.2.2.2.2.1.alike hK) hP hcl (gj_wsi (gj_ne0i sc hc) hxn hc)
  obtain ⟨c2, r2, m2, q1, q2, q3, q4, kP, hkP, hkPi⟩ := Cond.selects_spec hsel
  have hclB : s.vm.findClass me.1.cls = some cellB.cls := hclB
  cases hclB.symm.trans q1
  cases (State.methodFound?_of_named hn hm.2.1).symm.trans q2
  cases hn.symm.trans q3
  refine gj_call (as := .ref x :: as) cx ro hK hP hD hS oC sc (fun v hv => (List.mem_cons.mp hv).elim (fun e => by rw [e]; exact hxn) (ov v)) (gj_ol_pop ol1) hl hd hst hm.1 hn hmk hck hby hml hret hlk htb (by rw [gj_sl]; exact hal) hk hw hG ?_ kr kx
  intro T hT X
  have hselP : selectMethod e.platform s.vm cellB.cls mk = .method mk := by rw [Launch.admits_selectMethod X.admits]; exact q4
  obtain ⟨vm₁, X₁, st⟩ := X.invokevirtual cx.1 cx.2.2.2.2.2.2.2.2.1 (gj_word cx h1 rfl) hn hmk hstM hkP hkPi hm.2.1 (a := ad x) (cell := cellB) (by rw [hT]; exact hcB) (fun z h => by rw [h] at hoB; cases hoB) hselP hmk habM hkP hkPi (g := F0 m pc ls ((as.reverse ++ .ref x :: rest).map (gj_tv ad))) rfl (argsL := as.map (gj_tv ad)) (rest := rest.map (gj_tv ad)) (by rw [List.length_map]; exact (gj_plen hlen hsig).symm) (gj_rev ad as (.ref x :: rest)) (by rw [cx.2.1]; exact hd)
  exact ⟨vm₁, X₁, st⟩
theorem gj_callI {x : Nat} (hd : decode md.2.1 pc = .ok (.invokespecial ix, 3)) (hm : gj_mok me) (hnm : me.1.name = "<init>") (hrt : me.2.2.2.1 = none) (hhd : me.2.2.2.2 = []) (h0 : Cond.code me.1 me.2.1 me.2.2.1 none ∈ lw_tbl) (h1 : Cond.methodLink md.1.cls ix me.1 ∈ lw_tbl) (h2 : Cond.instanceMethod me.1 ∈ lw_tbl) (hlen : (parseMethodDescriptor me.1.desc).map (fun d => d.parameters.length) = some as.length) (hal : (lg_sl (.ref x :: as)).length ≤ me.2.2.1) (hst : (rest.map fun v => v.category).sum + me.2.2.1 ≤ 49) (hk : k + K1 ≤ K) (hw : w + N1 ≤ N) (hG : gj_G me d K1 N1 0 0 0 (lv_args 0 (.ref x :: as)) [] n C Q1)
    (kx : ∀ (E : String) (n' : Nat) (C' : Nat → va_E), n ≤ n' → Q1 (.inr E, n', C') → gj_GX md (d + 1) K N (k + K1) (w + N1) pc lc E n' C' Q)
    (kr : ∀ (v : Option Value) (n' : Nat) (C' : Nat → va_E), n ≤ n' → Q1 (.inl v, n', C') → gj_G md (d + 1) K N (k + K1) (w + N1) (pc + 3) lc (v.toList ++ rest) n' C' Q) :
    gj_G md (d + 1) K N k w pc lc (as.reverse ++ .ref x :: rest) n C Q := by
  intro p l e R s m args below meth c s0 a0 dC dI dA H locs ad ls cx ro hK hP hD hS oC sc ol hl
  obtain ⟨mk, methk, ck, hn, hmk, hck, hby, hml, hret, hlk, htb, hsig⟩ := gj_meth cx hm
  obtain ⟨ov, ol1⟩ := gj_ol_app ol
  have hxn : x ≤ n := ol1.2 (.ref x) List.mem_cons_self
  refine gj_call (as := .ref x :: as) cx ro hK hP hD hS oC sc (fun v hv => (List.mem_cons.mp hv).elim (fun e => by rw [e]; exact hxn) (ov v)) (gj_ol_pop ol1) hl hd hst hm.1 hn hmk hck hby hml hret hlk htb (by rw [gj_sl]; exact hal) hk hw hG ?_ kr kx
  intro T hT X
  have hpl : e.platform.magicAccessors = ({} : Platform).magicAccessors := by rw [X.admits.platform]
  obtain ⟨mk2, methM, cM, kP, vm₁, hn2, -, -, -, -, -, -, -, hW₁, st⟩ := Steps.initColdArgs (e := e) X.here cx.1 X.warmed hpl cx.2.2.2.2.2.2.2.2.1 hnm hm.2.1 (gj_word cx h1 rfl) (gj_word cx h2 rfl) (gj_word (args := args) cx h0 rfl) (f := F0 m pc ls ((as.reverse ++ .ref x :: rest).map (gj_tv ad))) rfl (a := ad x) (argsL := as.map (gj_tv ad)) (rest := rest.map (gj_tv ad)) (fun sig hs => by rw [List.length_map]; exact (gj_plen hlen hs).symm) (gj_rev ad as (.ref x :: rest)) (by rw [cx.2.1]; exact hd)
  cases Option.some.inj (hn.symm.trans hn2)
  exact ⟨vm₁, X.noted hW₁, st⟩
theorem gj_callIN {x : Nat} {host : String} (hd : decode md.2.1 pc = .ok (.invokespecial ix, 3)) (hm : gj_mok me) (hnm : me.1.name = "<init>") (h0 : Cond.code me.1 me.2.1 me.2.2.1 none ∈ lw_tbl) (h1 : Cond.methodLinkNest md.1.cls ix me.1 host ∈ lw_tbl) (h2 : Cond.instanceMethod me.1 ∈ lw_tbl) (hlen : (parseMethodDescriptor me.1.desc).map (fun d => d.parameters.length) = some as.length) (hal : (lg_sl (.ref x :: as)).length ≤ me.2.2.1) (hst : (rest.map fun v => v.category).sum + me.2.2.1 ≤ 49) (hk : k + K1 ≤ K) (hw : w + N1 ≤ N) (hG : gj_G me d K1 N1 0 0 0 (lv_args 0 (.ref x :: as)) [] n C Q1)
    (kx : ∀ (E : String) (n' : Nat) (C' : Nat → va_E), n ≤ n' → Q1 (.inr E, n', C') → gj_GX md (d + 1) K N (k + K1) (w + N1) pc lc E n' C' Q)
    (kr : ∀ (v : Option Value) (n' : Nat) (C' : Nat → va_E), n ≤ n' → Q1 (.inl v, n', C') → gj_G md (d + 1) K N (k + K1) (w + N1) (pc + 3) lc (v.toList ++ rest) n' C' Q) :
    gj_G md (d + 1) K N k w pc lc (as.reverse ++ .ref x :: rest) n C Q := by
  intro p l e R s m args below meth c s0 a0 dC dI dA H locs ad ls cx ro hK hP hD hS oC sc ol hl
  obtain ⟨mk, methk, ck, hn, hmk, hck, hby, hml, hret, hlk, htb, hsig⟩ := gj_meth cx hm
  obtain ⟨ov, ol1⟩ := gj_ol_app ol
  have hxn : x ≤ n := ol1.2 (.ref x) List.mem_cons_self
  have hlink : (Cond.methodLinkNest md.1.cls ix me.1 host).before args s = true := va_Nw.use rfl (va_Nw.warmM cx.2.2.2.2.1 (va_Nw.of rfl (cx.2.2.2.1.1 _ h1)))
  refine gj_call (as := .ref x :: as) cx ro hK hP hD hS oC sc (fun v hv => (List.mem_cons.mp hv).elim (fun e => by rw [e]; exact hxn) (ov v)) (gj_ol_pop ol1) hl hd hst hm.1 hn hmk hck hby hml hret hlk htb (by rw [gj_sl]; exact hal) hk hw hG ?_ kr kx
  intro T hT X
  have hpl : e.platform.magicAccessors = ({} : Platform).magicAccessors := by rw [X.admits.platform]
  obtain ⟨mk2, methM, cM, kP, vm₁, hn2, -, -, -, -, -, -, -, hW₁, st⟩ := Steps.initColdArgsNest (e := e) X.here cx.1 X.warmed hpl cx.2.2.2.2.2.2.2.2.1 hnm hm.2.1 hlink (gj_word cx h2 rfl) (gj_word (args := args) cx h0 rfl) (f := F0 m pc ls ((as.reverse ++ .ref x :: rest).map (gj_tv ad))) rfl (a := ad x) (argsL := as.map (gj_tv ad)) (rest := rest.map (gj_tv ad)) (fun sig hs => by rw [List.length_map]; exact (gj_plen hlen hs).symm) (gj_rev ad as (.ref x :: rest)) (by rw [cx.2.1]; exact hd)
  cases Option.some.inj (hn.symm.trans hn2)
  exact ⟨vm₁, X.noted hW₁, st⟩
end
end
section
/-! EXCEPTIONS: out of the method; caught in it; made and thrown -/
section
variable {md : gj_M} {d K N k w pc : Nat} {lc : List (Nat × Value)} {st : List Value} {n : Nat} {C : Nat → va_E} {Q : gj_R → Prop} {E : String}
theorem gj_xout (hout : (tableOf md.2.2.2.2).all (fun x => !covers x pc) = true) (hk : k ≤ K) (hw : w ≤ N) (hQ : Q (.inr E, n, C)) : gj_GX md d K N k w pc lc E n C Q := by
  intro p l e R s m args below meth c s0 a0 dC dI dA H locs ad ls rs q ce cx ro hK hP hD hS oC sc ov hl hce hcv hcl T hT X
  obtain ⟨st1, hrun, hend, hW, hsm⟩ := X.leaveThrown q (g := F0 m pc ls rs) rfl rfl rfl (outside_of_table cx.2.2.2.2.2.2.2.2.2.2.2 hout) cx.2.2.2.2.2.2.2.2.2.1
  have hh : (T.setFrames (.throwing q :: below)).heap = H := hT
  refine ⟨_, st1, .threw q, locs, .inr E, n, C, ad, hrun, hend, hW, hsm.mono hk hw, hS.2.2, ?_, hQ, ⟨q, ce, rfl, by rw [hh]; exact hce, hcv, hcl⟩, trivial, Nat.le_refl n, fun _ _ => rfl, rfl, by rw [hh]; exact hP, hD, oC⟩
  rw [hh]
  exact ⟨Nat.le_trans cx.2.2.2.2.2.1.1 hS.1, fun q hq => by rw [hS.2.1 q (Nat.lt_of_lt_of_le hq cx.2.2.2.2.2.1.1) (Nat.not_le.mpr hq)]; exact cx.2.2.2.2.2.1.2 q hq⟩
/-- where the search through a table's rows ends -/
def gj_sr (pl : Platform) (s : State) (own : ClassId) (pc : Nat) (thrown : ClassId) : List ExceptionTableEntry → Nat → Prop
  | [], _ => False
  | y :: r, h => (covers y pc = false ∧ gj_sr pl s own pc thrown r h) ∨ (covers y pc = true ∧ y.catchType ≠ 0 ∧ ∃ c, s.vm.ClassLinks pl own y.catchType c ∧ ((s.vm.assignable thrown c = true ∧ y.handlerPc = h) ∨ (s.vm.assignable thrown c = false ∧ gj_sr pl s own pc thrown r h)))
theorem gj_fh {e : Env} {S : State} {f : JFrame} {a : Addr} {Q : Handler → Pre} {E : CtlPost} {d : Bool} {acts : List Action} {x : ExceptionTableEntry} {t : List ExceptionTableEntry} {c : ClassId} {cell : Cell} (hx : covers x f.pc = true) (h0 : x.catchType ≠ 0)
    (hl : S.vm.ClassLinks e.platform f.method.cls x.catchType c) (hcell : S.heap[a]? = some cell) (hobj : ∀ k, cell.vm ≠ .statics k) (hk : ∃ k, S.vm.classes[cell.cls]? = some k) (hc : ∃ k, S.vm.classes[c]? = some k) :
    wp (findHandler.go f a (x :: t)) Q E e d acts S ↔ if S.vm.assignable cell.cls c = true then Q (.found x.handlerPc) d acts (S.setVm (S.vm.noted f.method.cls x.catchType (.cls c))) else wp (findHandler.go f a t) Q E e d acts (S.setVm (S.vm.noted f.method.cls x.catchType (.cls c))) := by
  simp only [covers] at hx
  obtain ⟨ha, ht⟩ := (resolveClass_links e.toSetting hl).op (op := VmOp.resolveClass f.method.cls x.catchType) rfl
  have hal : S.vm.Alike (S.vm.noted f.method.cls x.catchType (.cls c)) := (Vm.Alike.refl S.vm).noted _ _ _
  obtain ⟨k1, hk1⟩ := hk
  obtain ⟨k2, hk2⟩ := hc
  obtain ⟨k1', hk1', -⟩ := hal.2.2 _ _ hk1
  obtain ⟨k2', hk2', -⟩ := hal.2.2 _ _ hk2
  have has : (S.vm.noted f.method.cls x.catchType (.cls c)).assignable cell.cls c = S.vm.assignable cell.cls c := hal.assignable ..
  cases hfit : S.vm.assignable cell.cls c <;> rw [hfit] at has <;>
    simp [findHandler.go, hx, h0, ha, ht, hcell, hobj, hk1', hk2', has, VmOp.dirties, VmOp.acts]
theorem gj_search {e : Env} {s : State} {f : JFrame} {a : Addr} {cell : Cell} {h : Nat} (hobj : ∀ k, cell.vm ≠ .statics k) (hk0 : ∃ k, s.vm.classes[cell.cls]? = some k) :
    ∀ (rows : List ExceptionTableEntry) (S : State), s.WarmedH S.vm → S.heap[a]? = some cell → gj_sr e.platform s f.method.cls f.pc cell.cls rows h →
      ∃ vm', s.WarmedH vm' ∧ ∀ (Q : Handler → Pre) (E : CtlPost) (d : Bool) (acts : List Action), wp (findHandler.go f a rows) Q E e d acts S ↔ Q (.found h) d acts (S.setVm vm')
  | [], _, _, _, hs => hs.elim
  | y :: r, S, hW, hcell, hs => by
    rcases hs with ⟨hc, hs⟩ | ⟨hc, h0, c, hl, hs⟩
    · obtain ⟨vm', hW', hq⟩ := gj_search hobj hk0 r S hW hcell hs
      exact ⟨vm', hW', fun Q E d acts => by rw [W.findHandler_go_skip hc]; exact hq Q E d acts⟩
    · obtain ⟨k0, hk0'⟩ := id hk0
      obtain ⟨k1, hk1, -⟩ := hW.alike.2.2 _ _ hk0'
      obtain ⟨dk, _, _, kt, hd, _, _, _, _, hkt, _, hopen⟩ := hl.here
      obtain ⟨kt', hkt', -⟩ := hW.alike.2.2 _ _ hkt
      have hW2 := hW.noted hd hopen (State.rightAt_cls hl)
      have hrow := fun (Q : Handler → Pre) (E : CtlPost) (d : Bool) (acts : List Action) => gj_fh (t := r) (Q := Q) (E := E) (d := d) (acts := acts) hc h0 (hW.classLinks hl) hcell hobj ⟨k1, hk1⟩ ⟨kt', hkt'⟩
      rcases hs with ⟨hf, hh⟩ | ⟨hf, hs⟩
      · exact ⟨_, hW2, fun Q E d acts => by rw [hrow, if_pos (by rw [hW.alike.assignable]; exact hf), hh]⟩
      · obtain ⟨vm', hW', hq⟩ := gj_search hobj hk0 r (S.setVm (S.vm.noted f.method.cls y.catchType (.cls c))) hW2 hcell hs
        exact ⟨vm', hW', fun Q E d acts => by
          rw [hrow, if_neg (by rw [hW.alike.assignable, hf]; decide)]
          exact hq Q E d acts⟩
theorem gj_caught {tb : Tables} {e : Env} {T target : State} {g : JFrame} {c : Code} {below : List Frame} {a : Addr} (h : At T g.method c below) {pc : Nat} {vm' : Vm}
    (hfind : ∀ (Q : Handler → Pre) (E : CtlPost) (d : Bool) (acts : List Action), wp (findHandler g a) Q E e d acts ((T.setTop g).pushFrame (.throwing a)) ↔ Q (.found pc) d acts (((T.setTop g).pushFrame (.throwing a)).setVm vm'))
    (hrest : Steps tb e below ((T.setVm vm').setTop { g with pc := pc, stack := [.ref a] }) target) : Steps tb e below ((T.setTop g).pushFrame (.throwing a)) target := by
  obtain ⟨hgo, hw⟩ := h.throwing a
  obtain ⟨g₀, hg⟩ := Option.isSome_iff_exists.mp h.top
  obtain ⟨r, hr⟩ := State.topJava?_eq_some.mp hg
  have hr' : (T.setVm vm').frames = .java g₀ :: r := hr
  have key : (stepThrowing e ((T.setTop g).pushFrame (.throwing a)) a (.java g :: T.frames.tail)).Is ((((T.setTop g).pushFrame (.throwing a)).setVm vm').setFrames (.java { g with pc := pc, stack := [.ref a] } :: T.frames.tail)) [] := by
    simp only [stepThrowing, searchFrame, vmDo]
    generalize hres : Sem.go _ e false [] ((T.setTop g).pushFrame (.throwing a)) = res
    obtain ⟨as, rfl, ha⟩ := Sem.eq_ok_of hres (a := Handler.found pc) (s' := ((T.setTop g).pushFrame (.throwing a)).setVm vm') (acts' := []) (by simp [hfind _ _ _ _])
    exact ⟨rfl, ha⟩
  refine Steps.head hgo hw ?_
  rw [stepThread_throwing (frames_entered h.top _), key.1]
  have e1 : ((((T.setTop g).pushFrame (.throwing a)).setVm vm').setFrames (.java { g with pc := pc, stack := [.ref a] } :: T.frames.tail)) = (T.setVm vm').setTop { g with pc := pc, stack := [.ref a] } := by
    rw [State.setTop_of_frames _ hr', hr, State.pushFrame, State.setTop_of_frames _ hr, State.setFrames_setFrames]
    exact State.setFrames_setFrames (T.setVm vm') _ _
  rw [e1]
  exact hrest
/-- .. by the words: which row of the method's own table takes the exception -/
def gj_hs (own E : String) (pc : Nat) : List (Nat × Nat × Nat × Nat) → Nat → Prop
  | [], _ => False
  | y :: r, h => covers ⟨y.1, y.2.1, y.2.2.1, y.2.2.2⟩ pc = true ∧ y.2.2.2 ≠ 0 ∧ ∃ nm : String, Cond.classLink own y.2.2.2 nm ∈ lw_tbl ∧ ((Cond.castable E nm ∈ lw_tbl ∧ y.2.2.1 = h) ∨ (Cond.not (.castable E nm) ∈ gj_nar ∧ gj_hs own E pc r h))
theorem gj_hs_sr {p : Program} {l : Launch} {e : Env} {s : State} {m : MethodId} {meth : Method} {c : Code} {s0 : State} {a0 : Array Value} (cx : gj_Cx md p l s m meth c s0 a0) (hpl : e.platform.magicAccessors = ({} : Platform).magicAccessors) {thrown : ClassId} (hE : s.vm.findClass E = some thrown) {h : Nat} :
    ∀ hh : List (Nat × Nat × Nat × Nat), gj_hs md.1.cls E pc hh h → gj_sr e.platform s m.cls pc thrown (tableOf hh) h
  | [], hs => hs.elim
  | y :: r, hs => by
    obtain ⟨h1, h2, nm, h3, h4⟩ := hs
    obtain ⟨c5, hc5, hcl5⟩ := Cond.classLink_spec cx.2.2.2.2.2.2.2.2.1 (gj_word (args := a0) cx h3 rfl) e.platform hpl
    refine Or.inr ⟨h1, h2, c5, hcl5, ?_⟩
    rcases h4 with ⟨h5, h6⟩ | ⟨h5, h6⟩
    · obtain ⟨c3, c4, hc3, hc4, hasg⟩ := Cond.castable_spec (va_Nw.use (A := a0) rfl (va_Nw.warmC cx.2.2.2.2.1 (va_Nw.of rfl (cx.2.2.2.1.1 _ h5))))
      cases Option.some.inj (hc3.symm.trans hE)
      cases Option.some.inj (hc4.symm.trans hc5)
      exact Or.inl ⟨hasg, h6⟩
    · obtain ⟨a8, b8, q1, q2, q3⟩ := va_Nc.moved cx.2.2.2.2.1.alike (va_Nc.of (flat_of_before _ cx.2.2.2.1.2 _ h5))
      cases Option.some.inj (q1.symm.trans hE)
      cases Option.some.inj (q2.symm.trans hc5)
      exact Or.inr ⟨q3, gj_hs_sr cx hpl hE r h6⟩
def gj_rm (lc : List (Nat × Value)) (i : Nat) : List (Nat × Value) := lc.filter (fun q => !(q.1 == i) && !(q.1 + 1 == i && q.2.category == 2))
theorem gj_tl_rm {ad : Nat → Nat} {i : Nat} : (gj_tl ad lc).filter (fun q => !(q.1 == i) && !(q.1 + 1 == i && q.2.category == 2)) = gj_tl ad (gj_rm lc i) := by
  unfold gj_tl gj_rm
  rw [List.filter_map]
  congr 1
  refine List.filter_congr fun q _ => ?_
  simp [gj_cat]
theorem gj_xcatch {hpc i ln : Nat} (hh : gj_hs md.1.cls E pc md.2.2.2.2 hpc) (hd : (∃ j : Fin 4, (j : Nat) = i ∧ ln = 1 ∧ decode md.2.1 hpc = .ok (.astore_n j, 1)) ∨ (ln = 2 ∧ decode md.2.1 hpc = .ok (.astore i, 2))) (hi : i < md.2.2.1) (kk : gj_G md d K N k w (hpc + ln) (gj_rm lc i) [] n C Q) : gj_GX md d K N k w pc lc E n C Q := by
  intro p l e R s m args below meth c s0 a0 dC dI dA H locs ad ls rs q ce cx ro hK hP hD hS oC sc ov hl hce hcv hcl T hT X
  have hpl : e.platform.magicAccessors = ({} : Platform).magicAccessors := by rw [X.admits.platform]
  have hobj : ∀ k, ce.vm ≠ .statics k := fun k h => by rw [hcv] at h; cases h
  obtain ⟨k9, h9, -⟩ := Vm.findClass_spec hcl
  obtain ⟨vm', hW', hq⟩ := gj_search (e := e) (f := F0 m pc ls rs) (a := q) (cell := ce) (h := hpc) hobj ⟨k9, h9⟩ (tableOf md.2.2.2.2) ((T.setTop (F0 m pc ls rs)).pushFrame (.throwing q)) X.warmed (by rw [throwing_heap, hT]; exact hce) (gj_hs_sr cx hpl hcl _ hh)
  have hrest : ∀ (ls' : Array Slot), lv_has ls' md.2.2.1 ((i, .ref q) :: gj_tl ad (gj_rm lc i)) → W p l e R s m args below meth c H locs k w (gj_E below s s0 dC dI dA ad (C 0) n K N Q) (F0 m (hpc + ln) ls' []) := fun ls' hl' =>
    kk p l e R s m args below meth c s0 a0 dC dI dA H locs ad ls' cx ro hK hP hD hS oC sc ⟨fun z hz => ov z (List.mem_filter.mp hz).1, fun v hv => nomatch hv⟩ ⟨hl'.1, hl'.2.1, fun z hz => hl'.2.2 z (List.mem_cons_of_mem _ hz)⟩
  have hW : W p l e R s m args below meth c H locs k w (gj_E below s s0 dC dI dA ad (C 0) n K N Q) (F0 m hpc ls [.ref q]) := by
    rcases hd with ⟨j, hj, rfl, hd⟩ | ⟨rfl, hd⟩
    · exact lv_astore_n cx.1 cx.2.1 hd hj hl hi (by rw [gj_tl_rm]) hrest
    · exact lv_astore cx.1 cx.2.1 hd hl hi (by rw [gj_tl_rm]) hrest
  obtain ⟨t, a1, b1⟩ := hW (T.setVm vm') hT (X.noted hW')
  refine ⟨t, gj_caught (g := F0 m pc ls rs) (c := c) X.here (pc := hpc) (vm' := vm') (fun Q E d acts => ?_) a1, b1⟩
  rw [W.findHandler_eq (meth := meth) (code := c) (by rw [throwing_vm]; exact X.method') X.code, cx.2.2.2.2.2.2.2.2.2.2.2]
  exact hq Q E d acts
end
end
section
/-! rows of the given names text (exceptions, no traces), as far as the throw wants them -/
section
variable {p : Program} {l : Launch} {e : Env} {R : Room} {s : State} {m : MethodId} {args : Array Value} {below : List Frame} {meth : Method} {c : Code} {H : Heap} {locs : List Loc} {cells slots : Nat} {Q : State → Prop}
theorem vx_frame {U : State} {k n : Nat} (h : s.sameButNew ({ U with vm := s.vm } : State) locs k n) : s.heap.size ≤ U.heap.size ∧ ∀ q : Nat, q < s.heap.size → (∀ z ∈ locs, z.base ≠ q) → U.heap[q]? = s.heap[q]? := by
  obtain ⟨-, h2, -, -, -, h6⟩ := h
  refine ⟨h2, fun q hq hz => ?_⟩
  obtain ⟨c9, e1, e2, e3, e4⟩ := h6 q _ (Array.getElem?_eq_getElem hq)
  have hs : c9.slots = (s.heap[q]).slots := Array.ext_getElem? fun i => e4 i fun hm => hz _ hm rfl
  have h9 : c9 = s.heap[q] := by
    rw [hs] at e2
    exact e2
  have e5 : U.heap[q]? = some c9 := e1
  rw [e5, h9, Array.getElem?_eq_getElem hq]
def vx_no (w : Cond) : Bool := decide (w ≠ .isRef (.static Bundle.tN "UNASSIGNED_STACK" Bundle.steD)) && decide (w ≠ .isRef (.static Bundle.tN "SUPPRESSED_SENTINEL" Bundle.listD)) && decide (w ≠ .laysStatic Bundle.tN "UNASSIGNED_STACK" Bundle.steD) && decide (w ≠ .laysStatic Bundle.tN "SUPPRESSED_SENTINEL" Bundle.listD)
def vx_atS (own : String) (ic : Nat) (X : String) (names : List String) : List Cond := (Bundle.ownAtoms own ic X names).filter vx_no
def vx_ot (w : Cond) : Bool := w.onTables || goodWord w
theorem vx_ot_at {args a' : Array Value} {s U : State} {w : Cond} (hW : s.WarmedH U.vm) (hvm : s.vm = U.vm) (hg : vx_ot w = true) (h : w.before args s = true) : w.before a' U = true := by
  simp only [vx_ot, Bool.or_eq_true] at hg
  rcases hg with hg | hg
  · exact va_tabs hg hvm h
  · exact word_at hW (good_of_word hg) h
theorem vx_own {args : Array Value} {s : State} {L : List Cond} (h1 : ∀ w ∈ L.filter vx_no, w.before args s = true)
    (hU : (Cond.isRef (.static Bundle.tN "UNASSIGNED_STACK" Bundle.steD)).before args s = true) (hN : (Cond.isRef (.static Bundle.tN "SUPPRESSED_SENTINEL" Bundle.listD)).before args s = true)
    (lU : (Cond.laysStatic Bundle.tN "UNASSIGNED_STACK" Bundle.steD).before args s = true) (lN : (Cond.laysStatic Bundle.tN "SUPPRESSED_SENTINEL" Bundle.listD).before args s = true) : ∀ w ∈ L, w.before args s = true := by
  intro w hw
  by_cases e1 : w = .isRef (.static Bundle.tN "UNASSIGNED_STACK" Bundle.steD)
  · rw [e1]; exact hU
  · by_cases e2 : w = .isRef (.static Bundle.tN "SUPPRESSED_SENTINEL" Bundle.listD)
    · rw [e2]; exact hN
    · by_cases e3 : w = .laysStatic Bundle.tN "UNASSIGNED_STACK" Bundle.steD
      · rw [e3]; exact lU
      · by_cases e4 : w = .laysStatic Bundle.tN "SUPPRESSED_SENTINEL" Bundle.listD
        · rw [e4]; exact lN
        · exact h1 w (List.mem_filter.mpr ⟨hw, by unfold vx_no; rw [decide_eq_true e1, decide_eq_true e2, decide_eq_true e3, decide_eq_true e4]; rfl⟩)
def vx_L (C n d : String) (A : Nat → Prop) (U : State) (H : Heap) : Prop := ∃ (c : ClassId) (k : Class) (i : Nat) (f : Field) (a : Nat) (cell : Cell), U.vm.findClass C = some c ∧ U.fieldFound? C n d = some (c, k, i, f) ∧ f.isStatic = true ∧ k.statics = some a ∧ H[a]? = some cell ∧ cell.vm.isStatics = true ∧ cell.cls = c ∧ f.slot < cell.slots.size ∧ k.staticTypes[f.slot]? = some f.type ∧ ¬ A a
theorem vx_L.moved {C n d : String} {A : Nat → Prop} {u U : State} {H : Heap} (hvm : u.vm.Alike U.vm) (h : vx_L C n d A u H) : vx_L C n d A U H := by
  obtain ⟨c, k, i, f, a, cell, h1, h2, h3, h4, h5, h6, h7, h8, h9, h10⟩ := h
  obtain ⟨k', hi', he⟩ := State.fieldFound?_setVm hvm h2
  exact ⟨c, k', i, f, a, cell, by rw [hvm.findClass]; exact h1, hi', h3, by rw [he]; exact h4, h5, h6, h7, h8, by rw [he]; exact h9, h10⟩
theorem vx_L.kept {C n d : String} {A : Nat → Prop} {U : State} {H H1 : Heap} (h : vx_L C n d A U H) (hq : ∀ a : Nat, a < H.size → ¬ A a → H1[a]? = H[a]?) : vx_L C n d A U H1 := by
  obtain ⟨c, k, i, f, a, cell, h1, h2, h3, h4, h5, h6, h7, h8, h9, h10⟩ := h
  exact ⟨c, k, i, f, a, cell, h1, h2, h3, h4, by rw [hq a (Array.getElem?_eq_some_iff.mp h5).1 h10]; exact h5, h6, h7, h8, h9, h10⟩
theorem vx_L.word {C n d : String} {A : Nat → Prop} {s : State} {args : Array Value} (h : vx_L C n d A s s.heap) : (Cond.laysStatic C n d).before args s = true := by
  obtain ⟨c, k, i, f, a, cell, h1, h2, h3, h4, h5, h6, h7, h8, h9, -⟩ := h
  show (Cond.laysStatic C n d).holds args s none s [] = true
  exact Cond.laysStatic_of h1 h2 h3 h4 h5 h6 h7 h8 h9
def vx_Zq (C n d : String) (A : Nat → Prop) (U : State) (H : Heap) : Prop := va_Zq C n d A U H ∧ vx_L C n d A U H
theorem vx_Zq.moved {C n d : String} {A : Nat → Prop} {u U : State} {H : Heap} (hvm : u.vm.Alike U.vm) (h : vx_Zq C n d A u H) : vx_Zq C n d A U H := ⟨va_Zq.moved hvm h.1, vx_L.moved hvm h.2⟩
theorem vx_Zq.kept {C n d : String} {A : Nat → Prop} {U : State} {H H1 : Heap} (h : vx_Zq C n d A U H) (hq : ∀ a : Nat, a < H.size → ¬ A a → H1[a]? = H[a]?) : vx_Zq C n d A U H1 := ⟨va_Zq.kept h.1 hq, vx_L.kept h.2 hq⟩
theorem vx_Zqof {args : Array Value} {s : State} {C n d : String} {A : Nat → Prop} (hl : (Cond.laysStatic C n d).before args s = true) (hini : (Cond.initialized C).before args s = true) (h : (Cond.isRef (.static C n d)).before args s = true) (hA : ∀ a : Nat, a < s.heap.size → ¬ A a) : vx_Zq C n d A s s.heap := by
  refine ⟨va_Zqof hl hini h hA, ?_⟩
  obtain ⟨c, k, i, f, a, cell, h1, h2, h3, h4, h5, h6, h7, h8, h9⟩ := Cond.laysStatic_spec hl
  exact ⟨c, k, i, f, a, cell, h1, h2, h3, h4, h5, h6, h7, h8, h9, hA a (Array.getElem?_eq_some_iff.mp h5).1⟩
theorem vx_isRef {C n d : String} {v : Value} {A : Nat → Prop} {s : State} {args : Array Value} (h : va_Z C n d v A s s.heap) (hv : v.isRef = true) : (Cond.isRef (.static C n d)).before args s = true := by
  obtain ⟨cf, kf, fi, f, a, cell, h1, h2, h3, h4, h5, h6, h7, -⟩ := h
  have he : (Term.static C n d).eval args s none [] s = some v := by
    simp [Term.eval, State.fieldNamed?, h1, h2, h4, h5, h6, h7]
  simp only [Cond.before, Cond.holds, Cond.value, he]
  cases v <;> simp_all [Value.isRef]
theorem vx_isRefq {C n d : String} {A : Nat → Prop} {s : State} {args : Array Value} (h : va_Zq C n d A s s.heap) : (Cond.isRef (.static C n d)).before args s = true := by
  rcases h with h | ⟨t, h⟩
  · exact vx_isRef h rfl
  · exact vx_isRef h rfl
theorem vx_rebase {T : State} (X : Stand p l e R s m args below meth c T locs cells slots) {R' : Room} (hf : R'.frames ≤ R.frames) (hl : R'.locals ≤ R.locals) (hc : cells + R'.cells ≤ R.cells) (hs : slots + R'.slots ≤ R.slots) :
    Stand p l e R' ((T.setVm s.vm).setFrames (.invoking m args :: below)) m args below meth c T [] 0 0 := by
  have htop : (T.setVm s.vm).topJava?.isSome := X.here.top
  have hF : ((T.setVm s.vm).setFrames (.invoking m args :: below)).frames = .invoking m args :: below := State.frames_setFrames _ (State.cur_lt_of_top htop)
  obtain ⟨g₀, hg0⟩ := Option.isSome_iff_exists.mp htop
  obtain ⟨r, hr⟩ := State.topJava?_eq_some.mp hg0
  have hl9 : e.platform.stackLimits (T.setVm s.vm).me = e.platform.stackLimits s.me := X.limits
  have hb9 : (T.setVm s.vm).me.stackBytes = s.me.stackBytes := X.bytes
  refine ⟨X.admits, X.cas, X.clock, hF, ?_, X.hears, X.method, X.code, X.here, X.tail, X.warmed, ?_, ?_, ?_⟩
  · have h := X.room
    have hU : ((T.setVm s.vm).setFrames (.invoking m args :: below)).localsInUse = s.localsInUse := by
      rw [State.localsInUse_invoking hF (meth := meth) (c := c) X.method X.code, State.localsInUse_invoking X.frames X.method X.code]
    simp only [State.hasRoom, Bool.and_eq_true, decide_eq_true_eq] at h ⊢
    obtain ⟨⟨⟨⟨h1, h2, h3, h4, h5, h6⟩, h7⟩, h8⟩, h9⟩ := h
    rw [X.frames, List.length_cons] at h2 h3
    have q1 := X.heapSize
    have q2 := X.used
    simp only [hF, hU, List.length_cons, State.stackLimits_setFrames, State.stackBytes_setFrames, hl9, hb9]
    refine ⟨⟨⟨⟨by omega, by omega, by omega, by omega, by omega, h6⟩, ?_⟩, ?_⟩, X.book⟩
    · show T.heap.size + R'.cells ≤ e.platform.maxCells
      omega
    · show T.slotsUsed + R'.slots ≤ e.platform.maxSlots
      omega
  · rw [State.stackLimits_setFrames]; rfl
  · rw [State.stackBytes_setFrames]; rfl
  · refine ⟨?_, Nat.le_refl _, Nat.le_refl _, ?_, ?_, fun a c9 h9 => ⟨c9, h9, rfl, rfl, fun _ _ => rfl⟩⟩
    · obtain ⟨t, ht, -⟩ := State.frames_cons hr
      show T.setVm s.vm = { ((T.setVm s.vm).setFrames (.invoking m args :: below)).setFrames (T.setVm s.vm).frames with heap := T.heap, slotsUsed := T.slotsUsed }
      rw [State.setFrames_setFrames, State.setFrames_self ht]
      rfl
    · show T.slotsUsed = T.slotsUsed + ((T.heap.toList.drop T.heap.size).map (·.slots.size)).sum
      rw [List.drop_eq_nil_of_le (Nat.le_of_eq Array.length_toList)]
      rfl
    · show ((T.heap.toList.drop T.heap.size).map (·.slots.size)).sum ≤ 0
      rw [List.drop_eq_nil_of_le (Nat.le_of_eq Array.length_toList)]
      exact Nat.le_refl _
end
/-! THE THROW: new; dup; ldc; invokespecial; athrow -/
/-- the words that a throw of cls wants are there -/
def gj_tok (own cls text : String) (ik is ic : Nat) : Prop := Bundle.fit cls = true ∧ Cond.classLink own ik cls ∈ lw_tbl ∧ Cond.initialized cls ∈ lw_tbl ∧ Cond.stringRef own is text ∈ lw_tbl ∧ Cond.castable cls cls ∈ lw_tbl ∧
  (∀ w ∈ (vx_atS own ic cls ["java/lang/RuntimeException", "java/lang/Exception"]).filter goodWord, w ∈ lw_tbl) ∧ (∀ w ∈ (vx_atS own ic cls ["java/lang/RuntimeException", "java/lang/Exception"]).filter (fun w => !goodWord w), w = .castable cls cls) ∧
  (∀ w ∈ Cond.classLink own ik cls :: Cond.initialized cls :: vx_atS own ic cls ["java/lang/RuntimeException", "java/lang/Exception"], vx_ot w = true)

section
variable {md : gj_M} {d K N k w pc : Nat} {lc : List (Nat × Value)} {st : List Value} {n : Nat} {C : Nat → va_E} {Q : gj_R → Prop}
theorem gw_lsU : Cond.laysStatic "java/lang/Throwable" "UNASSIGNED_STACK" "[Ljava/lang/StackTraceElement;" ∈ lw_tbl := by decide +kernel
theorem gw_lsN : Cond.laysStatic "java/lang/Throwable" "SUPPRESSED_SENTINEL" "Ljava/util/List;" ∈ lw_tbl := by decide +kernel
theorem gw_iniT : Cond.initialized "java/lang/Throwable" ∈ lw_tbl := by decide +kernel
theorem gn_U : Cond.isRef (.static "java/lang/Throwable" "UNASSIGNED_STACK" "[Ljava/lang/StackTraceElement;") ∈ gj_nar := by decide +kernel
theorem gn_N : Cond.isRef (.static "java/lang/Throwable" "SUPPRESSED_SENTINEL" "Ljava/util/List;") ∈ gj_nar := by decide +kernel
set_option maxHeartbeats 1000000 in
theorem gj_throw {cls text : String} {ik is ic : Nat} (ht : gj_tok md.1.cls cls text ik is ic) (d0 : decode md.2.1 pc = .ok (.new ik, 3)) (d3 : decode md.2.1 (pc + 3) = .ok (.dup, 1)) (d4 : decode md.2.1 (pc + 4) = .ok (.ldc is, 2)) (d6 : decode md.2.1 (pc + 6) = .ok (.invokespecial ic, 3)) (d9 : decode md.2.1 (pc + 9) = .ok (.athrow, 1))
    (hout : (tableOf md.2.2.2.2).all (fun x => !covers x (pc + 9)) = true) (hst : (st.map fun v => v.category).sum ≤ 50) (hk : k + 1 ≤ K) (hw : w + 6 ≤ N) (hQ : Q (.inr cls, n, C)) : gj_G md d K N k w pc lc st n C Q := by
  intro p l e R s m args below meth c s0 a0 dC dI dA H locs ad ls cx ro hK hP hD hS oC sc ol hl T hT X
  obtain ⟨hfit, h1, h2, h3, h4, h5, h6, h7⟩ := ht
  have hexec := cx.1
  have hb := cx.2.1
  have hWs0 := cx.2.2.2.2.1
  have htr : e.platform.stackTraces = false := (show e.platform.stackTraces = l.stackTraces by rw [X.admits.platform]).trans cx.2.2.1
  have Y := vx_rebase X (R' := { frames := R.frames, locals := R.locals, cells := 1, slots := 6 }) (Nat.le_refl _) (Nat.le_refl _) (Nat.le_trans hk ro.2.2.1) (Nat.le_trans hw ro.2.2.2)
  obtain ⟨s', hA⟩ : ∃ z, z = (T.setVm s.vm).setFrames (.invoking m args :: below) := ⟨_, rfl⟩
  rw [← hA] at Y
  have hvm : s'.vm = s.vm := by rw [hA]; rfl
  have hhp : s'.heap = H := by rw [hA]; exact hT
  have hW0 : s.WarmedH s'.vm := by rw [hvm]; exact State.WarmedH.refl s
  have hal : s0.vm.Alike s'.vm := by rw [hvm]; exact hWs0.alike
  have hat : ∀ w ∈ vx_atS md.1.cls ic cls ["java/lang/RuntimeException", "java/lang/Exception"], w.before args s = true := by
    intro w hw
    by_cases g : goodWord w = true
    · exact gj_word cx (h5 w (List.mem_filter.mpr ⟨hw, g⟩)) g
    · have hw2 : w = .castable cls cls := h6 w (List.mem_filter.mpr ⟨hw, by
        show (!goodWord w) = true
        cases hgw : goodWord w
        · rfl
        · exact absurd hgw g⟩)
      rw [hw2]
      exact va_Nw.use rfl (va_Nw.warmC hWs0 (va_Nw.of rfl (cx.2.2.2.1.1 _ h4)))
  have hat' : ∀ w ∈ vx_atS md.1.cls ic cls ["java/lang/RuntimeException", "java/lang/Exception"], w.before args s' = true := fun w hw => vx_ot_at hW0 hvm.symm (h7 w (List.mem_cons_of_mem _ (List.mem_cons_of_mem _ hw))) (hat w hw)
  have hk' : (Cond.classLink md.1.cls ik cls).before args s' = true := vx_ot_at hW0 hvm.symm (h7 _ List.mem_cons_self) (gj_word (args := args) cx h1 rfl)
  have hini' : (Cond.initialized cls).before args s' = true := vx_ot_at hW0 hvm.symm (h7 _ (List.mem_cons_of_mem _ List.mem_cons_self)) (gj_word (args := args) cx h2 rfl)
  have hold : ∀ a : Nat, a < s0.heap.size → ¬ s0.heap.size ≤ a → H[a]? = s0.heap[a]? := fun a ha hn => by
    rw [hS.2.1 a (Nat.lt_of_lt_of_le ha cx.2.2.2.2.2.1.1) hn]
    exact cx.2.2.2.2.2.1.2 a ha
  have nar := flat_of_before _ cx.2.2.2.1.2
  have hU0 : vx_Zq Bundle.tN "UNASSIGNED_STACK" Bundle.steD (fun q : Nat => s0.heap.size ≤ q) s0 s0.heap := vx_Zqof (cx.2.2.2.1.1 _ gw_lsU) (cx.2.2.2.1.1 _ gw_iniT) (nar _ gn_U) (fun a ha => Nat.not_le.mpr ha)
  have hN0 : vx_Zq Bundle.tN "SUPPRESSED_SENTINEL" Bundle.listD (fun q : Nat => s0.heap.size ≤ q) s0 s0.heap := vx_Zqof (cx.2.2.2.1.1 _ gw_lsN) (cx.2.2.2.1.1 _ gw_iniT) (nar _ gn_N) (fun a ha => Nat.not_le.mpr ha)
  have hU' : vx_Zq Bundle.tN "UNASSIGNED_STACK" Bundle.steD (fun q : Nat => s0.heap.size ≤ q) s' s'.heap := by rw [hhp]; exact vx_Zq.moved hal (hU0.kept hold)
  have hN' : vx_Zq Bundle.tN "SUPPRESSED_SENTINEL" Bundle.listD (fun q : Nat => s0.heap.size ≤ q) s' s'.heap := by rw [hhp]; exact vx_Zq.moved hal (hN0.kept hold)
  have h : ∀ w ∈ Bundle.ownAtoms md.1.cls ic cls ["java/lang/RuntimeException", "java/lang/Exception"], w.before args s' = true := vx_own hat' (vx_isRefq hU'.1) (vx_isRefq hN'.1) hU'.2.word hN'.2.word
  have hown' : s'.vm.findClass md.1.cls = some m.cls := by rw [hvm]; exact cx.2.2.2.2.2.2.2.2.1
  have hins : (Cond.instantiable cls 6).before args s' = true := h _ (by simp [Bundle.ownAtoms])
  have hown0 : s0.vm.findClass md.1.cls = some m.cls := by rw [← hWs0.alike.findClass]; exact cx.2.2.2.2.2.2.2.2.1
  obtain ⟨_, _, _, sa, -, -, -, -, -, hsa0⟩ := Cond.stringRef_spec hown0 (cx.2.2.2.1.1 _ h3)
  have hstr : vk_R md.1.cls is text sa s' := vk_R.warm hW0 (vk_R.warm hWs0 (vk_R.of (cx.2.2.2.1.1 _ h3) hsa0))
  obtain ⟨vm₁, cX, kX, hfX, hkX, -, -, X₁, st1⟩ := Y.newCold hexec (own := md.1.cls) (C := cls) (index := ik) (n := 6) hown' hk' hins hini'
    (g := F0 m pc ls (st.map (gj_tv ad))) rfl (by rw [hb]; exact d0) (Nat.le_refl _) (Nat.le_refl _)
  generalize hT1 : (T.setVm vm₁).pushCell { cls := cX, slots := kX.instanceTypes.map defaultValue, vm := .none } = T1 at X₁ st1
  have hcat : (Value.ref T.heap.size).category = 1 := rfl
  have hcellA : T1.heap[T.heap.size]? = some (freshCell cX kX) := by rw [← hT1]; exact State.heap_pushCell_size _ _
  have d3' : decode c.code (pc + 3) = .ok (.dup, 1) := by rw [hb]; exact d3
  have d4' : decode c.code (pc + 4) = .ok (.ldc is, 2) := by rw [hb]; exact d4
  obtain ⟨U, hsteps, hrun, hend, hW, hsame, ce, hce, hO⟩ := X₁.ctorThrowS hexec htr (own := md.1.cls) (cls := cls) (names := ["java/lang/RuntimeException", "java/lang/Exception"]) (ic := ic) hown' hfit (by decide) h (fun x hx => nomatch hx) hfX hkX hcellA (by rw [hhp, hT]; exact Nat.le_refl _) (msg := .ref sa) rfl
    (g := { method := m, pc := pc + 6, locals := ls, stack := .ref sa :: .ref T.heap.size :: .ref T.heap.size :: st.map (gj_tv ad), locked := none }) rfl (by rw [cx.2.2.2.2.2.2.2.1]; exact hl.1) rfl rfl (rest := st.map (gj_tv ad)) rfl
    (by rw [hb]; exact d6) (by rw [hb]; exact d9) (outside_of_table cx.2.2.2.2.2.2.2.2.2.2.2 hout) (by have := ro.1; show 2 + 3 < R.frames; omega) (by
      simp only [List.map_cons, List.sum_cons, hcat, List.length_cons, List.length_nil, gj_cats]
      have := ro.2.1
      show 2 * 0 + (1 + (st.map fun v => v.category).sum) + _ ≤ R.locals
      omega) cx.2.2.2.2.2.2.2.2.2.1
  obtain ⟨f1, f2⟩ := vx_frame hsame
  rw [hhp] at f1 f2
  have hWs : s.WarmedH U.vm := State.WarmedH.trans hW0 hW
  have hcl : s.vm.findClass cls = some ce.cls := by
    have h9 := hO.cls
    rw [hvm] at h9
    exact h9
  have hall : s.sameButNew ({ U with vm := s.vm } : State) locs K N := by
    subst hA
    obtain ⟨e1, e2⟩ := hsame
    rw [State.setFrames_setFrames] at e1
    have h2 : (T.setVm s.vm).sameButNew ({ U with vm := s.vm } : State) [] (0 + 1) (0 + 6) := ⟨e1, e2⟩
    have h3 := X.same.trans h2
    rw [List.append_nil] at h3
    exact h3.mono hk hw
  have f3 : ∀ q : Nat, q < H.size → U.heap[q]? = H[q]? := fun q hq => f2 q hq (fun z hz => nomatch hz)
  refine ⟨U, ?_, .threw T.heap.size, locs, .inr cls, n, C, ad, hrun, hend, hWs, hall, hS.2.2, ⟨Nat.le_trans (Nat.le_trans cx.2.2.2.2.2.1.1 hS.1) f1, fun q hq => ?_⟩, hQ, ⟨T.heap.size, ce, rfl, hce, hO.vm, hcl⟩, trivial, Nat.le_refl n, fun _ _ => rfl, rfl, hP.kept (fun k q hk => f3 q.1 (hP k q hk).lt), hD, oC⟩
  · refine st1 _ ?_
    show Steps p.tables e below (T1.setTop { method := m, pc := pc + 3, locals := ls, stack := .ref T.heap.size :: st.map (gj_tv ad), locked := none }) _
    jvm_step X₁.here [X₁.here.top, hexec, d3', Value.category]
    exact X₁.ldcString hexec (own := md.1.cls) (text := text) (index := is) (a := sa) hown' hstr.1 hstr.2
      (g := { method := m, pc := pc + 4, locals := ls, stack := .ref T.heap.size :: .ref T.heap.size :: st.map (gj_tv ad), locked := none }) rfl d4' _ hsteps
  · rw [f3 q (Nat.lt_of_lt_of_le hq (Nat.le_trans cx.2.2.2.2.2.1.1 hS.1))]
    exact hold q hq (Nat.not_le.mpr hq)
end
end
section
/-! words of the tables, by their places -/
theorem gw_0 : Cond.selects "RateBreaks" ⟨"RateBreaks", "readInto", "(LRateBreaks$Rates;)I"⟩ ⟨"RateBreaks", "readInto", "(LRateBreaks$Rates;)I"⟩ ∈ lw_tbl := List.mem_of_getElem? (i := 0) (by decide +kernel)
theorem gw_1 : Cond.selects "RateBreaks$Text" ⟨"RateBreaks$Text", "takeNumber", "()I"⟩ ⟨"RateBreaks$Text", "takeNumber", "()I"⟩ ∈ lw_tbl := List.mem_of_getElem? (i := 1) (by decide +kernel)
theorem gw_2 : Cond.selects "RateBreaks$Rates" ⟨"RateBreaks$Rates", "takeKind", "(I[I)Z"⟩ ⟨"RateBreaks$Rates", "takeKind", "(I[I)Z"⟩ ∈ lw_tbl := List.mem_of_getElem? (i := 2) (by decide +kernel)
theorem gw_3 : Cond.selects "RateBreaks$Rates" ⟨"RateBreaks$Rates", "takeStep", "(IIII)Z"⟩ ⟨"RateBreaks$Rates", "takeStep", "(IIII)Z"⟩ ∈ lw_tbl := List.mem_of_getElem? (i := 3) (by decide +kernel)
theorem gw_4 : Cond.selects "RateBreaks$Rates" ⟨"RateBreaks$Rates", "heaviest", "(I)I"⟩ ⟨"RateBreaks$Rates", "heaviest", "(I)I"⟩ ∈ lw_tbl := List.mem_of_getElem? (i := 4) (by decide +kernel)
theorem gw_6 : Cond.selects "RateBreaks" ⟨"RateBreaks", "present", "(I)LRateBreaks$Shipment;"⟩ ⟨"RateBreaks", "present", "(I)LRateBreaks$Shipment;"⟩ ∈ lw_tbl := List.mem_of_getElem? (i := 6) (by decide +kernel)
theorem gw_7 : Cond.selects "RateBreaks" ⟨"RateBreaks", "priceNow", "(LRateBreaks$Shipment;I)I"⟩ ⟨"RateBreaks", "priceNow", "(LRateBreaks$Shipment;I)I"⟩ ∈ lw_tbl := List.mem_of_getElem? (i := 7) (by decide +kernel)
theorem gw_8 : Cond.selects "RateBreaks$Ratios" ⟨"RateBreaks$Ratios", "placeFor", "(I)I"⟩ ⟨"RateBreaks$Ratios", "placeFor", "(I)I"⟩ ∈ lw_tbl := List.mem_of_getElem? (i := 8) (by decide +kernel)
theorem gw_9 : Cond.selects "RateBreaksModel" ⟨"RateBreaksModel", "oneLine", "()Z"⟩ ⟨"RateBreaksModel", "oneLine", "()Z"⟩ ∈ lw_tbl := List.mem_of_getElem? (i := 9) (by decide +kernel)
theorem gw_10 : Cond.selects "RateBreaksModel" ⟨"RateBreaksModel", "here", "()I"⟩ ⟨"RateBreaksModel", "here", "()I"⟩ ∈ lw_tbl := List.mem_of_getElem? (i := 10) (by decide +kernel)
theorem gw_11 : Cond.selects "RateBreaksModel" ⟨"RateBreaksModel", "number", "()I"⟩ ⟨"RateBreaksModel", "number", "()I"⟩ ∈ lw_tbl := List.mem_of_getElem? (i := 11) (by decide +kernel)
theorem gw_12 : Cond.selects "RateBreaksModel" ⟨"RateBreaksModel", "heaviest", "(II)I"⟩ ⟨"RateBreaksModel", "heaviest", "(II)I"⟩ ∈ lw_tbl := List.mem_of_getElem? (i := 12) (by decide +kernel)
theorem gw_13 : Cond.selects "RateBreaksModel" ⟨"RateBreaksModel", "seen", "(II)Z"⟩ ⟨"RateBreaksModel", "seen", "(II)Z"⟩ ∈ lw_tbl := List.mem_of_getElem? (i := 13) (by decide +kernel)
theorem gw_14 : Cond.selects "RateBreaksModel" ⟨"RateBreaksModel", "noShipment", "(I)Z"⟩ ⟨"RateBreaksModel", "noShipment", "(I)Z"⟩ ∈ lw_tbl := List.mem_of_getElem? (i := 14) (by decide +kernel)
theorem gw_15 : Cond.selects "RateBreaksModel" ⟨"RateBreaksModel", "toPay", "(II)I"⟩ ⟨"RateBreaksModel", "toPay", "(II)I"⟩ ∈ lw_tbl := List.mem_of_getElem? (i := 15) (by decide +kernel)
theorem gw_16 : Cond.selects "RateBreaksModel" ⟨"RateBreaksModel", "find", "(II)I"⟩ ⟨"RateBreaksModel", "find", "(II)I"⟩ ∈ lw_tbl := List.mem_of_getElem? (i := 16) (by decide +kernel)
theorem gw_17 : Cond.selects "RateBreaksModel" ⟨"RateBreaksModel", "priceOf", "(II)I"⟩ ⟨"RateBreaksModel", "priceOf", "(II)I"⟩ ∈ lw_tbl := List.mem_of_getElem? (i := 17) (by decide +kernel)
theorem gw_18 : Cond.selects "RateBreaksModel" ⟨"RateBreaksModel", "booked", "(I)I"⟩ ⟨"RateBreaksModel", "booked", "(I)I"⟩ ∈ lw_tbl := List.mem_of_getElem? (i := 18) (by decide +kernel)
theorem gw_19 : Cond.initialized "RateBreaksLaw" ∈ lw_tbl := List.mem_of_getElem? (i := 19) (by decide +kernel)
theorem gw_20 : Cond.initialized "RateBreaks" ∈ lw_tbl := List.mem_of_getElem? (i := 20) (by decide +kernel)
theorem gw_21 : Cond.initialized "RateBreaks$Text" ∈ lw_tbl := List.mem_of_getElem? (i := 21) (by decide +kernel)
theorem gw_22 : Cond.initialized "RateBreaks$Rates" ∈ lw_tbl := List.mem_of_getElem? (i := 22) (by decide +kernel)
theorem gw_23 : Cond.initialized "RateBreaks$Ratios" ∈ lw_tbl := List.mem_of_getElem? (i := 23) (by decide +kernel)
theorem gw_24 : Cond.initialized "java/lang/Math" ∈ lw_tbl := List.mem_of_getElem? (i := 24) (by decide +kernel)
theorem gw_25 : Cond.initialized "RateBreaksModel" ∈ lw_tbl := List.mem_of_getElem? (i := 25) (by decide +kernel)
theorem gw_26 : Cond.initialized "java/lang/Throwable" ∈ lw_tbl := List.mem_of_getElem? (i := 26) (by decide +kernel)
theorem gw_27 : Cond.initialized "java/lang/Exception" ∈ lw_tbl := List.mem_of_getElem? (i := 27) (by decide +kernel)
theorem gw_28 : Cond.initialized "java/lang/RuntimeException" ∈ lw_tbl := List.mem_of_getElem? (i := 28) (by decide +kernel)
theorem gw_29 : Cond.initialized "java/lang/IllegalArgumentException" ∈ lw_tbl := List.mem_of_getElem? (i := 29) (by decide +kernel)
theorem gw_30 : Cond.initialized "java/lang/UnsupportedOperationException" ∈ lw_tbl := List.mem_of_getElem? (i := 30) (by decide +kernel)
theorem gw_31 : Cond.initialized "RateBreaks$Shipment" ∈ lw_tbl := List.mem_of_getElem? (i := 31) (by decide +kernel)
theorem gw_32 : Cond.initialized "java/util/NoSuchElementException" ∈ lw_tbl := List.mem_of_getElem? (i := 32) (by decide +kernel)
theorem gw_33 : Cond.initialized "java/lang/ArithmeticException" ∈ lw_tbl := List.mem_of_getElem? (i := 33) (by decide +kernel)
theorem gw_34 : Cond.initialized "java/lang/IllegalStateException" ∈ lw_tbl := List.mem_of_getElem? (i := 34) (by decide +kernel)
theorem gw_35 : Cond.classLink "RateBreaksLaw" 8 "RateBreaks" ∈ lw_tbl := List.mem_of_getElem? (i := 35) (by decide +kernel)
theorem gw_36 : Cond.instantiable "RateBreaks" 8 ∈ lw_tbl := List.mem_of_getElem? (i := 36) (by decide +kernel)
theorem gw_37 : Cond.methodLink "RateBreaksLaw" 69 ⟨"RateBreaks", "<init>", "()V"⟩ ∈ lw_tbl := List.mem_of_getElem? (i := 37) (by decide +kernel)
theorem gw_38 : Cond.instanceMethod ⟨"RateBreaks", "<init>", "()V"⟩ ∈ lw_tbl := List.mem_of_getElem? (i := 38) (by decide +kernel)
theorem gw_39 : Cond.code ⟨"RateBreaks", "<init>", "()V"⟩ prog_1_method_1_code 2 (Option.none : Option Jvm.ClassFile.FieldType) ∈ lw_tbl := List.mem_of_getElem? (i := 39) (by decide +kernel)
theorem gw_40 : Cond.methodLink "RateBreaks" 1 ⟨"java/lang/Object", "<init>", "()V"⟩ ∈ lw_tbl := List.mem_of_getElem? (i := 40) (by decide +kernel)
theorem gw_41 : Cond.instanceMethod ⟨"java/lang/Object", "<init>", "()V"⟩ ∈ lw_tbl := List.mem_of_getElem? (i := 41) (by decide +kernel)
theorem gw_42 : Cond.code ⟨"java/lang/Object", "<init>", "()V"⟩ object_method_1_code 1 (Option.none : Option Jvm.ClassFile.FieldType) ∈ lw_tbl := List.mem_of_getElem? (i := 42) (by decide +kernel)
theorem gw_43 : Cond.classLink "RateBreaks" 7 "RateBreaks$Text" ∈ lw_tbl := List.mem_of_getElem? (i := 43) (by decide +kernel)
theorem gw_44 : Cond.instantiable "RateBreaks$Text" 4 ∈ lw_tbl := List.mem_of_getElem? (i := 44) (by decide +kernel)
theorem gw_45 : Cond.methodLinkNest "RateBreaks" 9 ⟨"RateBreaks$Text", "<init>", "()V"⟩ "RateBreaks" ∈ lw_tbl := List.mem_of_getElem? (i := 45) (by decide +kernel)
theorem gw_46 : Cond.instanceMethod ⟨"RateBreaks$Text", "<init>", "()V"⟩ ∈ lw_tbl := List.mem_of_getElem? (i := 46) (by decide +kernel)
theorem gw_47 : Cond.code ⟨"RateBreaks$Text", "<init>", "()V"⟩ prog_5_method_1_code 1 (Option.none : Option Jvm.ClassFile.FieldType) ∈ lw_tbl := List.mem_of_getElem? (i := 47) (by decide +kernel)
theorem gw_48 : Cond.methodLink "RateBreaks$Text" 3 ⟨"java/lang/Object", "<init>", "()V"⟩ ∈ lw_tbl := List.mem_of_getElem? (i := 48) (by decide +kernel)
theorem gw_49 : Cond.fieldLink "RateBreaks$Text" 9 "RateBreaks$Text" "signs" "[I" ∈ lw_tbl := List.mem_of_getElem? (i := 49) (by decide +kernel)
theorem gw_50 : Cond.fieldLink "RateBreaks$Text" 15 "RateBreaks$Text" "numbers" "[I" ∈ lw_tbl := List.mem_of_getElem? (i := 50) (by decide +kernel)
theorem gw_51 : Cond.fieldLink "RateBreaks" 214 "RateBreaks$Text" "numbers" "[I" ∈ lw_tbl := List.mem_of_getElem? (i := 51) (by decide +kernel)
theorem gw_52 : Cond.fieldLink "RateBreaks$Text" 18 "RateBreaks$Text" "length" "I" ∈ lw_tbl := List.mem_of_getElem? (i := 52) (by decide +kernel)
theorem gw_53 : Cond.fieldLink "RateBreaks" 57 "RateBreaks$Text" "length" "I" ∈ lw_tbl := List.mem_of_getElem? (i := 53) (by decide +kernel)
theorem gw_54 : Cond.fieldLink "RateBreaks$Text" 22 "RateBreaks$Text" "place" "I" ∈ lw_tbl := List.mem_of_getElem? (i := 54) (by decide +kernel)
theorem gw_64 : Cond.arrayClass FieldType.int ∈ lw_tbl := List.mem_of_getElem? (i := 64) (by decide +kernel)
theorem gw_65 : Cond.classLink "RateBreaks" 16 "RateBreaks$Rates" ∈ lw_tbl := List.mem_of_getElem? (i := 65) (by decide +kernel)
theorem gw_66 : Cond.instantiable "RateBreaks$Rates" 10 ∈ lw_tbl := List.mem_of_getElem? (i := 66) (by decide +kernel)
theorem gw_67 : Cond.methodLink "RateBreaks" 18 ⟨"RateBreaks$Rates", "<init>", "()V"⟩ ∈ lw_tbl := List.mem_of_getElem? (i := 67) (by decide +kernel)
theorem gw_68 : Cond.instanceMethod ⟨"RateBreaks$Rates", "<init>", "()V"⟩ ∈ lw_tbl := List.mem_of_getElem? (i := 68) (by decide +kernel)
theorem gw_69 : Cond.code ⟨"RateBreaks$Rates", "<init>", "()V"⟩ prog_2_method_1_code 1 (Option.none : Option Jvm.ClassFile.FieldType) ∈ lw_tbl := List.mem_of_getElem? (i := 69) (by decide +kernel)
theorem gw_70 : Cond.methodLink "RateBreaks$Rates" 3 ⟨"java/lang/Object", "<init>", "()V"⟩ ∈ lw_tbl := List.mem_of_getElem? (i := 70) (by decide +kernel)
theorem gw_71 : Cond.methodLink "RateBreaks$Rates" 36 ⟨"RateBreaks$Rates", "clear", "()V"⟩ ∈ lw_tbl := List.mem_of_getElem? (i := 71) (by decide +kernel)
theorem gw_72 : Cond.instanceMethod ⟨"RateBreaks$Rates", "clear", "()V"⟩ ∈ lw_tbl := List.mem_of_getElem? (i := 72) (by decide +kernel)
theorem gw_73 : Cond.selects "RateBreaks$Rates" ⟨"RateBreaks$Rates", "clear", "()V"⟩ ⟨"RateBreaks$Rates", "clear", "()V"⟩ ∈ lw_tbl := List.mem_of_getElem? (i := 73) (by decide +kernel)
theorem gw_74 : Cond.code ⟨"RateBreaks$Rates", "clear", "()V"⟩ prog_2_method_2_code 2 (Option.none : Option Jvm.ClassFile.FieldType) ∈ lw_tbl := List.mem_of_getElem? (i := 74) (by decide +kernel)
theorem gw_75 : Cond.fieldLink "RateBreaks$Rates" 9 "RateBreaks$Rates" "lanes" "[I" ∈ lw_tbl := List.mem_of_getElem? (i := 75) (by decide +kernel)
theorem gw_76 : Cond.fieldLink "RateBreaks$Rates" 15 "RateBreaks$Rates" "above" "[I" ∈ lw_tbl := List.mem_of_getElem? (i := 76) (by decide +kernel)
theorem gw_77 : Cond.fieldLink "RateBreaks$Rates" 18 "RateBreaks$Rates" "upTo" "[I" ∈ lw_tbl := List.mem_of_getElem? (i := 77) (by decide +kernel)
theorem gw_78 : Cond.fieldLink "RateBreaks$Rates" 21 "RateBreaks$Rates" "cents" "[I" ∈ lw_tbl := List.mem_of_getElem? (i := 78) (by decide +kernel)
theorem gw_79 : Cond.fieldLink "RateBreaks$Rates" 24 "RateBreaks$Rates" "divisors" "[I" ∈ lw_tbl := List.mem_of_getElem? (i := 79) (by decide +kernel)
theorem gw_80 : Cond.fieldLink "RateBreaks" 100 "RateBreaks$Rates" "divisors" "[I" ∈ lw_tbl := List.mem_of_getElem? (i := 80) (by decide +kernel)
theorem gw_81 : Cond.fieldLink "RateBreaks$Rates" 27 "RateBreaks$Rates" "minima" "[I" ∈ lw_tbl := List.mem_of_getElem? (i := 81) (by decide +kernel)
theorem gw_82 : Cond.fieldLink "RateBreaks$Rates" 30 "RateBreaks$Rates" "fuelUps" "[I" ∈ lw_tbl := List.mem_of_getElem? (i := 82) (by decide +kernel)
theorem gw_83 : Cond.fieldLink "RateBreaks$Rates" 33 "RateBreaks$Rates" "fuelDowns" "[I" ∈ lw_tbl := List.mem_of_getElem? (i := 83) (by decide +kernel)
theorem gw_84 : Cond.fieldLink "RateBreaks$Rates" 39 "RateBreaks$Rates" "lines" "I" ∈ lw_tbl := List.mem_of_getElem? (i := 84) (by decide +kernel)
theorem gw_85 : Cond.fieldLink "RateBreaks" 77 "RateBreaks$Rates" "lines" "I" ∈ lw_tbl := List.mem_of_getElem? (i := 85) (by decide +kernel)
theorem gw_86 : Cond.fieldLink "RateBreaks$Rates" 43 "RateBreaks$Rates" "steps" "I" ∈ lw_tbl := List.mem_of_getElem? (i := 86) (by decide +kernel)
theorem gw_108 : Cond.classLink "RateBreaks" 26 "RateBreaks$Shipment" ∈ lw_tbl := List.mem_of_getElem? (i := 108) (by decide +kernel)
theorem gw_109 : Cond.arrayOver (FieldType.object "RateBreaks$Shipment") ∈ lw_tbl := List.mem_of_getElem? (i := 109) (by decide +kernel)
theorem gw_110 : Cond.classLink "RateBreaks" 36 "RateBreaks$Ratios" ∈ lw_tbl := List.mem_of_getElem? (i := 110) (by decide +kernel)
theorem gw_111 : Cond.arrayOver (FieldType.object "RateBreaks$Ratios") ∈ lw_tbl := List.mem_of_getElem? (i := 111) (by decide +kernel)
theorem gw_112 : Cond.instantiable "RateBreaks$Ratios" 4 ∈ lw_tbl := List.mem_of_getElem? (i := 112) (by decide +kernel)
theorem gw_113 : Cond.methodLink "RateBreaks" 42 ⟨"RateBreaks$Ratios", "<init>", "(I)V"⟩ ∈ lw_tbl := List.mem_of_getElem? (i := 113) (by decide +kernel)
theorem gw_114 : Cond.instanceMethod ⟨"RateBreaks$Ratios", "<init>", "(I)V"⟩ ∈ lw_tbl := List.mem_of_getElem? (i := 114) (by decide +kernel)
theorem gw_115 : Cond.code ⟨"RateBreaks$Ratios", "<init>", "(I)V"⟩ prog_3_method_1_code 3 (Option.none : Option Jvm.ClassFile.FieldType) ∈ lw_tbl := List.mem_of_getElem? (i := 115) (by decide +kernel)
theorem gw_116 : Cond.methodLink "RateBreaks$Ratios" 3 ⟨"java/lang/Object", "<init>", "()V"⟩ ∈ lw_tbl := List.mem_of_getElem? (i := 116) (by decide +kernel)
theorem gw_117 : Cond.methodLink "RateBreaks$Ratios" 15 ⟨"java/lang/Math", "max", "(II)I"⟩ ∈ lw_tbl := List.mem_of_getElem? (i := 117) (by decide +kernel)
theorem gw_118 : Cond.static ⟨"java/lang/Math", "max", "(II)I"⟩ ∈ lw_tbl := List.mem_of_getElem? (i := 118) (by decide +kernel)
theorem gw_119 : Cond.code ⟨"java/lang/Math", "max", "(II)I"⟩ prog_12_method_65_code 2 (Option.some FieldType.int) ∈ lw_tbl := List.mem_of_getElem? (i := 119) (by decide +kernel)
theorem gw_120 : Cond.fieldLink "RateBreaks$Ratios" 21 "RateBreaks$Ratios" "froms" "[I" ∈ lw_tbl := List.mem_of_getElem? (i := 120) (by decide +kernel)
theorem gw_121 : Cond.fieldLink "RateBreaks$Ratios" 25 "RateBreaks$Ratios" "ups" "[I" ∈ lw_tbl := List.mem_of_getElem? (i := 121) (by decide +kernel)
theorem gw_122 : Cond.fieldLink "RateBreaks" 177 "RateBreaks$Ratios" "ups" "[I" ∈ lw_tbl := List.mem_of_getElem? (i := 122) (by decide +kernel)
theorem gw_123 : Cond.fieldLink "RateBreaks$Ratios" 28 "RateBreaks$Ratios" "downs" "[I" ∈ lw_tbl := List.mem_of_getElem? (i := 123) (by decide +kernel)
theorem gw_124 : Cond.fieldLink "RateBreaks" 180 "RateBreaks$Ratios" "downs" "[I" ∈ lw_tbl := List.mem_of_getElem? (i := 124) (by decide +kernel)
theorem gw_125 : Cond.fieldLink "RateBreaks$Ratios" 9 "RateBreaks$Ratios" "size" "I" ∈ lw_tbl := List.mem_of_getElem? (i := 125) (by decide +kernel)
theorem gw_126 : Cond.fieldLink "RateBreaks" 124 "RateBreaks$Ratios" "size" "I" ∈ lw_tbl := List.mem_of_getElem? (i := 126) (by decide +kernel)
theorem gw_136 : Cond.fieldLink "RateBreaks" 10 "RateBreaks" "text" "LRateBreaks$Text;" ∈ lw_tbl := List.mem_of_getElem? (i := 136) (by decide +kernel)
theorem gw_137 : Cond.fieldLink "RateBreaks" 19 "RateBreaks" "rates" "LRateBreaks$Rates;" ∈ lw_tbl := List.mem_of_getElem? (i := 137) (by decide +kernel)
theorem gw_138 : Cond.fieldLink "RateBreaks" 23 "RateBreaks" "draft" "LRateBreaks$Rates;" ∈ lw_tbl := List.mem_of_getElem? (i := 138) (by decide +kernel)
theorem gw_139 : Cond.fieldLink "RateBreaks" 28 "RateBreaks" "shipments" "[LRateBreaks$Shipment;" ∈ lw_tbl := List.mem_of_getElem? (i := 139) (by decide +kernel)
theorem gw_140 : Cond.fieldLink "RateBreaks" 32 "RateBreaks" "made" "I" ∈ lw_tbl := List.mem_of_getElem? (i := 140) (by decide +kernel)
theorem gw_141 : Cond.fieldLink "RateBreaks" 38 "RateBreaks" "contracts" "[LRateBreaks$Ratios;" ∈ lw_tbl := List.mem_of_getElem? (i := 141) (by decide +kernel)
theorem gw_142 : Cond.fieldLink "RateBreaks" 45 "RateBreaks" "bookedBy" "[I" ∈ lw_tbl := List.mem_of_getElem? (i := 142) (by decide +kernel)
theorem gw_143 : Cond.fieldLink "RateBreaks" 49 "RateBreaks" "currencies" "LRateBreaks$Ratios;" ∈ lw_tbl := List.mem_of_getElem? (i := 143) (by decide +kernel)
theorem gw_161 : Cond.methodLink "RateBreaksLaw" 83 ⟨"RateBreaks", "read", "()I"⟩ ∈ lw_tbl := List.mem_of_getElem? (i := 161) (by decide +kernel)
theorem gw_162 : Cond.instanceMethod ⟨"RateBreaks", "read", "()I"⟩ ∈ lw_tbl := List.mem_of_getElem? (i := 162) (by decide +kernel)
theorem gw_163 : Cond.selects "RateBreaks" ⟨"RateBreaks", "read", "()I"⟩ ⟨"RateBreaks", "read", "()I"⟩ ∈ lw_tbl := List.mem_of_getElem? (i := 163) (by decide +kernel)
theorem gw_164 : Cond.code ⟨"RateBreaks", "read", "()I"⟩ prog_1_method_3_code 3 (Option.some FieldType.int) ∈ lw_tbl := List.mem_of_getElem? (i := 164) (by decide +kernel)
theorem gw_165 : Cond.methodLink "RateBreaks" 70 ⟨"RateBreaks", "readInto", "(LRateBreaks$Rates;)I"⟩ ∈ lw_tbl := List.mem_of_getElem? (i := 165) (by decide +kernel)
theorem gw_167 : Cond.instanceMethod ⟨"RateBreaks", "readInto", "(LRateBreaks$Rates;)I"⟩ ∈ lw_tbl := List.mem_of_getElem? (i := 167) (by decide +kernel)
theorem gw_168 : Cond.code ⟨"RateBreaks", "readInto", "(LRateBreaks$Rates;)I"⟩ prog_1_method_24_code 5 (Option.some FieldType.int) ∈ lw_tbl := List.mem_of_getElem? (i := 168) (by decide +kernel)
theorem gw_169 : Cond.methodLink "RateBreaks" 207 ⟨"RateBreaks$Rates", "clear", "()V"⟩ ∈ lw_tbl := List.mem_of_getElem? (i := 169) (by decide +kernel)
theorem gw_170 : Cond.methodLink "RateBreaks" 208 ⟨"RateBreaks$Text", "behindLine", "(I)I"⟩ ∈ lw_tbl := List.mem_of_getElem? (i := 170) (by decide +kernel)
theorem gw_171 : Cond.instanceMethod ⟨"RateBreaks$Text", "behindLine", "(I)I"⟩ ∈ lw_tbl := List.mem_of_getElem? (i := 171) (by decide +kernel)
theorem gw_172 : Cond.selects "RateBreaks$Text" ⟨"RateBreaks$Text", "behindLine", "(I)I"⟩ ⟨"RateBreaks$Text", "behindLine", "(I)I"⟩ ∈ lw_tbl := List.mem_of_getElem? (i := 172) (by decide +kernel)
theorem gw_173 : Cond.code ⟨"RateBreaks$Text", "behindLine", "(I)I"⟩ prog_5_method_5_code 4 (Option.some FieldType.int) ∈ lw_tbl := List.mem_of_getElem? (i := 173) (by decide +kernel)
theorem gw_174 : Cond.methodLink "RateBreaks$Text" 25 ⟨"RateBreaks$Text", "at", "(I)I"⟩ ∈ lw_tbl := List.mem_of_getElem? (i := 174) (by decide +kernel)
theorem gw_175 : Cond.instanceMethod ⟨"RateBreaks$Text", "at", "(I)I"⟩ ∈ lw_tbl := List.mem_of_getElem? (i := 175) (by decide +kernel)
theorem gw_176 : Cond.selects "RateBreaks$Text" ⟨"RateBreaks$Text", "at", "(I)I"⟩ ⟨"RateBreaks$Text", "at", "(I)I"⟩ ∈ lw_tbl := List.mem_of_getElem? (i := 176) (by decide +kernel)
theorem gw_177 : Cond.code ⟨"RateBreaks$Text", "at", "(I)I"⟩ prog_5_method_4_code 2 (Option.some FieldType.int) ∈ lw_tbl := List.mem_of_getElem? (i := 177) (by decide +kernel)
theorem gw_178 : Cond.methodLink "RateBreaks$Text" 29 ⟨"RateBreaks$Text", "numbersBehind", "(I)I"⟩ ∈ lw_tbl := List.mem_of_getElem? (i := 178) (by decide +kernel)
theorem gw_179 : Cond.static ⟨"RateBreaks$Text", "numbersBehind", "(I)I"⟩ ∈ lw_tbl := List.mem_of_getElem? (i := 179) (by decide +kernel)
theorem gw_180 : Cond.code ⟨"RateBreaks$Text", "numbersBehind", "(I)I"⟩ prog_5_method_6_code 1 (Option.some FieldType.int) ∈ lw_tbl := List.mem_of_getElem? (i := 180) (by decide +kernel)
theorem gw_181 : Cond.methodLink "RateBreaks$Text" 32 ⟨"RateBreaks$Text", "takeNumber", "()I"⟩ ∈ lw_tbl := List.mem_of_getElem? (i := 181) (by decide +kernel)
theorem gw_183 : Cond.instanceMethod ⟨"RateBreaks$Text", "takeNumber", "()I"⟩ ∈ lw_tbl := List.mem_of_getElem? (i := 183) (by decide +kernel)
theorem gw_184 : Cond.code ⟨"RateBreaks$Text", "takeNumber", "()I"⟩ prog_5_method_7_code 5 (Option.some FieldType.int) ∈ lw_tbl := List.mem_of_getElem? (i := 184) (by decide +kernel)
theorem gw_185 : Cond.methodLink "RateBreaks$Text" 36 ⟨"RateBreaks$Text", "isDigit", "(I)Z"⟩ ∈ lw_tbl := List.mem_of_getElem? (i := 185) (by decide +kernel)
theorem gw_186 : Cond.static ⟨"RateBreaks$Text", "isDigit", "(I)Z"⟩ ∈ lw_tbl := List.mem_of_getElem? (i := 186) (by decide +kernel)
theorem gw_187 : Cond.code ⟨"RateBreaks$Text", "isDigit", "(I)Z"⟩ prog_5_method_8_code 1 (Option.some FieldType.boolean) ∈ lw_tbl := List.mem_of_getElem? (i := 187) (by decide +kernel)
theorem gw_188 : Cond.methodLink "RateBreaks" 211 ⟨"RateBreaks$Text", "at", "(I)I"⟩ ∈ lw_tbl := List.mem_of_getElem? (i := 188) (by decide +kernel)
theorem gw_189 : Cond.methodLink "RateBreaks" 217 ⟨"RateBreaks$Rates", "take", "(I[I)Z"⟩ ∈ lw_tbl := List.mem_of_getElem? (i := 189) (by decide +kernel)
theorem gw_190 : Cond.instanceMethod ⟨"RateBreaks$Rates", "take", "(I[I)Z"⟩ ∈ lw_tbl := List.mem_of_getElem? (i := 190) (by decide +kernel)
theorem gw_191 : Cond.selects "RateBreaks$Rates" ⟨"RateBreaks$Rates", "take", "(I[I)Z"⟩ ⟨"RateBreaks$Rates", "take", "(I[I)Z"⟩ ∈ lw_tbl := List.mem_of_getElem? (i := 191) (by decide +kernel)
theorem gw_192 : Cond.code ⟨"RateBreaks$Rates", "take", "(I[I)Z"⟩ prog_2_method_3_code 3 (Option.some FieldType.boolean) ∈ lw_tbl := List.mem_of_getElem? (i := 192) (by decide +kernel)
theorem gw_193 : Cond.methodLink "RateBreaks$Rates" 46 ⟨"RateBreaks$Rates", "takeKind", "(I[I)Z"⟩ ∈ lw_tbl := List.mem_of_getElem? (i := 193) (by decide +kernel)
theorem gw_195 : Cond.instanceMethod ⟨"RateBreaks$Rates", "takeKind", "(I[I)Z"⟩ ∈ lw_tbl := List.mem_of_getElem? (i := 195) (by decide +kernel)
theorem gw_196 : Cond.code ⟨"RateBreaks$Rates", "takeKind", "(I[I)Z"⟩ prog_2_method_4_code 4 (Option.some FieldType.boolean) ∈ lw_tbl := List.mem_of_getElem? (i := 196) (by decide +kernel)
theorem gw_197 : Cond.methodLink "RateBreaks$Rates" 50 ⟨"RateBreaks$Rates", "takeStep", "(IIII)Z"⟩ ∈ lw_tbl := List.mem_of_getElem? (i := 197) (by decide +kernel)
theorem gw_199 : Cond.instanceMethod ⟨"RateBreaks$Rates", "takeStep", "(IIII)Z"⟩ ∈ lw_tbl := List.mem_of_getElem? (i := 199) (by decide +kernel)
theorem gw_200 : Cond.code ⟨"RateBreaks$Rates", "takeStep", "(IIII)Z"⟩ prog_2_method_6_code 7 (Option.some FieldType.boolean) ∈ lw_tbl := List.mem_of_getElem? (i := 200) (by decide +kernel)
theorem gw_201 : Cond.constant "RateBreaks$Rates" 54 (100000 : Int32) ∈ lw_tbl := List.mem_of_getElem? (i := 201) (by decide +kernel)
theorem gw_202 : Cond.constant "RateBreaks$Rates" 59 (1000000 : Int32) ∈ lw_tbl := List.mem_of_getElem? (i := 202) (by decide +kernel)
theorem gw_203 : Cond.methodLinkNest "RateBreaks$Rates" 60 ⟨"RateBreaks", "laneOf", "(II)I"⟩ "RateBreaks" ∈ lw_tbl := List.mem_of_getElem? (i := 203) (by decide +kernel)
theorem gw_204 : Cond.static ⟨"RateBreaks", "laneOf", "(II)I"⟩ ∈ lw_tbl := List.mem_of_getElem? (i := 204) (by decide +kernel)
theorem gw_205 : Cond.code ⟨"RateBreaks", "laneOf", "(II)I"⟩ prog_1_method_26_code 2 (Option.some FieldType.int) ∈ lw_tbl := List.mem_of_getElem? (i := 205) (by decide +kernel)
theorem gw_206 : Cond.methodLink "RateBreaks$Rates" 64 ⟨"RateBreaks$Rates", "heaviest", "(I)I"⟩ ∈ lw_tbl := List.mem_of_getElem? (i := 206) (by decide +kernel)
theorem gw_208 : Cond.instanceMethod ⟨"RateBreaks$Rates", "heaviest", "(I)I"⟩ ∈ lw_tbl := List.mem_of_getElem? (i := 208) (by decide +kernel)
theorem gw_209 : Cond.code ⟨"RateBreaks$Rates", "heaviest", "(I)I"⟩ prog_2_method_7_code 4 (Option.some FieldType.int) ∈ lw_tbl := List.mem_of_getElem? (i := 209) (by decide +kernel)
theorem gw_210 : Cond.methodLink "RateBreaks$Rates" 55 ⟨"RateBreaks$Rates", "takeOnce", "([IIII)Z"⟩ ∈ lw_tbl := List.mem_of_getElem? (i := 210) (by decide +kernel)
theorem gw_211 : Cond.static ⟨"RateBreaks$Rates", "takeOnce", "([IIII)Z"⟩ ∈ lw_tbl := List.mem_of_getElem? (i := 211) (by decide +kernel)
theorem gw_212 : Cond.code ⟨"RateBreaks$Rates", "takeOnce", "([IIII)Z"⟩ prog_2_method_5_code 4 (Option.some FieldType.boolean) ∈ lw_tbl := List.mem_of_getElem? (i := 212) (by decide +kernel)
theorem gw_213 : Cond.methodLink "RateBreaks" 74 ⟨"RateBreaks$Text", "clear", "()V"⟩ ∈ lw_tbl := List.mem_of_getElem? (i := 213) (by decide +kernel)
theorem gw_214 : Cond.instanceMethod ⟨"RateBreaks$Text", "clear", "()V"⟩ ∈ lw_tbl := List.mem_of_getElem? (i := 214) (by decide +kernel)
theorem gw_215 : Cond.selects "RateBreaks$Text" ⟨"RateBreaks$Text", "clear", "()V"⟩ ⟨"RateBreaks$Text", "clear", "()V"⟩ ∈ lw_tbl := List.mem_of_getElem? (i := 215) (by decide +kernel)
theorem gw_216 : Cond.code ⟨"RateBreaks$Text", "clear", "()V"⟩ prog_5_method_2_code 1 (Option.none : Option Jvm.ClassFile.FieldType) ∈ lw_tbl := List.mem_of_getElem? (i := 216) (by decide +kernel)
theorem gw_217 : Cond.methodLink "RateBreaksLaw" 132 ⟨"RateBreaks", "count", "(I)I"⟩ ∈ lw_tbl := List.mem_of_getElem? (i := 217) (by decide +kernel)
theorem gw_218 : Cond.instanceMethod ⟨"RateBreaks", "count", "(I)I"⟩ ∈ lw_tbl := List.mem_of_getElem? (i := 218) (by decide +kernel)
theorem gw_219 : Cond.selects "RateBreaks" ⟨"RateBreaks", "count", "(I)I"⟩ ⟨"RateBreaks", "count", "(I)I"⟩ ∈ lw_tbl := List.mem_of_getElem? (i := 219) (by decide +kernel)
theorem gw_220 : Cond.code ⟨"RateBreaks", "count", "(I)I"⟩ prog_1_method_18_code 5 (Option.some FieldType.int) ∈ lw_tbl := List.mem_of_getElem? (i := 220) (by decide +kernel)
theorem gw_221 : Cond.methodLink "RateBreaks" 189 ⟨"RateBreaks", "addend", "(LRateBreaks$Shipment;I)I"⟩ ∈ lw_tbl := List.mem_of_getElem? (i := 221) (by decide +kernel)
theorem gw_222 : Cond.static ⟨"RateBreaks", "addend", "(LRateBreaks$Shipment;I)I"⟩ ∈ lw_tbl := List.mem_of_getElem? (i := 222) (by decide +kernel)
theorem gw_223 : Cond.code ⟨"RateBreaks", "addend", "(LRateBreaks$Shipment;I)I"⟩ prog_1_method_19_code 2 (Option.some FieldType.int) ∈ lw_tbl := List.mem_of_getElem? (i := 223) (by decide +kernel)
theorem gw_224 : Cond.methodLink "RateBreaks" 127 ⟨"RateBreaks$Shipment", "isBooked", "()Z"⟩ ∈ lw_tbl := List.mem_of_getElem? (i := 224) (by decide +kernel)
theorem gw_225 : Cond.instanceMethod ⟨"RateBreaks$Shipment", "isBooked", "()Z"⟩ ∈ lw_tbl := List.mem_of_getElem? (i := 225) (by decide +kernel)
theorem gw_226 : Cond.selects "RateBreaks$Shipment" ⟨"RateBreaks$Shipment", "isBooked", "()Z"⟩ ⟨"RateBreaks$Shipment", "isBooked", "()Z"⟩ ∈ lw_tbl := List.mem_of_getElem? (i := 226) (by decide +kernel)
theorem gw_227 : Cond.code ⟨"RateBreaks$Shipment", "isBooked", "()Z"⟩ prog_4_method_2_code 1 (Option.some FieldType.boolean) ∈ lw_tbl := List.mem_of_getElem? (i := 227) (by decide +kernel)
theorem gw_228 : Cond.methodLink "RateBreaks" 156 ⟨"RateBreaks$Shipment", "isInvoiced", "()Z"⟩ ∈ lw_tbl := List.mem_of_getElem? (i := 228) (by decide +kernel)
theorem gw_229 : Cond.instanceMethod ⟨"RateBreaks$Shipment", "isInvoiced", "()Z"⟩ ∈ lw_tbl := List.mem_of_getElem? (i := 229) (by decide +kernel)
theorem gw_230 : Cond.selects "RateBreaks$Shipment" ⟨"RateBreaks$Shipment", "isInvoiced", "()Z"⟩ ⟨"RateBreaks$Shipment", "isInvoiced", "()Z"⟩ ∈ lw_tbl := List.mem_of_getElem? (i := 230) (by decide +kernel)
theorem gw_231 : Cond.code ⟨"RateBreaks$Shipment", "isInvoiced", "()Z"⟩ prog_4_method_3_code 1 (Option.some FieldType.boolean) ∈ lw_tbl := List.mem_of_getElem? (i := 231) (by decide +kernel)
theorem gw_232 : Cond.methodLink "RateBreaksLaw" 73 ⟨"RateBreaksLaw", "sign", "(LRateBreaks;I[J)I"⟩ ∈ lw_tbl := List.mem_of_getElem? (i := 232) (by decide +kernel)
theorem gw_233 : Cond.static ⟨"RateBreaksLaw", "sign", "(LRateBreaks;I[J)I"⟩ ∈ lw_tbl := List.mem_of_getElem? (i := 233) (by decide +kernel)
theorem gw_234 : Cond.codeWith ⟨"RateBreaksLaw", "sign", "(LRateBreaks;I[J)I"⟩ method_3_code 4 (Option.some FieldType.int) [(0, 9, 12, 13), (0, 9, 15, 15)] ∈ lw_tbl := List.mem_of_getElem? (i := 234) (by decide +kernel)
theorem gw_235 : Cond.classLink "RateBreaksLaw" 13 "java/lang/IllegalArgumentException" ∈ lw_tbl := List.mem_of_getElem? (i := 235) (by decide +kernel)
theorem gw_236 : Cond.classLink "RateBreaksLaw" 15 "java/lang/UnsupportedOperationException" ∈ lw_tbl := List.mem_of_getElem? (i := 236) (by decide +kernel)
theorem gw_237 : Cond.methodLink "RateBreaksLaw" 7 ⟨"RateBreaks", "sign", "(I)I"⟩ ∈ lw_tbl := List.mem_of_getElem? (i := 237) (by decide +kernel)
theorem gw_238 : Cond.instanceMethod ⟨"RateBreaks", "sign", "(I)I"⟩ ∈ lw_tbl := List.mem_of_getElem? (i := 238) (by decide +kernel)
theorem gw_239 : Cond.selects "RateBreaks" ⟨"RateBreaks", "sign", "(I)I"⟩ ⟨"RateBreaks", "sign", "(I)I"⟩ ∈ lw_tbl := List.mem_of_getElem? (i := 239) (by decide +kernel)
theorem gw_240 : Cond.code ⟨"RateBreaks", "sign", "(I)I"⟩ prog_1_method_2_code 2 (Option.some FieldType.int) ∈ lw_tbl := List.mem_of_getElem? (i := 240) (by decide +kernel)
theorem gw_241 : Cond.methodLink "RateBreaks" 53 ⟨"RateBreaks", "needWithin", "(III)V"⟩ ∈ lw_tbl := List.mem_of_getElem? (i := 241) (by decide +kernel)
theorem gw_242 : Cond.static ⟨"RateBreaks", "needWithin", "(III)V"⟩ ∈ lw_tbl := List.mem_of_getElem? (i := 242) (by decide +kernel)
theorem gw_243 : Cond.code ⟨"RateBreaks", "needWithin", "(III)V"⟩ prog_1_method_20_code 3 (Option.none : Option Jvm.ClassFile.FieldType) ∈ lw_tbl := List.mem_of_getElem? (i := 243) (by decide +kernel)
theorem gw_244 : Cond.classLink "RateBreaks" 166 "java/lang/IllegalArgumentException" ∈ lw_tbl := List.mem_of_getElem? (i := 244) (by decide +kernel)
theorem gw_245 : Cond.instantiable "java/lang/IllegalArgumentException" 6 ∈ lw_tbl := List.mem_of_getElem? (i := 245) (by decide +kernel)
theorem gw_246 : Cond.castable "java/lang/IllegalArgumentException" "java/lang/IllegalArgumentException" ∈ lw_tbl := List.mem_of_getElem? (i := 246) (by decide +kernel)
theorem gw_268 : Cond.code ⟨"java/lang/Throwable", "<init>", "()V"⟩ prog_15_method_1_code 1 (Option.none : Option Jvm.ClassFile.FieldType) ∈ lw_tbl := List.mem_of_getElem? (i := 268) (by decide +kernel)
theorem gw_285 : Cond.instantiable "java/lang/Throwable" 6 ∈ lw_tbl := List.mem_of_getElem? (i := 285) (by decide +kernel)
theorem gw_287 : Cond.stringRef "RateBreaks" 192 "a number is outside its range" ∈ lw_tbl := List.mem_of_getElem? (i := 287) (by decide +kernel)
theorem gw_288 : Cond.methodLink "RateBreaks" 170 ⟨"java/lang/IllegalArgumentException", "<init>", "(Ljava/lang/String;)V"⟩ ∈ lw_tbl := List.mem_of_getElem? (i := 288) (by decide +kernel)
theorem gw_289 : Cond.instanceMethod ⟨"java/lang/IllegalArgumentException", "<init>", "(Ljava/lang/String;)V"⟩ ∈ lw_tbl := List.mem_of_getElem? (i := 289) (by decide +kernel)
theorem gw_290 : Cond.code ⟨"java/lang/IllegalArgumentException", "<init>", "(Ljava/lang/String;)V"⟩ prog_10_method_2_code 2 (Option.none : Option Jvm.ClassFile.FieldType) ∈ lw_tbl := List.mem_of_getElem? (i := 290) (by decide +kernel)
theorem gw_293 : Cond.code ⟨"java/lang/RuntimeException", "<init>", "(Ljava/lang/String;)V"⟩ prog_13_method_2_code 2 (Option.none : Option Jvm.ClassFile.FieldType) ∈ lw_tbl := List.mem_of_getElem? (i := 293) (by decide +kernel)
theorem gw_296 : Cond.code ⟨"java/lang/Exception", "<init>", "(Ljava/lang/String;)V"⟩ prog_9_method_2_code 2 (Option.none : Option Jvm.ClassFile.FieldType) ∈ lw_tbl := List.mem_of_getElem? (i := 296) (by decide +kernel)
theorem gw_299 : Cond.code ⟨"java/lang/Throwable", "<init>", "(Ljava/lang/String;)V"⟩ prog_15_method_2_code 2 (Option.none : Option Jvm.ClassFile.FieldType) ∈ lw_tbl := List.mem_of_getElem? (i := 299) (by decide +kernel)
theorem gw_313 : Cond.arrayClass FieldType.byte ∈ lw_tbl := List.mem_of_getElem? (i := 313) (by decide +kernel)
theorem gw_314 : Cond.classLink "RateBreaks" 60 "java/lang/UnsupportedOperationException" ∈ lw_tbl := List.mem_of_getElem? (i := 314) (by decide +kernel)
theorem gw_315 : Cond.instantiable "java/lang/UnsupportedOperationException" 6 ∈ lw_tbl := List.mem_of_getElem? (i := 315) (by decide +kernel)
theorem gw_316 : Cond.castable "java/lang/UnsupportedOperationException" "java/lang/UnsupportedOperationException" ∈ lw_tbl := List.mem_of_getElem? (i := 316) (by decide +kernel)
theorem gw_323 : Cond.stringRef "RateBreaks" 62 "the text is full" ∈ lw_tbl := List.mem_of_getElem? (i := 323) (by decide +kernel)
theorem gw_324 : Cond.methodLink "RateBreaks" 64 ⟨"java/lang/UnsupportedOperationException", "<init>", "(Ljava/lang/String;)V"⟩ ∈ lw_tbl := List.mem_of_getElem? (i := 324) (by decide +kernel)
theorem gw_325 : Cond.instanceMethod ⟨"java/lang/UnsupportedOperationException", "<init>", "(Ljava/lang/String;)V"⟩ ∈ lw_tbl := List.mem_of_getElem? (i := 325) (by decide +kernel)
theorem gw_326 : Cond.code ⟨"java/lang/UnsupportedOperationException", "<init>", "(Ljava/lang/String;)V"⟩ prog_16_method_2_code 2 (Option.none : Option Jvm.ClassFile.FieldType) ∈ lw_tbl := List.mem_of_getElem? (i := 326) (by decide +kernel)
theorem gw_330 : Cond.methodLink "RateBreaks" 67 ⟨"RateBreaks$Text", "append", "(I)V"⟩ ∈ lw_tbl := List.mem_of_getElem? (i := 330) (by decide +kernel)
theorem gw_331 : Cond.instanceMethod ⟨"RateBreaks$Text", "append", "(I)V"⟩ ∈ lw_tbl := List.mem_of_getElem? (i := 331) (by decide +kernel)
theorem gw_332 : Cond.selects "RateBreaks$Text" ⟨"RateBreaks$Text", "append", "(I)V"⟩ ⟨"RateBreaks$Text", "append", "(I)V"⟩ ∈ lw_tbl := List.mem_of_getElem? (i := 332) (by decide +kernel)
theorem gw_333 : Cond.code ⟨"RateBreaks$Text", "append", "(I)V"⟩ prog_5_method_3_code 2 (Option.none : Option Jvm.ClassFile.FieldType) ∈ lw_tbl := List.mem_of_getElem? (i := 333) (by decide +kernel)
theorem gw_334 : Cond.methodLink "RateBreaksLaw" 87 ⟨"RateBreaksLaw", "shipment", "(LRateBreaks;III[J)I"⟩ ∈ lw_tbl := List.mem_of_getElem? (i := 334) (by decide +kernel)
theorem gw_335 : Cond.static ⟨"RateBreaksLaw", "shipment", "(LRateBreaks;III[J)I"⟩ ∈ lw_tbl := List.mem_of_getElem? (i := 335) (by decide +kernel)
theorem gw_336 : Cond.codeWith ⟨"RateBreaksLaw", "shipment", "(LRateBreaks;III[J)I"⟩ method_4_code 6 (Option.some FieldType.int) [(0, 12, 15, 13), (0, 12, 19, 15)] ∈ lw_tbl := List.mem_of_getElem? (i := 336) (by decide +kernel)
theorem gw_337 : Cond.methodLink "RateBreaksLaw" 17 ⟨"RateBreaks", "shipment", "(III)I"⟩ ∈ lw_tbl := List.mem_of_getElem? (i := 337) (by decide +kernel)
theorem gw_338 : Cond.instanceMethod ⟨"RateBreaks", "shipment", "(III)I"⟩ ∈ lw_tbl := List.mem_of_getElem? (i := 338) (by decide +kernel)
theorem gw_339 : Cond.selects "RateBreaks" ⟨"RateBreaks", "shipment", "(III)I"⟩ ⟨"RateBreaks", "shipment", "(III)I"⟩ ∈ lw_tbl := List.mem_of_getElem? (i := 339) (by decide +kernel)
theorem gw_340 : Cond.code ⟨"RateBreaks", "shipment", "(III)I"⟩ prog_1_method_4_code 4 (Option.some FieldType.int) ∈ lw_tbl := List.mem_of_getElem? (i := 340) (by decide +kernel)
theorem gw_341 : Cond.constant "RateBreaks" 80 (100000 : Int32) ∈ lw_tbl := List.mem_of_getElem? (i := 341) (by decide +kernel)
theorem gw_342 : Cond.constant "RateBreaks" 81 (100000000 : Int32) ∈ lw_tbl := List.mem_of_getElem? (i := 342) (by decide +kernel)
theorem gw_343 : Cond.stringRef "RateBreaks" 82 "no room for a shipment" ∈ lw_tbl := List.mem_of_getElem? (i := 343) (by decide +kernel)
theorem gw_344 : Cond.instantiable "RateBreaks$Shipment" 6 ∈ lw_tbl := List.mem_of_getElem? (i := 344) (by decide +kernel)
theorem gw_345 : Cond.methodLink "RateBreaks" 84 ⟨"RateBreaks$Shipment", "<init>", "(III)V"⟩ ∈ lw_tbl := List.mem_of_getElem? (i := 345) (by decide +kernel)
theorem gw_346 : Cond.instanceMethod ⟨"RateBreaks$Shipment", "<init>", "(III)V"⟩ ∈ lw_tbl := List.mem_of_getElem? (i := 346) (by decide +kernel)
theorem gw_347 : Cond.code ⟨"RateBreaks$Shipment", "<init>", "(III)V"⟩ prog_4_method_1_code 4 (Option.none : Option Jvm.ClassFile.FieldType) ∈ lw_tbl := List.mem_of_getElem? (i := 347) (by decide +kernel)
theorem gw_348 : Cond.methodLink "RateBreaks$Shipment" 3 ⟨"java/lang/Object", "<init>", "()V"⟩ ∈ lw_tbl := List.mem_of_getElem? (i := 348) (by decide +kernel)
theorem gw_349 : Cond.fieldLink "RateBreaks$Shipment" 21 "RateBreaks$Shipment" "zone" "I" ∈ lw_tbl := List.mem_of_getElem? (i := 349) (by decide +kernel)
theorem gw_350 : Cond.fieldLink "RateBreaks" 103 "RateBreaks$Shipment" "zone" "I" ∈ lw_tbl := List.mem_of_getElem? (i := 350) (by decide +kernel)
theorem gw_351 : Cond.fieldLink "RateBreaks$Shipment" 24 "RateBreaks$Shipment" "grams" "I" ∈ lw_tbl := List.mem_of_getElem? (i := 351) (by decide +kernel)
theorem gw_352 : Cond.fieldLink "RateBreaks$Rates" 68 "RateBreaks$Shipment" "grams" "I" ∈ lw_tbl := List.mem_of_getElem? (i := 352) (by decide +kernel)
theorem gw_353 : Cond.fieldLink "RateBreaks" 110 "RateBreaks$Shipment" "grams" "I" ∈ lw_tbl := List.mem_of_getElem? (i := 353) (by decide +kernel)
theorem gw_354 : Cond.fieldLink "RateBreaks$Shipment" 27 "RateBreaks$Shipment" "volume" "I" ∈ lw_tbl := List.mem_of_getElem? (i := 354) (by decide +kernel)
theorem gw_355 : Cond.fieldLink "RateBreaks$Rates" 73 "RateBreaks$Shipment" "volume" "I" ∈ lw_tbl := List.mem_of_getElem? (i := 355) (by decide +kernel)
theorem gw_356 : Cond.fieldLink "RateBreaks" 150 "RateBreaks$Shipment" "volume" "I" ∈ lw_tbl := List.mem_of_getElem? (i := 356) (by decide +kernel)
theorem gw_357 : Cond.fieldLink "RateBreaks$Shipment" 9 "RateBreaks$Shipment" "service" "I" ∈ lw_tbl := List.mem_of_getElem? (i := 357) (by decide +kernel)
theorem gw_358 : Cond.fieldLink "RateBreaks" 138 "RateBreaks$Shipment" "service" "I" ∈ lw_tbl := List.mem_of_getElem? (i := 358) (by decide +kernel)
theorem gw_359 : Cond.fieldLink "RateBreaks$Shipment" 15 "RateBreaks$Shipment" "cents" "I" ∈ lw_tbl := List.mem_of_getElem? (i := 359) (by decide +kernel)
theorem gw_360 : Cond.fieldLink "RateBreaks" 141 "RateBreaks$Shipment" "cents" "I" ∈ lw_tbl := List.mem_of_getElem? (i := 360) (by decide +kernel)
theorem gw_361 : Cond.fieldLink "RateBreaks$Shipment" 18 "RateBreaks$Shipment" "left" "I" ∈ lw_tbl := List.mem_of_getElem? (i := 361) (by decide +kernel)
theorem gw_362 : Cond.fieldLink "RateBreaks" 161 "RateBreaks$Shipment" "left" "I" ∈ lw_tbl := List.mem_of_getElem? (i := 362) (by decide +kernel)
theorem gw_376 : Cond.methodLink "RateBreaksLaw" 91 ⟨"RateBreaksLaw", "weight", "(LRateBreaks;II[J)I"⟩ ∈ lw_tbl := List.mem_of_getElem? (i := 376) (by decide +kernel)
theorem gw_377 : Cond.static ⟨"RateBreaksLaw", "weight", "(LRateBreaks;II[J)I"⟩ ∈ lw_tbl := List.mem_of_getElem? (i := 377) (by decide +kernel)
theorem gw_378 : Cond.codeWith ⟨"RateBreaksLaw", "weight", "(LRateBreaks;II[J)I"⟩ method_5_code 5 (Option.some FieldType.int) [(0, 10, 13, 25), (0, 10, 17, 13), (0, 10, 21, 27)] ∈ lw_tbl := List.mem_of_getElem? (i := 378) (by decide +kernel)
theorem gw_379 : Cond.classLink "RateBreaksLaw" 25 "java/util/NoSuchElementException" ∈ lw_tbl := List.mem_of_getElem? (i := 379) (by decide +kernel)
theorem gw_380 : Cond.classLink "RateBreaksLaw" 27 "java/lang/ArithmeticException" ∈ lw_tbl := List.mem_of_getElem? (i := 380) (by decide +kernel)
theorem gw_381 : Cond.methodLink "RateBreaksLaw" 21 ⟨"RateBreaks", "weight", "(II)I"⟩ ∈ lw_tbl := List.mem_of_getElem? (i := 381) (by decide +kernel)
theorem gw_382 : Cond.instanceMethod ⟨"RateBreaks", "weight", "(II)I"⟩ ∈ lw_tbl := List.mem_of_getElem? (i := 382) (by decide +kernel)
theorem gw_383 : Cond.selects "RateBreaks" ⟨"RateBreaks", "weight", "(II)I"⟩ ⟨"RateBreaks", "weight", "(II)I"⟩ ∈ lw_tbl := List.mem_of_getElem? (i := 383) (by decide +kernel)
theorem gw_384 : Cond.code ⟨"RateBreaks", "weight", "(II)I"⟩ prog_1_method_5_code 4 (Option.some FieldType.int) ∈ lw_tbl := List.mem_of_getElem? (i := 384) (by decide +kernel)
theorem gw_385 : Cond.methodLink "RateBreaks" 86 ⟨"RateBreaks", "present", "(I)LRateBreaks$Shipment;"⟩ ∈ lw_tbl := List.mem_of_getElem? (i := 385) (by decide +kernel)
theorem gw_387 : Cond.instanceMethod ⟨"RateBreaks", "present", "(I)LRateBreaks$Shipment;"⟩ ∈ lw_tbl := List.mem_of_getElem? (i := 387) (by decide +kernel)
theorem gw_388 : Cond.code ⟨"RateBreaks", "present", "(I)LRateBreaks$Shipment;"⟩ prog_1_method_23_code 3 (Option.some (FieldType.object "RateBreaks$Shipment")) ∈ lw_tbl := List.mem_of_getElem? (i := 388) (by decide +kernel)
theorem gw_389 : Cond.classLink "RateBreaks" 202 "java/util/NoSuchElementException" ∈ lw_tbl := List.mem_of_getElem? (i := 389) (by decide +kernel)
theorem gw_390 : Cond.instantiable "java/util/NoSuchElementException" 6 ∈ lw_tbl := List.mem_of_getElem? (i := 390) (by decide +kernel)
theorem gw_391 : Cond.castable "java/util/NoSuchElementException" "java/util/NoSuchElementException" ∈ lw_tbl := List.mem_of_getElem? (i := 391) (by decide +kernel)
theorem gw_398 : Cond.stringRef "RateBreaks" 204 "there is no such shipment" ∈ lw_tbl := List.mem_of_getElem? (i := 398) (by decide +kernel)
theorem gw_399 : Cond.methodLink "RateBreaks" 206 ⟨"java/util/NoSuchElementException", "<init>", "(Ljava/lang/String;)V"⟩ ∈ lw_tbl := List.mem_of_getElem? (i := 399) (by decide +kernel)
theorem gw_400 : Cond.instanceMethod ⟨"java/util/NoSuchElementException", "<init>", "(Ljava/lang/String;)V"⟩ ∈ lw_tbl := List.mem_of_getElem? (i := 400) (by decide +kernel)
theorem gw_401 : Cond.code ⟨"java/util/NoSuchElementException", "<init>", "(Ljava/lang/String;)V"⟩ prog_17_method_4_code 2 (Option.none : Option Jvm.ClassFile.FieldType) ∈ lw_tbl := List.mem_of_getElem? (i := 401) (by decide +kernel)
theorem gw_405 : Cond.methodLink "RateBreaks" 90 ⟨"RateBreaks", "needService", "(I)V"⟩ ∈ lw_tbl := List.mem_of_getElem? (i := 405) (by decide +kernel)
theorem gw_406 : Cond.static ⟨"RateBreaks", "needService", "(I)V"⟩ ∈ lw_tbl := List.mem_of_getElem? (i := 406) (by decide +kernel)
theorem gw_407 : Cond.code ⟨"RateBreaks", "needService", "(I)V"⟩ prog_1_method_21_code 1 (Option.none : Option Jvm.ClassFile.FieldType) ∈ lw_tbl := List.mem_of_getElem? (i := 407) (by decide +kernel)
theorem gw_408 : Cond.stringRef "RateBreaks" 194 "there is no such service" ∈ lw_tbl := List.mem_of_getElem? (i := 408) (by decide +kernel)
theorem gw_409 : Cond.methodLink "RateBreaks" 93 ⟨"RateBreaks$Rates", "weightToPay", "(LRateBreaks$Shipment;I)I"⟩ ∈ lw_tbl := List.mem_of_getElem? (i := 409) (by decide +kernel)
theorem gw_410 : Cond.instanceMethod ⟨"RateBreaks$Rates", "weightToPay", "(LRateBreaks$Shipment;I)I"⟩ ∈ lw_tbl := List.mem_of_getElem? (i := 410) (by decide +kernel)
theorem gw_411 : Cond.selects "RateBreaks$Rates" ⟨"RateBreaks$Rates", "weightToPay", "(LRateBreaks$Shipment;I)I"⟩ ⟨"RateBreaks$Rates", "weightToPay", "(LRateBreaks$Shipment;I)I"⟩ ∈ lw_tbl := List.mem_of_getElem? (i := 411) (by decide +kernel)
theorem gw_412 : Cond.code ⟨"RateBreaks$Rates", "weightToPay", "(LRateBreaks$Shipment;I)I"⟩ prog_2_method_8_code 5 (Option.some FieldType.int) ∈ lw_tbl := List.mem_of_getElem? (i := 412) (by decide +kernel)
theorem gw_413 : Cond.methodLinkNest "RateBreaks$Rates" 76 ⟨"RateBreaks", "dividedUp", "(JJ)J"⟩ "RateBreaks" ∈ lw_tbl := List.mem_of_getElem? (i := 413) (by decide +kernel)
theorem gw_414 : Cond.static ⟨"RateBreaks", "dividedUp", "(JJ)J"⟩ ∈ lw_tbl := List.mem_of_getElem? (i := 414) (by decide +kernel)
theorem gw_415 : Cond.code ⟨"RateBreaks", "dividedUp", "(JJ)J"⟩ prog_1_method_28_code 4 (Option.some FieldType.long) ∈ lw_tbl := List.mem_of_getElem? (i := 415) (by decide +kernel)
theorem gw_416 : Cond.methodLink "RateBreaks" 183 ⟨"RateBreaks", "dividedDown", "(JJ)J"⟩ ∈ lw_tbl := List.mem_of_getElem? (i := 416) (by decide +kernel)
theorem gw_417 : Cond.static ⟨"RateBreaks", "dividedDown", "(JJ)J"⟩ ∈ lw_tbl := List.mem_of_getElem? (i := 417) (by decide +kernel)
theorem gw_418 : Cond.code ⟨"RateBreaks", "dividedDown", "(JJ)J"⟩ prog_1_method_27_code 4 (Option.some FieldType.long) ∈ lw_tbl := List.mem_of_getElem? (i := 418) (by decide +kernel)
theorem gw_419 : Cond.classLink "RateBreaks" 231 "java/lang/ArithmeticException" ∈ lw_tbl := List.mem_of_getElem? (i := 419) (by decide +kernel)
theorem gw_420 : Cond.instantiable "java/lang/ArithmeticException" 6 ∈ lw_tbl := List.mem_of_getElem? (i := 420) (by decide +kernel)
theorem gw_421 : Cond.castable "java/lang/ArithmeticException" "java/lang/ArithmeticException" ∈ lw_tbl := List.mem_of_getElem? (i := 421) (by decide +kernel)
theorem gw_428 : Cond.stringRef "RateBreaks" 233 "the divisor is 0" ∈ lw_tbl := List.mem_of_getElem? (i := 428) (by decide +kernel)
theorem gw_429 : Cond.methodLink "RateBreaks" 235 ⟨"java/lang/ArithmeticException", "<init>", "(Ljava/lang/String;)V"⟩ ∈ lw_tbl := List.mem_of_getElem? (i := 429) (by decide +kernel)
theorem gw_430 : Cond.instanceMethod ⟨"java/lang/ArithmeticException", "<init>", "(Ljava/lang/String;)V"⟩ ∈ lw_tbl := List.mem_of_getElem? (i := 430) (by decide +kernel)
theorem gw_431 : Cond.code ⟨"java/lang/ArithmeticException", "<init>", "(Ljava/lang/String;)V"⟩ prog_8_method_2_code 2 (Option.none : Option Jvm.ClassFile.FieldType) ∈ lw_tbl := List.mem_of_getElem? (i := 431) (by decide +kernel)
theorem gw_435 : Cond.methodLink "RateBreaks$Rates" 80 ⟨"java/lang/Math", "max", "(II)I"⟩ ∈ lw_tbl := List.mem_of_getElem? (i := 435) (by decide +kernel)
theorem gw_436 : Cond.methodLink "RateBreaksLaw" 95 ⟨"RateBreaksLaw", "price", "(LRateBreaks;II[J)I"⟩ ∈ lw_tbl := List.mem_of_getElem? (i := 436) (by decide +kernel)
theorem gw_437 : Cond.static ⟨"RateBreaksLaw", "price", "(LRateBreaks;II[J)I"⟩ ∈ lw_tbl := List.mem_of_getElem? (i := 437) (by decide +kernel)
theorem gw_438 : Cond.codeWith ⟨"RateBreaksLaw", "price", "(LRateBreaks;II[J)I"⟩ method_6_code 5 (Option.some FieldType.int) [(0, 10, 13, 25), (0, 10, 17, 13), (0, 10, 21, 27)] ∈ lw_tbl := List.mem_of_getElem? (i := 438) (by decide +kernel)
theorem gw_439 : Cond.methodLink "RateBreaksLaw" 29 ⟨"RateBreaks", "price", "(II)I"⟩ ∈ lw_tbl := List.mem_of_getElem? (i := 439) (by decide +kernel)
theorem gw_440 : Cond.instanceMethod ⟨"RateBreaks", "price", "(II)I"⟩ ∈ lw_tbl := List.mem_of_getElem? (i := 440) (by decide +kernel)
theorem gw_441 : Cond.selects "RateBreaks" ⟨"RateBreaks", "price", "(II)I"⟩ ⟨"RateBreaks", "price", "(II)I"⟩ ∈ lw_tbl := List.mem_of_getElem? (i := 441) (by decide +kernel)
theorem gw_442 : Cond.code ⟨"RateBreaks", "price", "(II)I"⟩ prog_1_method_6_code 4 (Option.some FieldType.int) ∈ lw_tbl := List.mem_of_getElem? (i := 442) (by decide +kernel)
theorem gw_443 : Cond.methodLink "RateBreaks" 97 ⟨"RateBreaks", "priceNow", "(LRateBreaks$Shipment;I)I"⟩ ∈ lw_tbl := List.mem_of_getElem? (i := 443) (by decide +kernel)
theorem gw_445 : Cond.instanceMethod ⟨"RateBreaks", "priceNow", "(LRateBreaks$Shipment;I)I"⟩ ∈ lw_tbl := List.mem_of_getElem? (i := 445) (by decide +kernel)
theorem gw_446 : Cond.code ⟨"RateBreaks", "priceNow", "(LRateBreaks$Shipment;I)I"⟩ prog_1_method_25_code 8 (Option.some FieldType.int) ∈ lw_tbl := List.mem_of_getElem? (i := 446) (by decide +kernel)
theorem gw_447 : Cond.methodLink "RateBreaks" 106 ⟨"RateBreaks", "laneOf", "(II)I"⟩ ∈ lw_tbl := List.mem_of_getElem? (i := 447) (by decide +kernel)
theorem gw_448 : Cond.methodLink "RateBreaks" 221 ⟨"RateBreaks$Rates", "stepFor", "(II)I"⟩ ∈ lw_tbl := List.mem_of_getElem? (i := 448) (by decide +kernel)
theorem gw_449 : Cond.instanceMethod ⟨"RateBreaks$Rates", "stepFor", "(II)I"⟩ ∈ lw_tbl := List.mem_of_getElem? (i := 449) (by decide +kernel)
theorem gw_450 : Cond.selects "RateBreaks$Rates" ⟨"RateBreaks$Rates", "stepFor", "(II)I"⟩ ⟨"RateBreaks$Rates", "stepFor", "(II)I"⟩ ∈ lw_tbl := List.mem_of_getElem? (i := 450) (by decide +kernel)
theorem gw_451 : Cond.code ⟨"RateBreaks$Rates", "stepFor", "(II)I"⟩ prog_2_method_9_code 4 (Option.some FieldType.int) ∈ lw_tbl := List.mem_of_getElem? (i := 451) (by decide +kernel)
theorem gw_452 : Cond.methodLink "RateBreaks" 224 ⟨"RateBreaks$Rates", "charged", "(II)J"⟩ ∈ lw_tbl := List.mem_of_getElem? (i := 452) (by decide +kernel)
theorem gw_453 : Cond.instanceMethod ⟨"RateBreaks$Rates", "charged", "(II)J"⟩ ∈ lw_tbl := List.mem_of_getElem? (i := 453) (by decide +kernel)
theorem gw_454 : Cond.selects "RateBreaks$Rates" ⟨"RateBreaks$Rates", "charged", "(II)J"⟩ ⟨"RateBreaks$Rates", "charged", "(II)J"⟩ ∈ lw_tbl := List.mem_of_getElem? (i := 454) (by decide +kernel)
theorem gw_455 : Cond.code ⟨"RateBreaks$Rates", "charged", "(II)J"⟩ prog_2_method_10_code 5 (Option.some FieldType.long) ∈ lw_tbl := List.mem_of_getElem? (i := 455) (by decide +kernel)
theorem gw_456 : Cond.methodLink "RateBreaks$Rates" 85 ⟨"java/lang/Math", "max", "(JJ)J"⟩ ∈ lw_tbl := List.mem_of_getElem? (i := 456) (by decide +kernel)
theorem gw_457 : Cond.static ⟨"java/lang/Math", "max", "(JJ)J"⟩ ∈ lw_tbl := List.mem_of_getElem? (i := 457) (by decide +kernel)
theorem gw_458 : Cond.code ⟨"java/lang/Math", "max", "(JJ)J"⟩ prog_12_method_66_code 4 (Option.some FieldType.long) ∈ lw_tbl := List.mem_of_getElem? (i := 458) (by decide +kernel)
theorem gw_459 : Cond.methodLink "RateBreaks" 171 ⟨"RateBreaks$Ratios", "latest", "(I)I"⟩ ∈ lw_tbl := List.mem_of_getElem? (i := 459) (by decide +kernel)
theorem gw_460 : Cond.instanceMethod ⟨"RateBreaks$Ratios", "latest", "(I)I"⟩ ∈ lw_tbl := List.mem_of_getElem? (i := 460) (by decide +kernel)
theorem gw_461 : Cond.selects "RateBreaks$Ratios" ⟨"RateBreaks$Ratios", "latest", "(I)I"⟩ ⟨"RateBreaks$Ratios", "latest", "(I)I"⟩ ∈ lw_tbl := List.mem_of_getElem? (i := 461) (by decide +kernel)
theorem gw_462 : Cond.code ⟨"RateBreaks$Ratios", "latest", "(I)I"⟩ prog_3_method_5_code 4 (Option.some FieldType.int) ∈ lw_tbl := List.mem_of_getElem? (i := 462) (by decide +kernel)
theorem gw_463 : Cond.methodLink "RateBreaks" 228 ⟨"RateBreaks", "dividedUp", "(JJ)J"⟩ ∈ lw_tbl := List.mem_of_getElem? (i := 463) (by decide +kernel)
theorem gw_464 : Cond.methodLink "RateBreaksLaw" 98 ⟨"RateBreaksLaw", "cheapest", "(LRateBreaks;I[J)I"⟩ ∈ lw_tbl := List.mem_of_getElem? (i := 464) (by decide +kernel)
theorem gw_465 : Cond.static ⟨"RateBreaksLaw", "cheapest", "(LRateBreaks;I[J)I"⟩ ∈ lw_tbl := List.mem_of_getElem? (i := 465) (by decide +kernel)
theorem gw_466 : Cond.codeWith ⟨"RateBreaksLaw", "cheapest", "(LRateBreaks;I[J)I"⟩ method_7_code 4 (Option.some FieldType.int) [(0, 9, 12, 25)] ∈ lw_tbl := List.mem_of_getElem? (i := 466) (by decide +kernel)
theorem gw_467 : Cond.methodLink "RateBreaksLaw" 32 ⟨"RateBreaks", "cheapest", "(I)I"⟩ ∈ lw_tbl := List.mem_of_getElem? (i := 467) (by decide +kernel)
theorem gw_468 : Cond.instanceMethod ⟨"RateBreaks", "cheapest", "(I)I"⟩ ∈ lw_tbl := List.mem_of_getElem? (i := 468) (by decide +kernel)
theorem gw_469 : Cond.selects "RateBreaks" ⟨"RateBreaks", "cheapest", "(I)I"⟩ ⟨"RateBreaks", "cheapest", "(I)I"⟩ ∈ lw_tbl := List.mem_of_getElem? (i := 469) (by decide +kernel)
theorem gw_470 : Cond.code ⟨"RateBreaks", "cheapest", "(I)I"⟩ prog_1_method_7_code 7 (Option.some FieldType.int) ∈ lw_tbl := List.mem_of_getElem? (i := 470) (by decide +kernel)
theorem gw_471 : Cond.methodLink "RateBreaksLaw" 101 ⟨"RateBreaksLaw", "parcels", "(LRateBreaks;II[J)I"⟩ ∈ lw_tbl := List.mem_of_getElem? (i := 471) (by decide +kernel)
theorem gw_472 : Cond.static ⟨"RateBreaksLaw", "parcels", "(LRateBreaks;II[J)I"⟩ ∈ lw_tbl := List.mem_of_getElem? (i := 472) (by decide +kernel)
theorem gw_473 : Cond.codeWith ⟨"RateBreaksLaw", "parcels", "(LRateBreaks;II[J)I"⟩ method_8_code 5 (Option.some FieldType.int) [(0, 10, 13, 25), (0, 10, 17, 13)] ∈ lw_tbl := List.mem_of_getElem? (i := 473) (by decide +kernel)
theorem gw_474 : Cond.methodLink "RateBreaksLaw" 35 ⟨"RateBreaks", "parcels", "(II)I"⟩ ∈ lw_tbl := List.mem_of_getElem? (i := 474) (by decide +kernel)
theorem gw_475 : Cond.instanceMethod ⟨"RateBreaks", "parcels", "(II)I"⟩ ∈ lw_tbl := List.mem_of_getElem? (i := 475) (by decide +kernel)
theorem gw_476 : Cond.selects "RateBreaks" ⟨"RateBreaks", "parcels", "(II)I"⟩ ⟨"RateBreaks", "parcels", "(II)I"⟩ ∈ lw_tbl := List.mem_of_getElem? (i := 476) (by decide +kernel)
theorem gw_477 : Cond.code ⟨"RateBreaks", "parcels", "(II)I"⟩ prog_1_method_8_code 5 (Option.some FieldType.int) ∈ lw_tbl := List.mem_of_getElem? (i := 477) (by decide +kernel)
theorem gw_478 : Cond.methodLink "RateBreaks" 113 ⟨"RateBreaks$Rates", "leastCents", "(IIIII)I"⟩ ∈ lw_tbl := List.mem_of_getElem? (i := 478) (by decide +kernel)
theorem gw_479 : Cond.instanceMethod ⟨"RateBreaks$Rates", "leastCents", "(IIIII)I"⟩ ∈ lw_tbl := List.mem_of_getElem? (i := 479) (by decide +kernel)
theorem gw_480 : Cond.selects "RateBreaks$Rates" ⟨"RateBreaks$Rates", "leastCents", "(IIIII)I"⟩ ⟨"RateBreaks$Rates", "leastCents", "(IIIII)I"⟩ ∈ lw_tbl := List.mem_of_getElem? (i := 480) (by decide +kernel)
theorem gw_481 : Cond.code ⟨"RateBreaks$Rates", "leastCents", "(IIIII)I"⟩ prog_2_method_11_code 9 (Option.some FieldType.int) ∈ lw_tbl := List.mem_of_getElem? (i := 481) (by decide +kernel)
theorem gw_482 : Cond.methodLink "RateBreaks$Rates" 87 ⟨"RateBreaks$Rates", "leastCents", "(IIIII)I"⟩ ∈ lw_tbl := List.mem_of_getElem? (i := 482) (by decide +kernel)
theorem gw_483 : Cond.methodLink "RateBreaksLaw" 104 ⟨"RateBreaksLaw", "contract", "(LRateBreaks;IIII[J)I"⟩ ∈ lw_tbl := List.mem_of_getElem? (i := 483) (by decide +kernel)
theorem gw_484 : Cond.static ⟨"RateBreaksLaw", "contract", "(LRateBreaks;IIII[J)I"⟩ ∈ lw_tbl := List.mem_of_getElem? (i := 484) (by decide +kernel)
theorem gw_485 : Cond.codeWith ⟨"RateBreaksLaw", "contract", "(LRateBreaks;IIII[J)I"⟩ method_9_code 7 (Option.some FieldType.int) [(0, 14, 17, 13), (0, 14, 21, 15)] ∈ lw_tbl := List.mem_of_getElem? (i := 485) (by decide +kernel)
theorem gw_486 : Cond.methodLink "RateBreaksLaw" 38 ⟨"RateBreaks", "contract", "(IIII)I"⟩ ∈ lw_tbl := List.mem_of_getElem? (i := 486) (by decide +kernel)
theorem gw_487 : Cond.instanceMethod ⟨"RateBreaks", "contract", "(IIII)I"⟩ ∈ lw_tbl := List.mem_of_getElem? (i := 487) (by decide +kernel)
theorem gw_488 : Cond.selects "RateBreaks" ⟨"RateBreaks", "contract", "(IIII)I"⟩ ⟨"RateBreaks", "contract", "(IIII)I"⟩ ∈ lw_tbl := List.mem_of_getElem? (i := 488) (by decide +kernel)
theorem gw_489 : Cond.code ⟨"RateBreaks", "contract", "(IIII)I"⟩ prog_1_method_9_code 6 (Option.some FieldType.int) ∈ lw_tbl := List.mem_of_getElem? (i := 489) (by decide +kernel)
theorem gw_490 : Cond.methodLink "RateBreaks" 117 ⟨"RateBreaks", "needRoom", "(LRateBreaks$Ratios;I)V"⟩ ∈ lw_tbl := List.mem_of_getElem? (i := 490) (by decide +kernel)
theorem gw_491 : Cond.static ⟨"RateBreaks", "needRoom", "(LRateBreaks$Ratios;I)V"⟩ ∈ lw_tbl := List.mem_of_getElem? (i := 491) (by decide +kernel)
theorem gw_492 : Cond.code ⟨"RateBreaks", "needRoom", "(LRateBreaks$Ratios;I)V"⟩ prog_1_method_22_code 2 (Option.none : Option Jvm.ClassFile.FieldType) ∈ lw_tbl := List.mem_of_getElem? (i := 492) (by decide +kernel)
theorem gw_493 : Cond.methodLink "RateBreaks" 196 ⟨"RateBreaks$Ratios", "hasRoomFor", "(I)Z"⟩ ∈ lw_tbl := List.mem_of_getElem? (i := 493) (by decide +kernel)
theorem gw_494 : Cond.instanceMethod ⟨"RateBreaks$Ratios", "hasRoomFor", "(I)Z"⟩ ∈ lw_tbl := List.mem_of_getElem? (i := 494) (by decide +kernel)
theorem gw_495 : Cond.selects "RateBreaks$Ratios" ⟨"RateBreaks$Ratios", "hasRoomFor", "(I)Z"⟩ ⟨"RateBreaks$Ratios", "hasRoomFor", "(I)Z"⟩ ∈ lw_tbl := List.mem_of_getElem? (i := 495) (by decide +kernel)
theorem gw_496 : Cond.code ⟨"RateBreaks$Ratios", "hasRoomFor", "(I)Z"⟩ prog_3_method_2_code 2 (Option.some FieldType.boolean) ∈ lw_tbl := List.mem_of_getElem? (i := 496) (by decide +kernel)
theorem gw_497 : Cond.methodLink "RateBreaks$Ratios" 31 ⟨"RateBreaks$Ratios", "placeFor", "(I)I"⟩ ∈ lw_tbl := List.mem_of_getElem? (i := 497) (by decide +kernel)
theorem gw_499 : Cond.instanceMethod ⟨"RateBreaks$Ratios", "placeFor", "(I)I"⟩ ∈ lw_tbl := List.mem_of_getElem? (i := 499) (by decide +kernel)
theorem gw_500 : Cond.code ⟨"RateBreaks$Ratios", "placeFor", "(I)I"⟩ prog_3_method_4_code 3 (Option.some FieldType.int) ∈ lw_tbl := List.mem_of_getElem? (i := 500) (by decide +kernel)
theorem gw_501 : Cond.stringRef "RateBreaks" 200 "no room for another number" ∈ lw_tbl := List.mem_of_getElem? (i := 501) (by decide +kernel)
theorem gw_502 : Cond.methodLink "RateBreaks" 121 ⟨"RateBreaks$Ratios", "put", "(III)V"⟩ ∈ lw_tbl := List.mem_of_getElem? (i := 502) (by decide +kernel)
theorem gw_503 : Cond.instanceMethod ⟨"RateBreaks$Ratios", "put", "(III)V"⟩ ∈ lw_tbl := List.mem_of_getElem? (i := 503) (by decide +kernel)
theorem gw_504 : Cond.selects "RateBreaks$Ratios" ⟨"RateBreaks$Ratios", "put", "(III)V"⟩ ⟨"RateBreaks$Ratios", "put", "(III)V"⟩ ∈ lw_tbl := List.mem_of_getElem? (i := 504) (by decide +kernel)
theorem gw_505 : Cond.code ⟨"RateBreaks$Ratios", "put", "(III)V"⟩ prog_3_method_3_code 5 (Option.none : Option Jvm.ClassFile.FieldType) ∈ lw_tbl := List.mem_of_getElem? (i := 505) (by decide +kernel)
theorem gw_506 : Cond.methodLink "RateBreaksLaw" 108 ⟨"RateBreaksLaw", "book", "(LRateBreaks;II[J)I"⟩ ∈ lw_tbl := List.mem_of_getElem? (i := 506) (by decide +kernel)
theorem gw_507 : Cond.static ⟨"RateBreaksLaw", "book", "(LRateBreaks;II[J)I"⟩ ∈ lw_tbl := List.mem_of_getElem? (i := 507) (by decide +kernel)
theorem gw_508 : Cond.codeWith ⟨"RateBreaksLaw", "book", "(LRateBreaks;II[J)I"⟩ method_10_code 5 (Option.some FieldType.int) [(0, 10, 13, 25), (0, 10, 17, 13), (0, 10, 21, 45), (0, 10, 25, 27)] ∈ lw_tbl := List.mem_of_getElem? (i := 508) (by decide +kernel)
theorem gw_509 : Cond.classLink "RateBreaksLaw" 45 "java/lang/IllegalStateException" ∈ lw_tbl := List.mem_of_getElem? (i := 509) (by decide +kernel)
theorem gw_510 : Cond.methodLink "RateBreaksLaw" 42 ⟨"RateBreaks", "book", "(II)I"⟩ ∈ lw_tbl := List.mem_of_getElem? (i := 510) (by decide +kernel)
theorem gw_511 : Cond.instanceMethod ⟨"RateBreaks", "book", "(II)I"⟩ ∈ lw_tbl := List.mem_of_getElem? (i := 511) (by decide +kernel)
theorem gw_512 : Cond.selects "RateBreaks" ⟨"RateBreaks", "book", "(II)I"⟩ ⟨"RateBreaks", "book", "(II)I"⟩ ∈ lw_tbl := List.mem_of_getElem? (i := 512) (by decide +kernel)
theorem gw_513 : Cond.code ⟨"RateBreaks", "book", "(II)I"⟩ prog_1_method_10_code 5 (Option.some FieldType.int) ∈ lw_tbl := List.mem_of_getElem? (i := 513) (by decide +kernel)
theorem gw_514 : Cond.classLink "RateBreaks" 131 "java/lang/IllegalStateException" ∈ lw_tbl := List.mem_of_getElem? (i := 514) (by decide +kernel)
theorem gw_515 : Cond.instantiable "java/lang/IllegalStateException" 6 ∈ lw_tbl := List.mem_of_getElem? (i := 515) (by decide +kernel)
theorem gw_516 : Cond.castable "java/lang/IllegalStateException" "java/lang/IllegalStateException" ∈ lw_tbl := List.mem_of_getElem? (i := 516) (by decide +kernel)
theorem gw_523 : Cond.stringRef "RateBreaks" 133 "the shipment is booked" ∈ lw_tbl := List.mem_of_getElem? (i := 523) (by decide +kernel)
theorem gw_524 : Cond.methodLink "RateBreaks" 135 ⟨"java/lang/IllegalStateException", "<init>", "(Ljava/lang/String;)V"⟩ ∈ lw_tbl := List.mem_of_getElem? (i := 524) (by decide +kernel)
theorem gw_525 : Cond.instanceMethod ⟨"java/lang/IllegalStateException", "<init>", "(Ljava/lang/String;)V"⟩ ∈ lw_tbl := List.mem_of_getElem? (i := 525) (by decide +kernel)
theorem gw_526 : Cond.code ⟨"java/lang/IllegalStateException", "<init>", "(Ljava/lang/String;)V"⟩ prog_11_method_2_code 2 (Option.none : Option Jvm.ClassFile.FieldType) ∈ lw_tbl := List.mem_of_getElem? (i := 526) (by decide +kernel)
theorem gw_530 : Cond.stringRef "RateBreaks" 136 "the service has no step for the shipment" ∈ lw_tbl := List.mem_of_getElem? (i := 530) (by decide +kernel)
theorem gw_531 : Cond.methodLink "RateBreaksLaw" 111 ⟨"RateBreaksLaw", "combine", "(LRateBreaks;II[J)I"⟩ ∈ lw_tbl := List.mem_of_getElem? (i := 531) (by decide +kernel)
theorem gw_532 : Cond.static ⟨"RateBreaksLaw", "combine", "(LRateBreaks;II[J)I"⟩ ∈ lw_tbl := List.mem_of_getElem? (i := 532) (by decide +kernel)
theorem gw_533 : Cond.codeWith ⟨"RateBreaksLaw", "combine", "(LRateBreaks;II[J)I"⟩ method_11_code 5 (Option.some FieldType.int) [(0, 10, 13, 25), (0, 10, 17, 45)] ∈ lw_tbl := List.mem_of_getElem? (i := 533) (by decide +kernel)
theorem gw_534 : Cond.methodLink "RateBreaksLaw" 47 ⟨"RateBreaks", "combine", "(II)I"⟩ ∈ lw_tbl := List.mem_of_getElem? (i := 534) (by decide +kernel)
theorem gw_535 : Cond.instanceMethod ⟨"RateBreaks", "combine", "(II)I"⟩ ∈ lw_tbl := List.mem_of_getElem? (i := 535) (by decide +kernel)
theorem gw_536 : Cond.selects "RateBreaks" ⟨"RateBreaks", "combine", "(II)I"⟩ ⟨"RateBreaks", "combine", "(II)I"⟩ ∈ lw_tbl := List.mem_of_getElem? (i := 536) (by decide +kernel)
theorem gw_537 : Cond.code ⟨"RateBreaks", "combine", "(II)I"⟩ prog_1_method_11_code 7 (Option.some FieldType.int) ∈ lw_tbl := List.mem_of_getElem? (i := 537) (by decide +kernel)
theorem gw_538 : Cond.stringRef "RateBreaks" 144 "a shipment can't be combined with itself" ∈ lw_tbl := List.mem_of_getElem? (i := 538) (by decide +kernel)
theorem gw_539 : Cond.stringRef "RateBreaks" 146 "a shipment of the two is booked" ∈ lw_tbl := List.mem_of_getElem? (i := 539) (by decide +kernel)
theorem gw_540 : Cond.stringRef "RateBreaks" 148 "the shipments are of different zones" ∈ lw_tbl := List.mem_of_getElem? (i := 540) (by decide +kernel)
theorem gw_541 : Cond.stringRef "RateBreaks" 153 "the shipments are too much for one" ∈ lw_tbl := List.mem_of_getElem? (i := 541) (by decide +kernel)
theorem gw_542 : Cond.methodLink "RateBreaksLaw" 114 ⟨"RateBreaksLaw", "invoice", "(LRateBreaks;II[J)I"⟩ ∈ lw_tbl := List.mem_of_getElem? (i := 542) (by decide +kernel)
theorem gw_543 : Cond.static ⟨"RateBreaksLaw", "invoice", "(LRateBreaks;II[J)I"⟩ ∈ lw_tbl := List.mem_of_getElem? (i := 543) (by decide +kernel)
theorem gw_544 : Cond.codeWith ⟨"RateBreaksLaw", "invoice", "(LRateBreaks;II[J)I"⟩ method_12_code 5 (Option.some FieldType.int) [(0, 10, 13, 25), (0, 10, 17, 13), (0, 10, 21, 45)] ∈ lw_tbl := List.mem_of_getElem? (i := 544) (by decide +kernel)
theorem gw_545 : Cond.methodLink "RateBreaksLaw" 50 ⟨"RateBreaks", "invoice", "(II)I"⟩ ∈ lw_tbl := List.mem_of_getElem? (i := 545) (by decide +kernel)
theorem gw_546 : Cond.instanceMethod ⟨"RateBreaks", "invoice", "(II)I"⟩ ∈ lw_tbl := List.mem_of_getElem? (i := 546) (by decide +kernel)
theorem gw_547 : Cond.selects "RateBreaks" ⟨"RateBreaks", "invoice", "(II)I"⟩ ⟨"RateBreaks", "invoice", "(II)I"⟩ ∈ lw_tbl := List.mem_of_getElem? (i := 547) (by decide +kernel)
theorem gw_548 : Cond.code ⟨"RateBreaks", "invoice", "(II)I"⟩ prog_1_method_12_code 4 (Option.some FieldType.int) ∈ lw_tbl := List.mem_of_getElem? (i := 548) (by decide +kernel)
theorem gw_549 : Cond.constant "RateBreaks" 155 (10000000 : Int32) ∈ lw_tbl := List.mem_of_getElem? (i := 549) (by decide +kernel)
theorem gw_550 : Cond.stringRef "RateBreaks" 159 "the shipment is not booked, or was invoiced" ∈ lw_tbl := List.mem_of_getElem? (i := 550) (by decide +kernel)
theorem gw_551 : Cond.methodLink "RateBreaksLaw" 117 ⟨"RateBreaksLaw", "refund", "(LRateBreaks;II[J)I"⟩ ∈ lw_tbl := List.mem_of_getElem? (i := 551) (by decide +kernel)
theorem gw_552 : Cond.static ⟨"RateBreaksLaw", "refund", "(LRateBreaks;II[J)I"⟩ ∈ lw_tbl := List.mem_of_getElem? (i := 552) (by decide +kernel)
theorem gw_553 : Cond.codeWith ⟨"RateBreaksLaw", "refund", "(LRateBreaks;II[J)I"⟩ method_13_code 5 (Option.some FieldType.int) [(0, 10, 13, 25), (0, 10, 17, 13), (0, 10, 21, 45)] ∈ lw_tbl := List.mem_of_getElem? (i := 553) (by decide +kernel)
theorem gw_554 : Cond.methodLink "RateBreaksLaw" 53 ⟨"RateBreaks", "refund", "(II)I"⟩ ∈ lw_tbl := List.mem_of_getElem? (i := 554) (by decide +kernel)
theorem gw_555 : Cond.instanceMethod ⟨"RateBreaks", "refund", "(II)I"⟩ ∈ lw_tbl := List.mem_of_getElem? (i := 555) (by decide +kernel)
theorem gw_556 : Cond.selects "RateBreaks" ⟨"RateBreaks", "refund", "(II)I"⟩ ⟨"RateBreaks", "refund", "(II)I"⟩ ∈ lw_tbl := List.mem_of_getElem? (i := 556) (by decide +kernel)
theorem gw_557 : Cond.code ⟨"RateBreaks", "refund", "(II)I"⟩ prog_1_method_13_code 4 (Option.some FieldType.int) ∈ lw_tbl := List.mem_of_getElem? (i := 557) (by decide +kernel)
theorem gw_558 : Cond.stringRef "RateBreaks" 164 "the shipment is not invoiced, or less is left" ∈ lw_tbl := List.mem_of_getElem? (i := 558) (by decide +kernel)
theorem gw_559 : Cond.methodLink "RateBreaksLaw" 120 ⟨"RateBreaksLaw", "differ", "(LRateBreaks;I[J)I"⟩ ∈ lw_tbl := List.mem_of_getElem? (i := 559) (by decide +kernel)
theorem gw_560 : Cond.static ⟨"RateBreaksLaw", "differ", "(LRateBreaks;I[J)I"⟩ ∈ lw_tbl := List.mem_of_getElem? (i := 560) (by decide +kernel)
theorem gw_561 : Cond.codeWith ⟨"RateBreaksLaw", "differ", "(LRateBreaks;I[J)I"⟩ method_14_code 4 (Option.some FieldType.int) [(0, 9, 12, 13)] ∈ lw_tbl := List.mem_of_getElem? (i := 561) (by decide +kernel)
theorem gw_562 : Cond.methodLink "RateBreaksLaw" 56 ⟨"RateBreaks", "differ", "(I)I"⟩ ∈ lw_tbl := List.mem_of_getElem? (i := 562) (by decide +kernel)
theorem gw_563 : Cond.instanceMethod ⟨"RateBreaks", "differ", "(I)I"⟩ ∈ lw_tbl := List.mem_of_getElem? (i := 563) (by decide +kernel)
theorem gw_564 : Cond.selects "RateBreaks" ⟨"RateBreaks", "differ", "(I)I"⟩ ⟨"RateBreaks", "differ", "(I)I"⟩ ∈ lw_tbl := List.mem_of_getElem? (i := 564) (by decide +kernel)
theorem gw_565 : Cond.code ⟨"RateBreaks", "differ", "(I)I"⟩ prog_1_method_14_code 5 (Option.some FieldType.int) ∈ lw_tbl := List.mem_of_getElem? (i := 565) (by decide +kernel)
theorem gw_566 : Cond.stringRef "RateBreaks" 168 "the place is below 0" ∈ lw_tbl := List.mem_of_getElem? (i := 566) (by decide +kernel)
theorem gw_567 : Cond.methodLink "RateBreaksLaw" 123 ⟨"RateBreaksLaw", "currency", "(LRateBreaks;III[J)I"⟩ ∈ lw_tbl := List.mem_of_getElem? (i := 567) (by decide +kernel)
theorem gw_568 : Cond.static ⟨"RateBreaksLaw", "currency", "(LRateBreaks;III[J)I"⟩ ∈ lw_tbl := List.mem_of_getElem? (i := 568) (by decide +kernel)
theorem gw_569 : Cond.codeWith ⟨"RateBreaksLaw", "currency", "(LRateBreaks;III[J)I"⟩ method_15_code 6 (Option.some FieldType.int) [(0, 12, 15, 13), (0, 12, 19, 15)] ∈ lw_tbl := List.mem_of_getElem? (i := 569) (by decide +kernel)
theorem gw_570 : Cond.methodLink "RateBreaksLaw" 59 ⟨"RateBreaks", "currency", "(III)I"⟩ ∈ lw_tbl := List.mem_of_getElem? (i := 570) (by decide +kernel)
theorem gw_571 : Cond.instanceMethod ⟨"RateBreaks", "currency", "(III)I"⟩ ∈ lw_tbl := List.mem_of_getElem? (i := 571) (by decide +kernel)
theorem gw_572 : Cond.selects "RateBreaks" ⟨"RateBreaks", "currency", "(III)I"⟩ ⟨"RateBreaks", "currency", "(III)I"⟩ ∈ lw_tbl := List.mem_of_getElem? (i := 572) (by decide +kernel)
theorem gw_573 : Cond.code ⟨"RateBreaks", "currency", "(III)I"⟩ prog_1_method_15_code 4 (Option.some FieldType.int) ∈ lw_tbl := List.mem_of_getElem? (i := 573) (by decide +kernel)
theorem gw_574 : Cond.methodLink "RateBreaksLaw" 126 ⟨"RateBreaksLaw", "converted", "(LRateBreaks;II[J)I"⟩ ∈ lw_tbl := List.mem_of_getElem? (i := 574) (by decide +kernel)
theorem gw_575 : Cond.static ⟨"RateBreaksLaw", "converted", "(LRateBreaks;II[J)I"⟩ ∈ lw_tbl := List.mem_of_getElem? (i := 575) (by decide +kernel)
theorem gw_576 : Cond.codeWith ⟨"RateBreaksLaw", "converted", "(LRateBreaks;II[J)I"⟩ method_16_code 5 (Option.some FieldType.int) [(0, 9, 12, 13)] ∈ lw_tbl := List.mem_of_getElem? (i := 576) (by decide +kernel)
theorem gw_577 : Cond.methodLink "RateBreaksLaw" 62 ⟨"RateBreaks", "converted", "(II)J"⟩ ∈ lw_tbl := List.mem_of_getElem? (i := 577) (by decide +kernel)
theorem gw_578 : Cond.instanceMethod ⟨"RateBreaks", "converted", "(II)J"⟩ ∈ lw_tbl := List.mem_of_getElem? (i := 578) (by decide +kernel)
theorem gw_579 : Cond.selects "RateBreaks" ⟨"RateBreaks", "converted", "(II)J"⟩ ⟨"RateBreaks", "converted", "(II)J"⟩ ∈ lw_tbl := List.mem_of_getElem? (i := 579) (by decide +kernel)
theorem gw_580 : Cond.code ⟨"RateBreaks", "converted", "(II)J"⟩ prog_1_method_16_code 4 (Option.some FieldType.long) ∈ lw_tbl := List.mem_of_getElem? (i := 580) (by decide +kernel)
theorem gw_581 : Cond.constantLong "RateBreaks" 175 (-1 : Int64) ∈ lw_tbl := List.mem_of_getElem? (i := 581) (by decide +kernel)
theorem gw_582 : Cond.methodLink "RateBreaksLaw" 129 ⟨"RateBreaksLaw", "told", "(LRateBreaks;II[J)I"⟩ ∈ lw_tbl := List.mem_of_getElem? (i := 582) (by decide +kernel)
theorem gw_583 : Cond.static ⟨"RateBreaksLaw", "told", "(LRateBreaks;II[J)I"⟩ ∈ lw_tbl := List.mem_of_getElem? (i := 583) (by decide +kernel)
theorem gw_584 : Cond.codeWith ⟨"RateBreaksLaw", "told", "(LRateBreaks;II[J)I"⟩ method_17_code 5 (Option.some FieldType.int) [(0, 10, 13, 25), (0, 10, 17, 13)] ∈ lw_tbl := List.mem_of_getElem? (i := 584) (by decide +kernel)
theorem gw_585 : Cond.methodLink "RateBreaksLaw" 66 ⟨"RateBreaks", "told", "(II)I"⟩ ∈ lw_tbl := List.mem_of_getElem? (i := 585) (by decide +kernel)
theorem gw_586 : Cond.instanceMethod ⟨"RateBreaks", "told", "(II)I"⟩ ∈ lw_tbl := List.mem_of_getElem? (i := 586) (by decide +kernel)
theorem gw_587 : Cond.selects "RateBreaks" ⟨"RateBreaks", "told", "(II)I"⟩ ⟨"RateBreaks", "told", "(II)I"⟩ ∈ lw_tbl := List.mem_of_getElem? (i := 587) (by decide +kernel)
theorem gw_588 : Cond.code ⟨"RateBreaks", "told", "(II)I"⟩ prog_1_method_17_code 4 (Option.some FieldType.int) ∈ lw_tbl := List.mem_of_getElem? (i := 588) (by decide +kernel)
theorem gw_589 : Cond.stringRef "RateBreaks" 187 "nothing of that number is told" ∈ lw_tbl := List.mem_of_getElem? (i := 589) (by decide +kernel)
theorem gw_590 : Cond.classLink "RateBreaksLaw" 70 "RateBreaksModel" ∈ lw_tbl := List.mem_of_getElem? (i := 590) (by decide +kernel)
theorem gw_591 : Cond.instantiable "RateBreaksModel" 27 ∈ lw_tbl := List.mem_of_getElem? (i := 591) (by decide +kernel)
theorem gw_592 : Cond.methodLink "RateBreaksLaw" 72 ⟨"RateBreaksModel", "<init>", "()V"⟩ ∈ lw_tbl := List.mem_of_getElem? (i := 592) (by decide +kernel)
theorem gw_593 : Cond.instanceMethod ⟨"RateBreaksModel", "<init>", "()V"⟩ ∈ lw_tbl := List.mem_of_getElem? (i := 593) (by decide +kernel)
theorem gw_594 : Cond.code ⟨"RateBreaksModel", "<init>", "()V"⟩ prog_7_method_1_code 1 (Option.none : Option Jvm.ClassFile.FieldType) ∈ lw_tbl := List.mem_of_getElem? (i := 594) (by decide +kernel)
theorem gw_595 : Cond.methodLink "RateBreaksModel" 1 ⟨"java/lang/Object", "<init>", "()V"⟩ ∈ lw_tbl := List.mem_of_getElem? (i := 595) (by decide +kernel)
theorem gw_596 : Cond.fieldLink "RateBreaksModel" 7 "RateBreaksModel" "thrownCode" "I" ∈ lw_tbl := List.mem_of_getElem? (i := 596) (by decide +kernel)
theorem gw_597 : Cond.fieldLink "RateBreaksModel" 13 "RateBreaksModel" "text" "[I" ∈ lw_tbl := List.mem_of_getElem? (i := 597) (by decide +kernel)
theorem gw_598 : Cond.fieldLink "RateBreaksModel" 17 "RateBreaksModel" "signs" "I" ∈ lw_tbl := List.mem_of_getElem? (i := 598) (by decide +kernel)
theorem gw_599 : Cond.fieldLink "RateBreaksModel" 20 "RateBreaksModel" "lines" "I" ∈ lw_tbl := List.mem_of_getElem? (i := 599) (by decide +kernel)
theorem gw_600 : Cond.fieldLink "RateBreaksModel" 23 "RateBreaksModel" "line" "[I" ∈ lw_tbl := List.mem_of_getElem? (i := 600) (by decide +kernel)
theorem gw_601 : Cond.fieldLink "RateBreaksModel" 26 "RateBreaksModel" "newLines" "I" ∈ lw_tbl := List.mem_of_getElem? (i := 601) (by decide +kernel)
theorem gw_602 : Cond.fieldLink "RateBreaksModel" 29 "RateBreaksModel" "newLine" "[I" ∈ lw_tbl := List.mem_of_getElem? (i := 602) (by decide +kernel)
theorem gw_603 : Cond.fieldLink "RateBreaksModel" 32 "RateBreaksModel" "at" "I" ∈ lw_tbl := List.mem_of_getElem? (i := 603) (by decide +kernel)
theorem gw_604 : Cond.fieldLink "RateBreaksModel" 35 "RateBreaksModel" "shipments" "I" ∈ lw_tbl := List.mem_of_getElem? (i := 604) (by decide +kernel)
theorem gw_605 : Cond.fieldLink "RateBreaksModel" 38 "RateBreaksModel" "gone" "[Z" ∈ lw_tbl := List.mem_of_getElem? (i := 605) (by decide +kernel)
theorem gw_606 : Cond.fieldLink "RateBreaksModel" 42 "RateBreaksModel" "zone" "[I" ∈ lw_tbl := List.mem_of_getElem? (i := 606) (by decide +kernel)
theorem gw_607 : Cond.fieldLink "RateBreaksModel" 45 "RateBreaksModel" "grams" "[I" ∈ lw_tbl := List.mem_of_getElem? (i := 607) (by decide +kernel)
theorem gw_608 : Cond.fieldLink "RateBreaksModel" 48 "RateBreaksModel" "volume" "[I" ∈ lw_tbl := List.mem_of_getElem? (i := 608) (by decide +kernel)
theorem gw_609 : Cond.fieldLink "RateBreaksModel" 51 "RateBreaksModel" "service" "[I" ∈ lw_tbl := List.mem_of_getElem? (i := 609) (by decide +kernel)
theorem gw_610 : Cond.fieldLink "RateBreaksModel" 54 "RateBreaksModel" "price" "[I" ∈ lw_tbl := List.mem_of_getElem? (i := 610) (by decide +kernel)
theorem gw_611 : Cond.fieldLink "RateBreaksModel" 57 "RateBreaksModel" "left" "[I" ∈ lw_tbl := List.mem_of_getElem? (i := 611) (by decide +kernel)
theorem gw_612 : Cond.fieldLink "RateBreaksModel" 60 "RateBreaksModel" "contracts" "[I" ∈ lw_tbl := List.mem_of_getElem? (i := 612) (by decide +kernel)
theorem gw_613 : Cond.fieldLink "RateBreaksModel" 63 "RateBreaksModel" "from" "[I" ∈ lw_tbl := List.mem_of_getElem? (i := 613) (by decide +kernel)
theorem gw_614 : Cond.fieldLink "RateBreaksModel" 66 "RateBreaksModel" "up" "[I" ∈ lw_tbl := List.mem_of_getElem? (i := 614) (by decide +kernel)
theorem gw_615 : Cond.fieldLink "RateBreaksModel" 69 "RateBreaksModel" "down" "[I" ∈ lw_tbl := List.mem_of_getElem? (i := 615) (by decide +kernel)
theorem gw_616 : Cond.fieldLink "RateBreaksModel" 72 "RateBreaksModel" "days" "I" ∈ lw_tbl := List.mem_of_getElem? (i := 616) (by decide +kernel)
theorem gw_617 : Cond.fieldLink "RateBreaksModel" 75 "RateBreaksModel" "day" "[I" ∈ lw_tbl := List.mem_of_getElem? (i := 617) (by decide +kernel)
theorem gw_618 : Cond.fieldLink "RateBreaksModel" 78 "RateBreaksModel" "dayUp" "[I" ∈ lw_tbl := List.mem_of_getElem? (i := 618) (by decide +kernel)
theorem gw_619 : Cond.fieldLink "RateBreaksModel" 81 "RateBreaksModel" "dayDown" "[I" ∈ lw_tbl := List.mem_of_getElem? (i := 619) (by decide +kernel)
theorem gw_620 : Cond.fieldLink "RateBreaksModel" 84 "RateBreaksModel" "low" "[I" ∈ lw_tbl := List.mem_of_getElem? (i := 620) (by decide +kernel)
theorem gw_621 : Cond.fieldLink "RateBreaksModel" 87 "RateBreaksModel" "high" "[I" ∈ lw_tbl := List.mem_of_getElem? (i := 621) (by decide +kernel)
theorem gw_622 : Cond.fieldLink "RateBreaksModel" 90 "RateBreaksModel" "costs" "[I" ∈ lw_tbl := List.mem_of_getElem? (i := 622) (by decide +kernel)
theorem gw_678 : Cond.arrayClass FieldType.boolean ∈ lw_tbl := List.mem_of_getElem? (i := 678) (by decide +kernel)
theorem gw_679 : Cond.methodLink "RateBreaksLaw" 79 ⟨"RateBreaksModel", "thrown", "()I"⟩ ∈ lw_tbl := List.mem_of_getElem? (i := 679) (by decide +kernel)
theorem gw_680 : Cond.instanceMethod ⟨"RateBreaksModel", "thrown", "()I"⟩ ∈ lw_tbl := List.mem_of_getElem? (i := 680) (by decide +kernel)
theorem gw_681 : Cond.selects "RateBreaksModel" ⟨"RateBreaksModel", "thrown", "()I"⟩ ⟨"RateBreaksModel", "thrown", "()I"⟩ ∈ lw_tbl := List.mem_of_getElem? (i := 681) (by decide +kernel)
theorem gw_682 : Cond.code ⟨"RateBreaksModel", "thrown", "()I"⟩ prog_7_method_13_code 1 (Option.some FieldType.int) ∈ lw_tbl := List.mem_of_getElem? (i := 682) (by decide +kernel)
theorem gw_683 : Cond.methodLink "RateBreaksLaw" 78 ⟨"RateBreaksModel", "sign", "(I)I"⟩ ∈ lw_tbl := List.mem_of_getElem? (i := 683) (by decide +kernel)
theorem gw_684 : Cond.instanceMethod ⟨"RateBreaksModel", "sign", "(I)I"⟩ ∈ lw_tbl := List.mem_of_getElem? (i := 684) (by decide +kernel)
theorem gw_685 : Cond.selects "RateBreaksModel" ⟨"RateBreaksModel", "sign", "(I)I"⟩ ⟨"RateBreaksModel", "sign", "(I)I"⟩ ∈ lw_tbl := List.mem_of_getElem? (i := 685) (by decide +kernel)
theorem gw_686 : Cond.code ⟨"RateBreaksModel", "sign", "(I)I"⟩ prog_7_method_15_code 2 (Option.some FieldType.int) ∈ lw_tbl := List.mem_of_getElem? (i := 686) (by decide +kernel)
theorem gw_687 : Cond.methodLink "RateBreaksModel" 124 ⟨"RateBreaksModel", "not", "(III)Z"⟩ ∈ lw_tbl := List.mem_of_getElem? (i := 687) (by decide +kernel)
theorem gw_688 : Cond.static ⟨"RateBreaksModel", "not", "(III)Z"⟩ ∈ lw_tbl := List.mem_of_getElem? (i := 688) (by decide +kernel)
theorem gw_689 : Cond.code ⟨"RateBreaksModel", "not", "(III)Z"⟩ prog_7_method_2_code 3 (Option.some FieldType.boolean) ∈ lw_tbl := List.mem_of_getElem? (i := 689) (by decide +kernel)
theorem gw_690 : Cond.methodLink "RateBreaksLaw" 86 ⟨"RateBreaksModel", "read", "()I"⟩ ∈ lw_tbl := List.mem_of_getElem? (i := 690) (by decide +kernel)
theorem gw_691 : Cond.instanceMethod ⟨"RateBreaksModel", "read", "()I"⟩ ∈ lw_tbl := List.mem_of_getElem? (i := 691) (by decide +kernel)
theorem gw_692 : Cond.selects "RateBreaksModel" ⟨"RateBreaksModel", "read", "()I"⟩ ⟨"RateBreaksModel", "read", "()I"⟩ ∈ lw_tbl := List.mem_of_getElem? (i := 692) (by decide +kernel)
theorem gw_693 : Cond.code ⟨"RateBreaksModel", "read", "()I"⟩ prog_7_method_16_code 4 (Option.some FieldType.int) ∈ lw_tbl := List.mem_of_getElem? (i := 693) (by decide +kernel)
theorem gw_694 : Cond.methodLink "RateBreaksModel" 128 ⟨"RateBreaksModel", "oneLine", "()Z"⟩ ∈ lw_tbl := List.mem_of_getElem? (i := 694) (by decide +kernel)
theorem gw_696 : Cond.instanceMethod ⟨"RateBreaksModel", "oneLine", "()Z"⟩ ∈ lw_tbl := List.mem_of_getElem? (i := 696) (by decide +kernel)
theorem gw_697 : Cond.code ⟨"RateBreaksModel", "oneLine", "()Z"⟩ prog_7_method_7_code 7 (Option.some FieldType.boolean) ∈ lw_tbl := List.mem_of_getElem? (i := 697) (by decide +kernel)
theorem gw_698 : Cond.methodLink "RateBreaksModel" 93 ⟨"RateBreaksModel", "here", "()I"⟩ ∈ lw_tbl := List.mem_of_getElem? (i := 698) (by decide +kernel)
theorem gw_700 : Cond.instanceMethod ⟨"RateBreaksModel", "here", "()I"⟩ ∈ lw_tbl := List.mem_of_getElem? (i := 700) (by decide +kernel)
theorem gw_701 : Cond.code ⟨"RateBreaksModel", "here", "()I"⟩ prog_7_method_3_code 1 (Option.some FieldType.int) ∈ lw_tbl := List.mem_of_getElem? (i := 701) (by decide +kernel)
theorem gw_702 : Cond.methodLink "RateBreaksModel" 97 ⟨"RateBreaksModel", "number", "()I"⟩ ∈ lw_tbl := List.mem_of_getElem? (i := 702) (by decide +kernel)
theorem gw_704 : Cond.instanceMethod ⟨"RateBreaksModel", "number", "()I"⟩ ∈ lw_tbl := List.mem_of_getElem? (i := 704) (by decide +kernel)
theorem gw_705 : Cond.code ⟨"RateBreaksModel", "number", "()I"⟩ prog_7_method_4_code 4 (Option.some FieldType.int) ∈ lw_tbl := List.mem_of_getElem? (i := 705) (by decide +kernel)
theorem gw_706 : Cond.constant "RateBreaksModel" 100 (100000 : Int32) ∈ lw_tbl := List.mem_of_getElem? (i := 706) (by decide +kernel)
theorem gw_707 : Cond.constant "RateBreaksModel" 101 (1000000 : Int32) ∈ lw_tbl := List.mem_of_getElem? (i := 707) (by decide +kernel)
theorem gw_708 : Cond.methodLink "RateBreaksModel" 102 ⟨"RateBreaksModel", "heaviest", "(II)I"⟩ ∈ lw_tbl := List.mem_of_getElem? (i := 708) (by decide +kernel)
theorem gw_710 : Cond.instanceMethod ⟨"RateBreaksModel", "heaviest", "(II)I"⟩ ∈ lw_tbl := List.mem_of_getElem? (i := 710) (by decide +kernel)
theorem gw_711 : Cond.code ⟨"RateBreaksModel", "heaviest", "(II)I"⟩ prog_7_method_6_code 5 (Option.some FieldType.int) ∈ lw_tbl := List.mem_of_getElem? (i := 711) (by decide +kernel)
theorem gw_712 : Cond.methodLink "RateBreaksModel" 106 ⟨"RateBreaksModel", "seen", "(II)Z"⟩ ∈ lw_tbl := List.mem_of_getElem? (i := 712) (by decide +kernel)
theorem gw_714 : Cond.instanceMethod ⟨"RateBreaksModel", "seen", "(II)Z"⟩ ∈ lw_tbl := List.mem_of_getElem? (i := 714) (by decide +kernel)
theorem gw_715 : Cond.code ⟨"RateBreaksModel", "seen", "(II)Z"⟩ prog_7_method_5_code 4 (Option.some FieldType.boolean) ∈ lw_tbl := List.mem_of_getElem? (i := 715) (by decide +kernel)
theorem gw_716 : Cond.methodLink "RateBreaksLaw" 90 ⟨"RateBreaksModel", "shipment", "(III)I"⟩ ∈ lw_tbl := List.mem_of_getElem? (i := 716) (by decide +kernel)
theorem gw_717 : Cond.instanceMethod ⟨"RateBreaksModel", "shipment", "(III)I"⟩ ∈ lw_tbl := List.mem_of_getElem? (i := 717) (by decide +kernel)
theorem gw_718 : Cond.selects "RateBreaksModel" ⟨"RateBreaksModel", "shipment", "(III)I"⟩ ⟨"RateBreaksModel", "shipment", "(III)I"⟩ ∈ lw_tbl := List.mem_of_getElem? (i := 718) (by decide +kernel)
theorem gw_719 : Cond.code ⟨"RateBreaksModel", "shipment", "(III)I"⟩ prog_7_method_17_code 4 (Option.some FieldType.int) ∈ lw_tbl := List.mem_of_getElem? (i := 719) (by decide +kernel)
theorem gw_720 : Cond.constant "RateBreaksModel" 132 (100000000 : Int32) ∈ lw_tbl := List.mem_of_getElem? (i := 720) (by decide +kernel)
theorem gw_721 : Cond.methodLink "RateBreaksLaw" 94 ⟨"RateBreaksModel", "weight", "(II)I"⟩ ∈ lw_tbl := List.mem_of_getElem? (i := 721) (by decide +kernel)
theorem gw_722 : Cond.instanceMethod ⟨"RateBreaksModel", "weight", "(II)I"⟩ ∈ lw_tbl := List.mem_of_getElem? (i := 722) (by decide +kernel)
theorem gw_723 : Cond.selects "RateBreaksModel" ⟨"RateBreaksModel", "weight", "(II)I"⟩ ⟨"RateBreaksModel", "weight", "(II)I"⟩ ∈ lw_tbl := List.mem_of_getElem? (i := 723) (by decide +kernel)
theorem gw_724 : Cond.code ⟨"RateBreaksModel", "weight", "(II)I"⟩ prog_7_method_18_code 3 (Option.some FieldType.int) ∈ lw_tbl := List.mem_of_getElem? (i := 724) (by decide +kernel)
theorem gw_725 : Cond.methodLink "RateBreaksModel" 133 ⟨"RateBreaksModel", "noShipment", "(I)Z"⟩ ∈ lw_tbl := List.mem_of_getElem? (i := 725) (by decide +kernel)
theorem gw_727 : Cond.instanceMethod ⟨"RateBreaksModel", "noShipment", "(I)Z"⟩ ∈ lw_tbl := List.mem_of_getElem? (i := 727) (by decide +kernel)
theorem gw_728 : Cond.code ⟨"RateBreaksModel", "noShipment", "(I)Z"⟩ prog_7_method_14_code 2 (Option.some FieldType.boolean) ∈ lw_tbl := List.mem_of_getElem? (i := 728) (by decide +kernel)
theorem gw_729 : Cond.methodLink "RateBreaksModel" 113 ⟨"RateBreaksModel", "toPay", "(II)I"⟩ ∈ lw_tbl := List.mem_of_getElem? (i := 729) (by decide +kernel)
theorem gw_731 : Cond.instanceMethod ⟨"RateBreaksModel", "toPay", "(II)I"⟩ ∈ lw_tbl := List.mem_of_getElem? (i := 731) (by decide +kernel)
theorem gw_732 : Cond.code ⟨"RateBreaksModel", "toPay", "(II)I"⟩ prog_7_method_10_code 6 (Option.some FieldType.int) ∈ lw_tbl := List.mem_of_getElem? (i := 732) (by decide +kernel)
theorem gw_733 : Cond.methodLink "RateBreaksModel" 110 ⟨"RateBreaksModel", "find", "(II)I"⟩ ∈ lw_tbl := List.mem_of_getElem? (i := 733) (by decide +kernel)
theorem gw_735 : Cond.instanceMethod ⟨"RateBreaksModel", "find", "(II)I"⟩ ∈ lw_tbl := List.mem_of_getElem? (i := 735) (by decide +kernel)
theorem gw_736 : Cond.code ⟨"RateBreaksModel", "find", "(II)I"⟩ prog_7_method_8_code 4 (Option.some FieldType.int) ∈ lw_tbl := List.mem_of_getElem? (i := 736) (by decide +kernel)
theorem gw_737 : Cond.methodLink "RateBreaksLaw" 97 ⟨"RateBreaksModel", "price", "(II)I"⟩ ∈ lw_tbl := List.mem_of_getElem? (i := 737) (by decide +kernel)
theorem gw_738 : Cond.instanceMethod ⟨"RateBreaksModel", "price", "(II)I"⟩ ∈ lw_tbl := List.mem_of_getElem? (i := 738) (by decide +kernel)
theorem gw_739 : Cond.selects "RateBreaksModel" ⟨"RateBreaksModel", "price", "(II)I"⟩ ⟨"RateBreaksModel", "price", "(II)I"⟩ ∈ lw_tbl := List.mem_of_getElem? (i := 739) (by decide +kernel)
theorem gw_740 : Cond.code ⟨"RateBreaksModel", "price", "(II)I"⟩ prog_7_method_19_code 3 (Option.some FieldType.int) ∈ lw_tbl := List.mem_of_getElem? (i := 740) (by decide +kernel)
theorem gw_741 : Cond.methodLink "RateBreaksModel" 137 ⟨"RateBreaksModel", "priceOf", "(II)I"⟩ ∈ lw_tbl := List.mem_of_getElem? (i := 741) (by decide +kernel)
theorem gw_743 : Cond.instanceMethod ⟨"RateBreaksModel", "priceOf", "(II)I"⟩ ∈ lw_tbl := List.mem_of_getElem? (i := 743) (by decide +kernel)
theorem gw_744 : Cond.code ⟨"RateBreaksModel", "priceOf", "(II)I"⟩ prog_7_method_12_code 9 (Option.some FieldType.int) ∈ lw_tbl := List.mem_of_getElem? (i := 744) (by decide +kernel)
theorem gw_745 : Cond.methodLink "RateBreaksModel" 116 ⟨"RateBreaksModel", "part", "(JII)I"⟩ ∈ lw_tbl := List.mem_of_getElem? (i := 745) (by decide +kernel)
theorem gw_746 : Cond.static ⟨"RateBreaksModel", "part", "(JII)I"⟩ ∈ lw_tbl := List.mem_of_getElem? (i := 746) (by decide +kernel)
theorem gw_747 : Cond.code ⟨"RateBreaksModel", "part", "(JII)I"⟩ prog_7_method_9_code 4 (Option.some FieldType.int) ∈ lw_tbl := List.mem_of_getElem? (i := 747) (by decide +kernel)
theorem gw_748 : Cond.methodLink "RateBreaksModel" 120 ⟨"RateBreaksModel", "booked", "(I)I"⟩ ∈ lw_tbl := List.mem_of_getElem? (i := 748) (by decide +kernel)
theorem gw_750 : Cond.instanceMethod ⟨"RateBreaksModel", "booked", "(I)I"⟩ ∈ lw_tbl := List.mem_of_getElem? (i := 750) (by decide +kernel)
theorem gw_751 : Cond.code ⟨"RateBreaksModel", "booked", "(I)I"⟩ prog_7_method_11_code 4 (Option.some FieldType.int) ∈ lw_tbl := List.mem_of_getElem? (i := 751) (by decide +kernel)
theorem gw_752 : Cond.methodLink "RateBreaksLaw" 100 ⟨"RateBreaksModel", "cheapest", "(I)I"⟩ ∈ lw_tbl := List.mem_of_getElem? (i := 752) (by decide +kernel)
theorem gw_753 : Cond.instanceMethod ⟨"RateBreaksModel", "cheapest", "(I)I"⟩ ∈ lw_tbl := List.mem_of_getElem? (i := 753) (by decide +kernel)
theorem gw_754 : Cond.selects "RateBreaksModel" ⟨"RateBreaksModel", "cheapest", "(I)I"⟩ ⟨"RateBreaksModel", "cheapest", "(I)I"⟩ ∈ lw_tbl := List.mem_of_getElem? (i := 754) (by decide +kernel)
theorem gw_755 : Cond.code ⟨"RateBreaksModel", "cheapest", "(I)I"⟩ prog_7_method_20_code 5 (Option.some FieldType.int) ∈ lw_tbl := List.mem_of_getElem? (i := 755) (by decide +kernel)
theorem gw_756 : Cond.methodLink "RateBreaksLaw" 103 ⟨"RateBreaksModel", "parcels", "(II)I"⟩ ∈ lw_tbl := List.mem_of_getElem? (i := 756) (by decide +kernel)
theorem gw_757 : Cond.instanceMethod ⟨"RateBreaksModel", "parcels", "(II)I"⟩ ∈ lw_tbl := List.mem_of_getElem? (i := 757) (by decide +kernel)
theorem gw_758 : Cond.selects "RateBreaksModel" ⟨"RateBreaksModel", "parcels", "(II)I"⟩ ⟨"RateBreaksModel", "parcels", "(II)I"⟩ ∈ lw_tbl := List.mem_of_getElem? (i := 758) (by decide +kernel)
theorem gw_759 : Cond.code ⟨"RateBreaksModel", "parcels", "(II)I"⟩ prog_7_method_21_code 11 (Option.some FieldType.int) ∈ lw_tbl := List.mem_of_getElem? (i := 759) (by decide +kernel)
theorem gw_760 : Cond.methodLink "RateBreaksLaw" 107 ⟨"RateBreaksModel", "contract", "(IIII)I"⟩ ∈ lw_tbl := List.mem_of_getElem? (i := 760) (by decide +kernel)
theorem gw_761 : Cond.instanceMethod ⟨"RateBreaksModel", "contract", "(IIII)I"⟩ ∈ lw_tbl := List.mem_of_getElem? (i := 761) (by decide +kernel)
theorem gw_762 : Cond.selects "RateBreaksModel" ⟨"RateBreaksModel", "contract", "(IIII)I"⟩ ⟨"RateBreaksModel", "contract", "(IIII)I"⟩ ∈ lw_tbl := List.mem_of_getElem? (i := 762) (by decide +kernel)
theorem gw_763 : Cond.code ⟨"RateBreaksModel", "contract", "(IIII)I"⟩ prog_7_method_22_code 6 (Option.some FieldType.int) ∈ lw_tbl := List.mem_of_getElem? (i := 763) (by decide +kernel)
theorem gw_764 : Cond.methodLink "RateBreaksLaw" 110 ⟨"RateBreaksModel", "book", "(II)I"⟩ ∈ lw_tbl := List.mem_of_getElem? (i := 764) (by decide +kernel)
theorem gw_765 : Cond.instanceMethod ⟨"RateBreaksModel", "book", "(II)I"⟩ ∈ lw_tbl := List.mem_of_getElem? (i := 765) (by decide +kernel)
theorem gw_766 : Cond.selects "RateBreaksModel" ⟨"RateBreaksModel", "book", "(II)I"⟩ ⟨"RateBreaksModel", "book", "(II)I"⟩ ∈ lw_tbl := List.mem_of_getElem? (i := 766) (by decide +kernel)
theorem gw_767 : Cond.code ⟨"RateBreaksModel", "book", "(II)I"⟩ prog_7_method_23_code 4 (Option.some FieldType.int) ∈ lw_tbl := List.mem_of_getElem? (i := 767) (by decide +kernel)
theorem gw_768 : Cond.methodLink "RateBreaksLaw" 113 ⟨"RateBreaksModel", "combine", "(II)I"⟩ ∈ lw_tbl := List.mem_of_getElem? (i := 768) (by decide +kernel)
theorem gw_769 : Cond.instanceMethod ⟨"RateBreaksModel", "combine", "(II)I"⟩ ∈ lw_tbl := List.mem_of_getElem? (i := 769) (by decide +kernel)
theorem gw_770 : Cond.selects "RateBreaksModel" ⟨"RateBreaksModel", "combine", "(II)I"⟩ ⟨"RateBreaksModel", "combine", "(II)I"⟩ ∈ lw_tbl := List.mem_of_getElem? (i := 770) (by decide +kernel)
theorem gw_771 : Cond.code ⟨"RateBreaksModel", "combine", "(II)I"⟩ prog_7_method_24_code 4 (Option.some FieldType.int) ∈ lw_tbl := List.mem_of_getElem? (i := 771) (by decide +kernel)
theorem gw_772 : Cond.methodLink "RateBreaksLaw" 116 ⟨"RateBreaksModel", "invoice", "(II)I"⟩ ∈ lw_tbl := List.mem_of_getElem? (i := 772) (by decide +kernel)
theorem gw_773 : Cond.instanceMethod ⟨"RateBreaksModel", "invoice", "(II)I"⟩ ∈ lw_tbl := List.mem_of_getElem? (i := 773) (by decide +kernel)
theorem gw_774 : Cond.selects "RateBreaksModel" ⟨"RateBreaksModel", "invoice", "(II)I"⟩ ⟨"RateBreaksModel", "invoice", "(II)I"⟩ ∈ lw_tbl := List.mem_of_getElem? (i := 774) (by decide +kernel)
theorem gw_775 : Cond.code ⟨"RateBreaksModel", "invoice", "(II)I"⟩ prog_7_method_25_code 3 (Option.some FieldType.int) ∈ lw_tbl := List.mem_of_getElem? (i := 775) (by decide +kernel)
theorem gw_776 : Cond.constant "RateBreaksModel" 140 (10000000 : Int32) ∈ lw_tbl := List.mem_of_getElem? (i := 776) (by decide +kernel)
theorem gw_777 : Cond.methodLink "RateBreaksLaw" 119 ⟨"RateBreaksModel", "refund", "(II)I"⟩ ∈ lw_tbl := List.mem_of_getElem? (i := 777) (by decide +kernel)
theorem gw_778 : Cond.instanceMethod ⟨"RateBreaksModel", "refund", "(II)I"⟩ ∈ lw_tbl := List.mem_of_getElem? (i := 778) (by decide +kernel)
theorem gw_779 : Cond.selects "RateBreaksModel" ⟨"RateBreaksModel", "refund", "(II)I"⟩ ⟨"RateBreaksModel", "refund", "(II)I"⟩ ∈ lw_tbl := List.mem_of_getElem? (i := 779) (by decide +kernel)
theorem gw_780 : Cond.code ⟨"RateBreaksModel", "refund", "(II)I"⟩ prog_7_method_26_code 3 (Option.some FieldType.int) ∈ lw_tbl := List.mem_of_getElem? (i := 780) (by decide +kernel)
theorem gw_781 : Cond.methodLink "RateBreaksLaw" 122 ⟨"RateBreaksModel", "differ", "(I)I"⟩ ∈ lw_tbl := List.mem_of_getElem? (i := 781) (by decide +kernel)
theorem gw_782 : Cond.instanceMethod ⟨"RateBreaksModel", "differ", "(I)I"⟩ ∈ lw_tbl := List.mem_of_getElem? (i := 782) (by decide +kernel)
theorem gw_783 : Cond.selects "RateBreaksModel" ⟨"RateBreaksModel", "differ", "(I)I"⟩ ⟨"RateBreaksModel", "differ", "(I)I"⟩ ∈ lw_tbl := List.mem_of_getElem? (i := 783) (by decide +kernel)
theorem gw_784 : Cond.code ⟨"RateBreaksModel", "differ", "(I)I"⟩ prog_7_method_27_code 4 (Option.some FieldType.int) ∈ lw_tbl := List.mem_of_getElem? (i := 784) (by decide +kernel)
theorem gw_785 : Cond.methodLink "RateBreaksLaw" 125 ⟨"RateBreaksModel", "currency", "(III)I"⟩ ∈ lw_tbl := List.mem_of_getElem? (i := 785) (by decide +kernel)
theorem gw_786 : Cond.instanceMethod ⟨"RateBreaksModel", "currency", "(III)I"⟩ ∈ lw_tbl := List.mem_of_getElem? (i := 786) (by decide +kernel)
theorem gw_787 : Cond.selects "RateBreaksModel" ⟨"RateBreaksModel", "currency", "(III)I"⟩ ⟨"RateBreaksModel", "currency", "(III)I"⟩ ∈ lw_tbl := List.mem_of_getElem? (i := 787) (by decide +kernel)
theorem gw_788 : Cond.code ⟨"RateBreaksModel", "currency", "(III)I"⟩ prog_7_method_28_code 5 (Option.some FieldType.int) ∈ lw_tbl := List.mem_of_getElem? (i := 788) (by decide +kernel)
theorem gw_789 : Cond.methodLink "RateBreaksLaw" 128 ⟨"RateBreaksModel", "converted", "(II)J"⟩ ∈ lw_tbl := List.mem_of_getElem? (i := 789) (by decide +kernel)
theorem gw_790 : Cond.instanceMethod ⟨"RateBreaksModel", "converted", "(II)J"⟩ ∈ lw_tbl := List.mem_of_getElem? (i := 790) (by decide +kernel)
theorem gw_791 : Cond.selects "RateBreaksModel" ⟨"RateBreaksModel", "converted", "(II)J"⟩ ⟨"RateBreaksModel", "converted", "(II)J"⟩ ∈ lw_tbl := List.mem_of_getElem? (i := 791) (by decide +kernel)
theorem gw_792 : Cond.code ⟨"RateBreaksModel", "converted", "(II)J"⟩ prog_7_method_29_code 5 (Option.some FieldType.long) ∈ lw_tbl := List.mem_of_getElem? (i := 792) (by decide +kernel)
theorem gw_793 : Cond.constantLong "RateBreaksModel" 141 (-1 : Int64) ∈ lw_tbl := List.mem_of_getElem? (i := 793) (by decide +kernel)
theorem gw_794 : Cond.methodLink "RateBreaksLaw" 131 ⟨"RateBreaksModel", "told", "(II)I"⟩ ∈ lw_tbl := List.mem_of_getElem? (i := 794) (by decide +kernel)
theorem gw_795 : Cond.instanceMethod ⟨"RateBreaksModel", "told", "(II)I"⟩ ∈ lw_tbl := List.mem_of_getElem? (i := 795) (by decide +kernel)
theorem gw_796 : Cond.selects "RateBreaksModel" ⟨"RateBreaksModel", "told", "(II)I"⟩ ⟨"RateBreaksModel", "told", "(II)I"⟩ ∈ lw_tbl := List.mem_of_getElem? (i := 796) (by decide +kernel)
theorem gw_797 : Cond.code ⟨"RateBreaksModel", "told", "(II)I"⟩ prog_7_method_30_code 3 (Option.some FieldType.int) ∈ lw_tbl := List.mem_of_getElem? (i := 797) (by decide +kernel)
theorem gw_798 : Cond.methodLink "RateBreaksLaw" 135 ⟨"RateBreaksModel", "count", "(I)I"⟩ ∈ lw_tbl := List.mem_of_getElem? (i := 798) (by decide +kernel)
theorem gw_799 : Cond.instanceMethod ⟨"RateBreaksModel", "count", "(I)I"⟩ ∈ lw_tbl := List.mem_of_getElem? (i := 799) (by decide +kernel)
theorem gw_800 : Cond.selects "RateBreaksModel" ⟨"RateBreaksModel", "count", "(I)I"⟩ ⟨"RateBreaksModel", "count", "(I)I"⟩ ∈ lw_tbl := List.mem_of_getElem? (i := 800) (by decide +kernel)
theorem gw_801 : Cond.code ⟨"RateBreaksModel", "count", "(I)I"⟩ prog_7_method_31_code 7 (Option.some FieldType.int) ∈ lw_tbl := List.mem_of_getElem? (i := 801) (by decide +kernel)
theorem gw_802 : Cond.arrayClass FieldType.long ∈ lw_tbl := List.mem_of_getElem? (i := 802) (by decide +kernel)
end
section
abbrev md_RB_init : gj_M := (⟨"RateBreaks", "<init>", "()V"⟩, prog_1_method_1_code, 2, none, [])
abbrev md_Tx_init : gj_M := (⟨"RateBreaks$Text", "<init>", "()V"⟩, prog_5_method_1_code, 1, none, [])
abbrev md_Ra_init : gj_M := (⟨"RateBreaks$Rates", "<init>", "()V"⟩, prog_2_method_1_code, 1, none, [])
abbrev md_Ra_clear : gj_M := (⟨"RateBreaks$Rates", "clear", "()V"⟩, prog_2_method_2_code, 2, none, [])
abbrev md_Ro_init : gj_M := (⟨"RateBreaks$Ratios", "<init>", "(I)V"⟩, prog_3_method_1_code, 3, none, [])
abbrev md_RB_read : gj_M := (⟨"RateBreaks", "read", "()I"⟩, prog_1_method_3_code, 3, some .int, [])
abbrev md_RB_readInto : gj_M := (⟨"RateBreaks", "readInto", "(LRateBreaks$Rates;)I"⟩, prog_1_method_24_code, 5, some .int, [])
abbrev md_Tx_behindLine : gj_M := (⟨"RateBreaks$Text", "behindLine", "(I)I"⟩, prog_5_method_5_code, 4, some .int, [])
abbrev md_Tx_at : gj_M := (⟨"RateBreaks$Text", "at", "(I)I"⟩, prog_5_method_4_code, 2, some .int, [])
abbrev md_Tx_numbersBehind : gj_M := (⟨"RateBreaks$Text", "numbersBehind", "(I)I"⟩, prog_5_method_6_code, 1, some .int, [])
abbrev md_Tx_takeNumber : gj_M := (⟨"RateBreaks$Text", "takeNumber", "()I"⟩, prog_5_method_7_code, 5, some .int, [])
abbrev md_Tx_isDigit : gj_M := (⟨"RateBreaks$Text", "isDigit", "(I)Z"⟩, prog_5_method_8_code, 1, some .boolean, [])
abbrev md_Ra_take : gj_M := (⟨"RateBreaks$Rates", "take", "(I[I)Z"⟩, prog_2_method_3_code, 3, some .boolean, [])
abbrev md_Ra_takeKind : gj_M := (⟨"RateBreaks$Rates", "takeKind", "(I[I)Z"⟩, prog_2_method_4_code, 4, some .boolean, [])
abbrev md_Ra_takeStep : gj_M := (⟨"RateBreaks$Rates", "takeStep", "(IIII)Z"⟩, prog_2_method_6_code, 7, some .boolean, [])
abbrev md_RB_laneOf : gj_M := (⟨"RateBreaks", "laneOf", "(II)I"⟩, prog_1_method_26_code, 2, some .int, [])
abbrev md_Ra_heaviest : gj_M := (⟨"RateBreaks$Rates", "heaviest", "(I)I"⟩, prog_2_method_7_code, 4, some .int, [])
abbrev md_Ra_takeOnce : gj_M := (⟨"RateBreaks$Rates", "takeOnce", "([IIII)Z"⟩, prog_2_method_5_code, 4, some .boolean, [])
abbrev md_Tx_clear : gj_M := (⟨"RateBreaks$Text", "clear", "()V"⟩, prog_5_method_2_code, 1, none, [])
abbrev md_RB_count : gj_M := (⟨"RateBreaks", "count", "(I)I"⟩, prog_1_method_18_code, 5, some .int, [])
abbrev md_RB_addend : gj_M := (⟨"RateBreaks", "addend", "(LRateBreaks$Shipment;I)I"⟩, prog_1_method_19_code, 2, some .int, [])
abbrev md_Sh_isBooked : gj_M := (⟨"RateBreaks$Shipment", "isBooked", "()Z"⟩, prog_4_method_2_code, 1, some .boolean, [])
abbrev md_Sh_isInvoiced : gj_M := (⟨"RateBreaks$Shipment", "isInvoiced", "()Z"⟩, prog_4_method_3_code, 1, some .boolean, [])
abbrev md_La_sign : gj_M := (⟨"RateBreaksLaw", "sign", "(LRateBreaks;I[J)I"⟩, method_3_code, 4, some .int, [(0, 9, 12, 13), (0, 9, 15, 15)])
abbrev md_RB_sign : gj_M := (⟨"RateBreaks", "sign", "(I)I"⟩, prog_1_method_2_code, 2, some .int, [])
abbrev md_RB_needWithin : gj_M := (⟨"RateBreaks", "needWithin", "(III)V"⟩, prog_1_method_20_code, 3, none, [])
abbrev md_Tx_append : gj_M := (⟨"RateBreaks$Text", "append", "(I)V"⟩, prog_5_method_3_code, 2, none, [])
abbrev md_La_shipment : gj_M := (⟨"RateBreaksLaw", "shipment", "(LRateBreaks;III[J)I"⟩, method_4_code, 6, some .int, [(0, 12, 15, 13), (0, 12, 19, 15)])
abbrev md_RB_shipment : gj_M := (⟨"RateBreaks", "shipment", "(III)I"⟩, prog_1_method_4_code, 4, some .int, [])
abbrev md_Sh_init : gj_M := (⟨"RateBreaks$Shipment", "<init>", "(III)V"⟩, prog_4_method_1_code, 4, none, [])
abbrev md_La_weight : gj_M := (⟨"RateBreaksLaw", "weight", "(LRateBreaks;II[J)I"⟩, method_5_code, 5, some .int, [(0, 10, 13, 25), (0, 10, 17, 13), (0, 10, 21, 27)])
abbrev md_RB_weight : gj_M := (⟨"RateBreaks", "weight", "(II)I"⟩, prog_1_method_5_code, 4, some .int, [])
abbrev md_RB_present : gj_M := (⟨"RateBreaks", "present", "(I)LRateBreaks$Shipment;"⟩, prog_1_method_23_code, 3, some (.object "RateBreaks$Shipment"), [])
abbrev md_RB_needService : gj_M := (⟨"RateBreaks", "needService", "(I)V"⟩, prog_1_method_21_code, 1, none, [])
abbrev md_Ra_weightToPay : gj_M := (⟨"RateBreaks$Rates", "weightToPay", "(LRateBreaks$Shipment;I)I"⟩, prog_2_method_8_code, 5, some .int, [])
abbrev md_RB_dividedUp : gj_M := (⟨"RateBreaks", "dividedUp", "(JJ)J"⟩, prog_1_method_28_code, 4, some .long, [])
abbrev md_RB_dividedDown : gj_M := (⟨"RateBreaks", "dividedDown", "(JJ)J"⟩, prog_1_method_27_code, 4, some .long, [])
abbrev md_La_price : gj_M := (⟨"RateBreaksLaw", "price", "(LRateBreaks;II[J)I"⟩, method_6_code, 5, some .int, [(0, 10, 13, 25), (0, 10, 17, 13), (0, 10, 21, 27)])
abbrev md_RB_price : gj_M := (⟨"RateBreaks", "price", "(II)I"⟩, prog_1_method_6_code, 4, some .int, [])
abbrev md_RB_priceNow : gj_M := (⟨"RateBreaks", "priceNow", "(LRateBreaks$Shipment;I)I"⟩, prog_1_method_25_code, 8, some .int, [])
abbrev md_Ra_stepFor : gj_M := (⟨"RateBreaks$Rates", "stepFor", "(II)I"⟩, prog_2_method_9_code, 4, some .int, [])
abbrev md_Ra_charged : gj_M := (⟨"RateBreaks$Rates", "charged", "(II)J"⟩, prog_2_method_10_code, 5, some .long, [])
abbrev md_Ro_latest : gj_M := (⟨"RateBreaks$Ratios", "latest", "(I)I"⟩, prog_3_method_5_code, 4, some .int, [])
abbrev md_La_cheapest : gj_M := (⟨"RateBreaksLaw", "cheapest", "(LRateBreaks;I[J)I"⟩, method_7_code, 4, some .int, [(0, 9, 12, 25)])
abbrev md_RB_cheapest : gj_M := (⟨"RateBreaks", "cheapest", "(I)I"⟩, prog_1_method_7_code, 7, some .int, [])
abbrev md_La_parcels : gj_M := (⟨"RateBreaksLaw", "parcels", "(LRateBreaks;II[J)I"⟩, method_8_code, 5, some .int, [(0, 10, 13, 25), (0, 10, 17, 13)])
abbrev md_RB_parcels : gj_M := (⟨"RateBreaks", "parcels", "(II)I"⟩, prog_1_method_8_code, 5, some .int, [])
abbrev md_Ra_leastCents : gj_M := (⟨"RateBreaks$Rates", "leastCents", "(IIIII)I"⟩, prog_2_method_11_code, 9, some .int, [])
abbrev md_La_contract : gj_M := (⟨"RateBreaksLaw", "contract", "(LRateBreaks;IIII[J)I"⟩, method_9_code, 7, some .int, [(0, 14, 17, 13), (0, 14, 21, 15)])
abbrev md_RB_contract : gj_M := (⟨"RateBreaks", "contract", "(IIII)I"⟩, prog_1_method_9_code, 6, some .int, [])
abbrev md_RB_needRoom : gj_M := (⟨"RateBreaks", "needRoom", "(LRateBreaks$Ratios;I)V"⟩, prog_1_method_22_code, 2, none, [])
abbrev md_Ro_hasRoomFor : gj_M := (⟨"RateBreaks$Ratios", "hasRoomFor", "(I)Z"⟩, prog_3_method_2_code, 2, some .boolean, [])
abbrev md_Ro_placeFor : gj_M := (⟨"RateBreaks$Ratios", "placeFor", "(I)I"⟩, prog_3_method_4_code, 3, some .int, [])
abbrev md_Ro_put : gj_M := (⟨"RateBreaks$Ratios", "put", "(III)V"⟩, prog_3_method_3_code, 5, none, [])
abbrev md_La_book : gj_M := (⟨"RateBreaksLaw", "book", "(LRateBreaks;II[J)I"⟩, method_10_code, 5, some .int, [(0, 10, 13, 25), (0, 10, 17, 13), (0, 10, 21, 45), (0, 10, 25, 27)])
abbrev md_RB_book : gj_M := (⟨"RateBreaks", "book", "(II)I"⟩, prog_1_method_10_code, 5, some .int, [])
abbrev md_La_combine : gj_M := (⟨"RateBreaksLaw", "combine", "(LRateBreaks;II[J)I"⟩, method_11_code, 5, some .int, [(0, 10, 13, 25), (0, 10, 17, 45)])
abbrev md_RB_combine : gj_M := (⟨"RateBreaks", "combine", "(II)I"⟩, prog_1_method_11_code, 7, some .int, [])
abbrev md_La_invoice : gj_M := (⟨"RateBreaksLaw", "invoice", "(LRateBreaks;II[J)I"⟩, method_12_code, 5, some .int, [(0, 10, 13, 25), (0, 10, 17, 13), (0, 10, 21, 45)])
abbrev md_RB_invoice : gj_M := (⟨"RateBreaks", "invoice", "(II)I"⟩, prog_1_method_12_code, 4, some .int, [])
abbrev md_La_refund : gj_M := (⟨"RateBreaksLaw", "refund", "(LRateBreaks;II[J)I"⟩, method_13_code, 5, some .int, [(0, 10, 13, 25), (0, 10, 17, 13), (0, 10, 21, 45)])
abbrev md_RB_refund : gj_M := (⟨"RateBreaks", "refund", "(II)I"⟩, prog_1_method_13_code, 4, some .int, [])
abbrev md_La_differ : gj_M := (⟨"RateBreaksLaw", "differ", "(LRateBreaks;I[J)I"⟩, method_14_code, 4, some .int, [(0, 9, 12, 13)])
abbrev md_RB_differ : gj_M := (⟨"RateBreaks", "differ", "(I)I"⟩, prog_1_method_14_code, 5, some .int, [])
abbrev md_La_currency : gj_M := (⟨"RateBreaksLaw", "currency", "(LRateBreaks;III[J)I"⟩, method_15_code, 6, some .int, [(0, 12, 15, 13), (0, 12, 19, 15)])
abbrev md_RB_currency : gj_M := (⟨"RateBreaks", "currency", "(III)I"⟩, prog_1_method_15_code, 4, some .int, [])
abbrev md_La_converted : gj_M := (⟨"RateBreaksLaw", "converted", "(LRateBreaks;II[J)I"⟩, method_16_code, 5, some .int, [(0, 9, 12, 13)])
abbrev md_RB_converted : gj_M := (⟨"RateBreaks", "converted", "(II)J"⟩, prog_1_method_16_code, 4, some .long, [])
abbrev md_La_told : gj_M := (⟨"RateBreaksLaw", "told", "(LRateBreaks;II[J)I"⟩, method_17_code, 5, some .int, [(0, 10, 13, 25), (0, 10, 17, 13)])
abbrev md_RB_told : gj_M := (⟨"RateBreaks", "told", "(II)I"⟩, prog_1_method_17_code, 4, some .int, [])
abbrev md_Mo_init : gj_M := (⟨"RateBreaksModel", "<init>", "()V"⟩, prog_7_method_1_code, 1, none, [])
abbrev md_Mo_thrown : gj_M := (⟨"RateBreaksModel", "thrown", "()I"⟩, prog_7_method_13_code, 1, some .int, [])
abbrev md_Mo_sign : gj_M := (⟨"RateBreaksModel", "sign", "(I)I"⟩, prog_7_method_15_code, 2, some .int, [])
abbrev md_Mo_not : gj_M := (⟨"RateBreaksModel", "not", "(III)Z"⟩, prog_7_method_2_code, 3, some .boolean, [])
abbrev md_Mo_read : gj_M := (⟨"RateBreaksModel", "read", "()I"⟩, prog_7_method_16_code, 4, some .int, [])
abbrev md_Mo_oneLine : gj_M := (⟨"RateBreaksModel", "oneLine", "()Z"⟩, prog_7_method_7_code, 7, some .boolean, [])
abbrev md_Mo_here : gj_M := (⟨"RateBreaksModel", "here", "()I"⟩, prog_7_method_3_code, 1, some .int, [])
abbrev md_Mo_number : gj_M := (⟨"RateBreaksModel", "number", "()I"⟩, prog_7_method_4_code, 4, some .int, [])
abbrev md_Mo_heaviest : gj_M := (⟨"RateBreaksModel", "heaviest", "(II)I"⟩, prog_7_method_6_code, 5, some .int, [])
abbrev md_Mo_seen : gj_M := (⟨"RateBreaksModel", "seen", "(II)Z"⟩, prog_7_method_5_code, 4, some .boolean, [])
abbrev md_Mo_shipment : gj_M := (⟨"RateBreaksModel", "shipment", "(III)I"⟩, prog_7_method_17_code, 4, some .int, [])
abbrev md_Mo_weight : gj_M := (⟨"RateBreaksModel", "weight", "(II)I"⟩, prog_7_method_18_code, 3, some .int, [])
abbrev md_Mo_noShipment : gj_M := (⟨"RateBreaksModel", "noShipment", "(I)Z"⟩, prog_7_method_14_code, 2, some .boolean, [])
abbrev md_Mo_toPay : gj_M := (⟨"RateBreaksModel", "toPay", "(II)I"⟩, prog_7_method_10_code, 6, some .int, [])
abbrev md_Mo_find : gj_M := (⟨"RateBreaksModel", "find", "(II)I"⟩, prog_7_method_8_code, 4, some .int, [])
abbrev md_Mo_price : gj_M := (⟨"RateBreaksModel", "price", "(II)I"⟩, prog_7_method_19_code, 3, some .int, [])
abbrev md_Mo_priceOf : gj_M := (⟨"RateBreaksModel", "priceOf", "(II)I"⟩, prog_7_method_12_code, 9, some .int, [])
abbrev md_Mo_part : gj_M := (⟨"RateBreaksModel", "part", "(JII)I"⟩, prog_7_method_9_code, 4, some .int, [])
abbrev md_Mo_booked : gj_M := (⟨"RateBreaksModel", "booked", "(I)I"⟩, prog_7_method_11_code, 4, some .int, [])
abbrev md_Mo_cheapest : gj_M := (⟨"RateBreaksModel", "cheapest", "(I)I"⟩, prog_7_method_20_code, 5, some .int, [])
abbrev md_Mo_parcels : gj_M := (⟨"RateBreaksModel", "parcels", "(II)I"⟩, prog_7_method_21_code, 11, some .int, [])
abbrev md_Mo_contract : gj_M := (⟨"RateBreaksModel", "contract", "(IIII)I"⟩, prog_7_method_22_code, 6, some .int, [])
abbrev md_Mo_book : gj_M := (⟨"RateBreaksModel", "book", "(II)I"⟩, prog_7_method_23_code, 4, some .int, [])
abbrev md_Mo_combine : gj_M := (⟨"RateBreaksModel", "combine", "(II)I"⟩, prog_7_method_24_code, 4, some .int, [])
abbrev md_Mo_invoice : gj_M := (⟨"RateBreaksModel", "invoice", "(II)I"⟩, prog_7_method_25_code, 3, some .int, [])
abbrev md_Mo_refund : gj_M := (⟨"RateBreaksModel", "refund", "(II)I"⟩, prog_7_method_26_code, 3, some .int, [])
abbrev md_Mo_differ : gj_M := (⟨"RateBreaksModel", "differ", "(I)I"⟩, prog_7_method_27_code, 4, some .int, [])
abbrev md_Mo_currency : gj_M := (⟨"RateBreaksModel", "currency", "(III)I"⟩, prog_7_method_28_code, 5, some .int, [])
abbrev md_Mo_converted : gj_M := (⟨"RateBreaksModel", "converted", "(II)J"⟩, prog_7_method_29_code, 5, some .long, [])
abbrev md_Mo_told : gj_M := (⟨"RateBreaksModel", "told", "(II)I"⟩, prog_7_method_30_code, 3, some .int, [])
abbrev md_Mo_count : gj_M := (⟨"RateBreaksModel", "count", "(I)I"⟩, prog_7_method_31_code, 7, some .int, [])
abbrev md_La_law : gj_M := (⟨"RateBreaksLaw", "law", "([I)Z"⟩, code, 8, some .boolean, [])
theorem mo_RB_init : gj_mok md_RB_init := ⟨by decide, ⟨by decide, by decide⟩, Or.inl ⟨rfl, gw_39⟩⟩
theorem mo_Tx_init : gj_mok md_Tx_init := ⟨by decide, ⟨by decide, by decide⟩, Or.inl ⟨rfl, gw_47⟩⟩
theorem mo_Ra_init : gj_mok md_Ra_init := ⟨by decide, ⟨by decide, by decide⟩, Or.inl ⟨rfl, gw_69⟩⟩
theorem mo_Ra_clear : gj_mok md_Ra_clear := ⟨by decide, ⟨by decide, by decide⟩, Or.inl ⟨rfl, gw_74⟩⟩
theorem mo_Ro_init : gj_mok md_Ro_init := ⟨by decide, ⟨by decide, by decide⟩, Or.inl ⟨rfl, gw_115⟩⟩
theorem mo_RB_read : gj_mok md_RB_read := ⟨by decide, ⟨by decide, by decide⟩, Or.inl ⟨rfl, gw_164⟩⟩
theorem mo_RB_readInto : gj_mok md_RB_readInto := ⟨by decide, ⟨by decide, by decide⟩, Or.inl ⟨rfl, gw_168⟩⟩
theorem mo_Tx_behindLine : gj_mok md_Tx_behindLine := ⟨by decide, ⟨by decide, by decide⟩, Or.inl ⟨rfl, gw_173⟩⟩
theorem mo_Tx_at : gj_mok md_Tx_at := ⟨by decide, ⟨by decide, by decide⟩, Or.inl ⟨rfl, gw_177⟩⟩
theorem mo_Tx_numbersBehind : gj_mok md_Tx_numbersBehind := ⟨by decide, ⟨by decide, by decide⟩, Or.inl ⟨rfl, gw_180⟩⟩
theorem mo_Tx_takeNumber : gj_mok md_Tx_takeNumber := ⟨by decide, ⟨by decide, by decide⟩, Or.inl ⟨rfl, gw_184⟩⟩
theorem mo_Tx_isDigit : gj_mok md_Tx_isDigit := ⟨by decide, ⟨by decide, by decide⟩, Or.inl ⟨rfl, gw_187⟩⟩
theorem mo_Ra_take : gj_mok md_Ra_take := ⟨by decide, ⟨by decide, by decide⟩, Or.inl ⟨rfl, gw_192⟩⟩
theorem mo_Ra_takeKind : gj_mok md_Ra_takeKind := ⟨by decide, ⟨by decide, by decide⟩, Or.inl ⟨rfl, gw_196⟩⟩
theorem mo_Ra_takeStep : gj_mok md_Ra_takeStep := ⟨by decide, ⟨by decide, by decide⟩, Or.inl ⟨rfl, gw_200⟩⟩
theorem mo_RB_laneOf : gj_mok md_RB_laneOf := ⟨by decide, ⟨by decide, by decide⟩, Or.inl ⟨rfl, gw_205⟩⟩
theorem mo_Ra_heaviest : gj_mok md_Ra_heaviest := ⟨by decide, ⟨by decide, by decide⟩, Or.inl ⟨rfl, gw_209⟩⟩
theorem mo_Ra_takeOnce : gj_mok md_Ra_takeOnce := ⟨by decide, ⟨by decide, by decide⟩, Or.inl ⟨rfl, gw_212⟩⟩
theorem mo_Tx_clear : gj_mok md_Tx_clear := ⟨by decide, ⟨by decide, by decide⟩, Or.inl ⟨rfl, gw_216⟩⟩
theorem mo_RB_count : gj_mok md_RB_count := ⟨by decide, ⟨by decide, by decide⟩, Or.inl ⟨rfl, gw_220⟩⟩
theorem mo_RB_addend : gj_mok md_RB_addend := ⟨by decide, ⟨by decide, by decide⟩, Or.inl ⟨rfl, gw_223⟩⟩
theorem mo_Sh_isBooked : gj_mok md_Sh_isBooked := ⟨by decide, ⟨by decide, by decide⟩, Or.inl ⟨rfl, gw_227⟩⟩
theorem mo_Sh_isInvoiced : gj_mok md_Sh_isInvoiced := ⟨by decide, ⟨by decide, by decide⟩, Or.inl ⟨rfl, gw_231⟩⟩
theorem mo_La_sign : gj_mok md_La_sign := ⟨by decide, ⟨by decide, by decide⟩, Or.inr gw_234⟩
theorem mo_RB_sign : gj_mok md_RB_sign := ⟨by decide, ⟨by decide, by decide⟩, Or.inl ⟨rfl, gw_240⟩⟩
theorem mo_RB_needWithin : gj_mok md_RB_needWithin := ⟨by decide, ⟨by decide, by decide⟩, Or.inl ⟨rfl, gw_243⟩⟩
theorem mo_Tx_append : gj_mok md_Tx_append := ⟨by decide, ⟨by decide, by decide⟩, Or.inl ⟨rfl, gw_333⟩⟩
theorem mo_La_shipment : gj_mok md_La_shipment := ⟨by decide, ⟨by decide, by decide⟩, Or.inr gw_336⟩
theorem mo_RB_shipment : gj_mok md_RB_shipment := ⟨by decide, ⟨by decide, by decide⟩, Or.inl ⟨rfl, gw_340⟩⟩
theorem mo_Sh_init : gj_mok md_Sh_init := ⟨by decide, ⟨by decide, by decide⟩, Or.inl ⟨rfl, gw_347⟩⟩
theorem mo_La_weight : gj_mok md_La_weight := ⟨by decide, ⟨by decide, by decide⟩, Or.inr gw_378⟩
theorem mo_RB_weight : gj_mok md_RB_weight := ⟨by decide, ⟨by decide, by decide⟩, Or.inl ⟨rfl, gw_384⟩⟩
theorem mo_RB_present : gj_mok md_RB_present := ⟨by decide, ⟨by decide, by decide⟩, Or.inl ⟨rfl, gw_388⟩⟩
theorem mo_RB_needService : gj_mok md_RB_needService := ⟨by decide, ⟨by decide, by decide⟩, Or.inl ⟨rfl, gw_407⟩⟩
theorem mo_Ra_weightToPay : gj_mok md_Ra_weightToPay := ⟨by decide, ⟨by decide, by decide⟩, Or.inl ⟨rfl, gw_412⟩⟩
theorem mo_RB_dividedUp : gj_mok md_RB_dividedUp := ⟨by decide, ⟨by decide, by decide⟩, Or.inl ⟨rfl, gw_415⟩⟩
theorem mo_RB_dividedDown : gj_mok md_RB_dividedDown := ⟨by decide, ⟨by decide, by decide⟩, Or.inl ⟨rfl, gw_418⟩⟩
theorem mo_La_price : gj_mok md_La_price := ⟨by decide, ⟨by decide, by decide⟩, Or.inr gw_438⟩
theorem mo_RB_price : gj_mok md_RB_price := ⟨by decide, ⟨by decide, by decide⟩, Or.inl ⟨rfl, gw_442⟩⟩
theorem mo_RB_priceNow : gj_mok md_RB_priceNow := ⟨by decide, ⟨by decide, by decide⟩, Or.inl ⟨rfl, gw_446⟩⟩
theorem mo_Ra_stepFor : gj_mok md_Ra_stepFor := ⟨by decide, ⟨by decide, by decide⟩, Or.inl ⟨rfl, gw_451⟩⟩
theorem mo_Ra_charged : gj_mok md_Ra_charged := ⟨by decide, ⟨by decide, by decide⟩, Or.inl ⟨rfl, gw_455⟩⟩
theorem mo_Ro_latest : gj_mok md_Ro_latest := ⟨by decide, ⟨by decide, by decide⟩, Or.inl ⟨rfl, gw_462⟩⟩
theorem mo_La_cheapest : gj_mok md_La_cheapest := ⟨by decide, ⟨by decide, by decide⟩, Or.inr gw_466⟩
theorem mo_RB_cheapest : gj_mok md_RB_cheapest := ⟨by decide, ⟨by decide, by decide⟩, Or.inl ⟨rfl, gw_470⟩⟩
theorem mo_La_parcels : gj_mok md_La_parcels := ⟨by decide, ⟨by decide, by decide⟩, Or.inr gw_473⟩
theorem mo_RB_parcels : gj_mok md_RB_parcels := ⟨by decide, ⟨by decide, by decide⟩, Or.inl ⟨rfl, gw_477⟩⟩
theorem mo_Ra_leastCents : gj_mok md_Ra_leastCents := ⟨by decide, ⟨by decide, by decide⟩, Or.inl ⟨rfl, gw_481⟩⟩
theorem mo_La_contract : gj_mok md_La_contract := ⟨by decide, ⟨by decide, by decide⟩, Or.inr gw_485⟩
theorem mo_RB_contract : gj_mok md_RB_contract := ⟨by decide, ⟨by decide, by decide⟩, Or.inl ⟨rfl, gw_489⟩⟩
theorem mo_RB_needRoom : gj_mok md_RB_needRoom := ⟨by decide, ⟨by decide, by decide⟩, Or.inl ⟨rfl, gw_492⟩⟩
theorem mo_Ro_hasRoomFor : gj_mok md_Ro_hasRoomFor := ⟨by decide, ⟨by decide, by decide⟩, Or.inl ⟨rfl, gw_496⟩⟩
theorem mo_Ro_placeFor : gj_mok md_Ro_placeFor := ⟨by decide, ⟨by decide, by decide⟩, Or.inl ⟨rfl, gw_500⟩⟩
theorem mo_Ro_put : gj_mok md_Ro_put := ⟨by decide, ⟨by decide, by decide⟩, Or.inl ⟨rfl, gw_505⟩⟩
theorem mo_La_book : gj_mok md_La_book := ⟨by decide, ⟨by decide, by decide⟩, Or.inr gw_508⟩
theorem mo_RB_book : gj_mok md_RB_book := ⟨by decide, ⟨by decide, by decide⟩, Or.inl ⟨rfl, gw_513⟩⟩
theorem mo_La_combine : gj_mok md_La_combine := ⟨by decide, ⟨by decide, by decide⟩, Or.inr gw_533⟩
theorem mo_RB_combine : gj_mok md_RB_combine := ⟨by decide, ⟨by decide, by decide⟩, Or.inl ⟨rfl, gw_537⟩⟩
theorem mo_La_invoice : gj_mok md_La_invoice := ⟨by decide, ⟨by decide, by decide⟩, Or.inr gw_544⟩
theorem mo_RB_invoice : gj_mok md_RB_invoice := ⟨by decide, ⟨by decide, by decide⟩, Or.inl ⟨rfl, gw_548⟩⟩
theorem mo_La_refund : gj_mok md_La_refund := ⟨by decide, ⟨by decide, by decide⟩, Or.inr gw_553⟩
theorem mo_RB_refund : gj_mok md_RB_refund := ⟨by decide, ⟨by decide, by decide⟩, Or.inl ⟨rfl, gw_557⟩⟩
theorem mo_La_differ : gj_mok md_La_differ := ⟨by decide, ⟨by decide, by decide⟩, Or.inr gw_561⟩
theorem mo_RB_differ : gj_mok md_RB_differ := ⟨by decide, ⟨by decide, by decide⟩, Or.inl ⟨rfl, gw_565⟩⟩
theorem mo_La_currency : gj_mok md_La_currency := ⟨by decide, ⟨by decide, by decide⟩, Or.inr gw_569⟩
theorem mo_RB_currency : gj_mok md_RB_currency := ⟨by decide, ⟨by decide, by decide⟩, Or.inl ⟨rfl, gw_573⟩⟩
theorem mo_La_converted : gj_mok md_La_converted := ⟨by decide, ⟨by decide, by decide⟩, Or.inr gw_576⟩
theorem mo_RB_converted : gj_mok md_RB_converted := ⟨by decide, ⟨by decide, by decide⟩, Or.inl ⟨rfl, gw_580⟩⟩
theorem mo_La_told : gj_mok md_La_told := ⟨by decide, ⟨by decide, by decide⟩, Or.inr gw_584⟩
theorem mo_RB_told : gj_mok md_RB_told := ⟨by decide, ⟨by decide, by decide⟩, Or.inl ⟨rfl, gw_588⟩⟩
theorem mo_Mo_init : gj_mok md_Mo_init := ⟨by decide, ⟨by decide, by decide⟩, Or.inl ⟨rfl, gw_594⟩⟩
theorem mo_Mo_thrown : gj_mok md_Mo_thrown := ⟨by decide, ⟨by decide, by decide⟩, Or.inl ⟨rfl, gw_682⟩⟩
theorem mo_Mo_sign : gj_mok md_Mo_sign := ⟨by decide, ⟨by decide, by decide⟩, Or.inl ⟨rfl, gw_686⟩⟩
theorem mo_Mo_not : gj_mok md_Mo_not := ⟨by decide, ⟨by decide, by decide⟩, Or.inl ⟨rfl, gw_689⟩⟩
theorem mo_Mo_read : gj_mok md_Mo_read := ⟨by decide, ⟨by decide, by decide⟩, Or.inl ⟨rfl, gw_693⟩⟩
theorem mo_Mo_oneLine : gj_mok md_Mo_oneLine := ⟨by decide, ⟨by decide, by decide⟩, Or.inl ⟨rfl, gw_697⟩⟩
theorem mo_Mo_here : gj_mok md_Mo_here := ⟨by decide, ⟨by decide, by decide⟩, Or.inl ⟨rfl, gw_701⟩⟩
theorem mo_Mo_number : gj_mok md_Mo_number := ⟨by decide, ⟨by decide, by decide⟩, Or.inl ⟨rfl, gw_705⟩⟩
theorem mo_Mo_heaviest : gj_mok md_Mo_heaviest := ⟨by decide, ⟨by decide, by decide⟩, Or.inl ⟨rfl, gw_711⟩⟩
theorem mo_Mo_seen : gj_mok md_Mo_seen := ⟨by decide, ⟨by decide, by decide⟩, Or.inl ⟨rfl, gw_715⟩⟩
theorem mo_Mo_shipment : gj_mok md_Mo_shipment := ⟨by decide, ⟨by decide, by decide⟩, Or.inl ⟨rfl, gw_719⟩⟩
theorem mo_Mo_weight : gj_mok md_Mo_weight := ⟨by decide, ⟨by decide, by decide⟩, Or.inl ⟨rfl, gw_724⟩⟩
theorem mo_Mo_noShipment : gj_mok md_Mo_noShipment := ⟨by decide, ⟨by decide, by decide⟩, Or.inl ⟨rfl, gw_728⟩⟩
theorem mo_Mo_toPay : gj_mok md_Mo_toPay := ⟨by decide, ⟨by decide, by decide⟩, Or.inl ⟨rfl, gw_732⟩⟩
theorem mo_Mo_find : gj_mok md_Mo_find := ⟨by decide, ⟨by decide, by decide⟩, Or.inl ⟨rfl, gw_736⟩⟩
theorem mo_Mo_price : gj_mok md_Mo_price := ⟨by decide, ⟨by decide, by decide⟩, Or.inl ⟨rfl, gw_740⟩⟩
theorem mo_Mo_priceOf : gj_mok md_Mo_priceOf := ⟨by decide, ⟨by decide, by decide⟩, Or.inl ⟨rfl, gw_744⟩⟩
theorem mo_Mo_part : gj_mok md_Mo_part := ⟨by decide, ⟨by decide, by decide⟩, Or.inl ⟨rfl, gw_747⟩⟩
theorem mo_Mo_booked : gj_mok md_Mo_booked := ⟨by decide, ⟨by decide, by decide⟩, Or.inl ⟨rfl, gw_751⟩⟩
theorem mo_Mo_cheapest : gj_mok md_Mo_cheapest := ⟨by decide, ⟨by decide, by decide⟩, Or.inl ⟨rfl, gw_755⟩⟩
theorem mo_Mo_parcels : gj_mok md_Mo_parcels := ⟨by decide, ⟨by decide, by decide⟩, Or.inl ⟨rfl, gw_759⟩⟩
theorem mo_Mo_contract : gj_mok md_Mo_contract := ⟨by decide, ⟨by decide, by decide⟩, Or.inl ⟨rfl, gw_763⟩⟩
theorem mo_Mo_book : gj_mok md_Mo_book := ⟨by decide, ⟨by decide, by decide⟩, Or.inl ⟨rfl, gw_767⟩⟩
theorem mo_Mo_combine : gj_mok md_Mo_combine := ⟨by decide, ⟨by decide, by decide⟩, Or.inl ⟨rfl, gw_771⟩⟩
theorem mo_Mo_invoice : gj_mok md_Mo_invoice := ⟨by decide, ⟨by decide, by decide⟩, Or.inl ⟨rfl, gw_775⟩⟩
theorem mo_Mo_refund : gj_mok md_Mo_refund := ⟨by decide, ⟨by decide, by decide⟩, Or.inl ⟨rfl, gw_780⟩⟩
theorem mo_Mo_differ : gj_mok md_Mo_differ := ⟨by decide, ⟨by decide, by decide⟩, Or.inl ⟨rfl, gw_784⟩⟩
theorem mo_Mo_currency : gj_mok md_Mo_currency := ⟨by decide, ⟨by decide, by decide⟩, Or.inl ⟨rfl, gw_788⟩⟩
theorem mo_Mo_converted : gj_mok md_Mo_converted := ⟨by decide, ⟨by decide, by decide⟩, Or.inl ⟨rfl, gw_792⟩⟩
theorem mo_Mo_told : gj_mok md_Mo_told := ⟨by decide, ⟨by decide, by decide⟩, Or.inl ⟨rfl, gw_797⟩⟩
theorem mo_Mo_count : gj_mok md_Mo_count := ⟨by decide, ⟨by decide, by decide⟩, Or.inl ⟨rfl, gw_801⟩⟩
theorem gn_RB_7 : gj_nok "RateBreaks" 7 1 4 [.null, .null, .int 0, .int 0] := ⟨R_Tx, F_Tx, t_Tx, rfl, li_Tx, to_Tx, gw_43, gw_44, gw_21, fun j hj => by (rcases (show j = 0 ∨ j = 1 ∨ j = 2 ∨ j = 3 by omega) with rfl | rfl | rfl | rfl) <;> rfl, fun _ => rfl, fun _ v hv => by simp at hv; rcases hv with rfl | rfl | rfl | rfl <;> trivial⟩
theorem gp_RB_10 : gj_pok "RateBreaks" 10 0 0 (.object "RateBreaks$Text") true := ⟨R_RB, F_RB, 8, t_RB, rfl, by decide, gw_136, li_RB, to_RB, n_RB, by decide +kernel, rfl, fun _ => rfl⟩
theorem gn_RB_16 : gj_nok "RateBreaks" 16 2 10 [.null, .null, .null, .null, .null, .null, .null, .null, .int 0, .int 0] := ⟨R_Ra, F_Ra, t_Ra, rfl, li_Ra, to_Ra, gw_65, gw_66, gw_22, fun j hj => by (rcases (show j = 0 ∨ j = 1 ∨ j = 2 ∨ j = 3 ∨ j = 4 ∨ j = 5 ∨ j = 6 ∨ j = 7 ∨ j = 8 ∨ j = 9 by omega) with rfl | rfl | rfl | rfl | rfl | rfl | rfl | rfl | rfl | rfl) <;> rfl, fun _ => rfl, fun _ v hv => by simp at hv; rcases hv with rfl | rfl | rfl | rfl | rfl | rfl | rfl | rfl | rfl | rfl <;> trivial⟩
theorem gp_RB_19 : gj_pok "RateBreaks" 19 0 1 (.object "RateBreaks$Rates") false := ⟨R_RB, F_RB, 8, t_RB, rfl, by decide, gw_137, li_RB, to_RB, n_RB, by decide +kernel, rfl, fun h => nomatch h⟩
theorem gp_RB_23 : gj_pok "RateBreaks" 23 0 2 (.object "RateBreaks$Rates") false := ⟨R_RB, F_RB, 8, t_RB, rfl, by decide, gw_138, li_RB, to_RB, n_RB, by decide +kernel, rfl, fun h => nomatch h⟩
theorem gp_RB_28 : gj_pok "RateBreaks" 28 0 3 (.array (.object "RateBreaks$Shipment")) true := ⟨R_RB, F_RB, 8, t_RB, rfl, by decide, gw_139, li_RB, to_RB, n_RB, by decide +kernel, rfl, fun _ => rfl⟩
theorem gp_RB_32 : gj_pok "RateBreaks" 32 0 4 (.int) false := ⟨R_RB, F_RB, 8, t_RB, rfl, by decide, gw_140, li_RB, to_RB, n_RB, by decide +kernel, rfl, fun h => nomatch h⟩
theorem gp_RB_38 : gj_pok "RateBreaks" 38 0 5 (.array (.object "RateBreaks$Ratios")) true := ⟨R_RB, F_RB, 8, t_RB, rfl, by decide, gw_141, li_RB, to_RB, n_RB, by decide +kernel, rfl, fun _ => rfl⟩
theorem gf_RB_38 : gj_fok "RateBreaks" 38 0 5 := ⟨R_RB, F_RB, 8, rfl, by decide, gw_141, li_RB⟩
theorem gn_RB_36 : gj_nok "RateBreaks" 36 3 4 [.null, .null, .null, .int 0] := ⟨R_Ro, F_Ro, t_Ro, rfl, li_Ro, to_Ro, gw_110, gw_112, gw_23, fun j hj => by (rcases (show j = 0 ∨ j = 1 ∨ j = 2 ∨ j = 3 by omega) with rfl | rfl | rfl | rfl) <;> rfl, fun _ => rfl, fun _ v hv => by simp at hv; rcases hv with rfl | rfl | rfl | rfl <;> trivial⟩
theorem gp_RB_45 : gj_pok "RateBreaks" 45 0 6 (.array .int) true := ⟨R_RB, F_RB, 8, t_RB, rfl, by decide, gw_142, li_RB, to_RB, n_RB, by decide +kernel, rfl, fun _ => rfl⟩
theorem gp_RB_49 : gj_pok "RateBreaks" 49 0 7 (.object "RateBreaks$Ratios") true := ⟨R_RB, F_RB, 8, t_RB, rfl, by decide, gw_143, li_RB, to_RB, n_RB, by decide +kernel, rfl, fun _ => rfl⟩
theorem gp_Tx_9 : gj_pok "RateBreaks$Text" 9 1 0 (.array .int) true := ⟨R_Tx, F_Tx, 4, t_Tx, rfl, by decide, gw_49, li_Tx, to_Tx, n_Tx, by decide +kernel, rfl, fun _ => rfl⟩
theorem gp_Tx_15 : gj_pok "RateBreaks$Text" 15 1 1 (.array .int) true := ⟨R_Tx, F_Tx, 4, t_Tx, rfl, by decide, gw_50, li_Tx, to_Tx, n_Tx, by decide +kernel, rfl, fun _ => rfl⟩
theorem gp_Tx_18 : gj_pok "RateBreaks$Text" 18 1 2 (.int) false := ⟨R_Tx, F_Tx, 4, t_Tx, rfl, by decide, gw_52, li_Tx, to_Tx, n_Tx, by decide +kernel, rfl, fun h => nomatch h⟩
theorem gp_Tx_22 : gj_pok "RateBreaks$Text" 22 1 3 (.int) false := ⟨R_Tx, F_Tx, 4, t_Tx, rfl, by decide, gw_54, li_Tx, to_Tx, n_Tx, by decide +kernel, rfl, fun h => nomatch h⟩
theorem gp_Ra_9 : gj_pok "RateBreaks$Rates" 9 2 0 (.array .int) true := ⟨R_Ra, F_Ra, 10, t_Ra, rfl, by decide, gw_75, li_Ra, to_Ra, n_Ra, by decide +kernel, rfl, fun _ => rfl⟩
theorem gp_Ra_15 : gj_pok "RateBreaks$Rates" 15 2 1 (.array .int) true := ⟨R_Ra, F_Ra, 10, t_Ra, rfl, by decide, gw_76, li_Ra, to_Ra, n_Ra, by decide +kernel, rfl, fun _ => rfl⟩
theorem gp_Ra_18 : gj_pok "RateBreaks$Rates" 18 2 2 (.array .int) true := ⟨R_Ra, F_Ra, 10, t_Ra, rfl, by decide, gw_77, li_Ra, to_Ra, n_Ra, by decide +kernel, rfl, fun _ => rfl⟩
theorem gp_Ra_21 : gj_pok "RateBreaks$Rates" 21 2 3 (.array .int) true := ⟨R_Ra, F_Ra, 10, t_Ra, rfl, by decide, gw_78, li_Ra, to_Ra, n_Ra, by decide +kernel, rfl, fun _ => rfl⟩
theorem gp_Ra_24 : gj_pok "RateBreaks$Rates" 24 2 4 (.array .int) true := ⟨R_Ra, F_Ra, 10, t_Ra, rfl, by decide, gw_79, li_Ra, to_Ra, n_Ra, by decide +kernel, rfl, fun _ => rfl⟩
theorem gp_Ra_27 : gj_pok "RateBreaks$Rates" 27 2 5 (.array .int) true := ⟨R_Ra, F_Ra, 10, t_Ra, rfl, by decide, gw_81, li_Ra, to_Ra, n_Ra, by decide +kernel, rfl, fun _ => rfl⟩
theorem gp_Ra_30 : gj_pok "RateBreaks$Rates" 30 2 6 (.array .int) true := ⟨R_Ra, F_Ra, 10, t_Ra, rfl, by decide, gw_82, li_Ra, to_Ra, n_Ra, by decide +kernel, rfl, fun _ => rfl⟩
theorem gp_Ra_33 : gj_pok "RateBreaks$Rates" 33 2 7 (.array .int) true := ⟨R_Ra, F_Ra, 10, t_Ra, rfl, by decide, gw_83, li_Ra, to_Ra, n_Ra, by decide +kernel, rfl, fun _ => rfl⟩
theorem gp_Ra_39 : gj_pok "RateBreaks$Rates" 39 2 8 (.int) false := ⟨R_Ra, F_Ra, 10, t_Ra, rfl, by decide, gw_84, li_Ra, to_Ra, n_Ra, by decide +kernel, rfl, fun h => nomatch h⟩
theorem gp_Ra_43 : gj_pok "RateBreaks$Rates" 43 2 9 (.int) false := ⟨R_Ra, F_Ra, 10, t_Ra, rfl, by decide, gw_86, li_Ra, to_Ra, n_Ra, by decide +kernel, rfl, fun h => nomatch h⟩
theorem gf_Ra_24 : gj_fok "RateBreaks$Rates" 24 2 4 := ⟨R_Ra, F_Ra, 10, rfl, by decide, gw_79, li_Ra⟩
theorem gf_Ra_27 : gj_fok "RateBreaks$Rates" 27 2 5 := ⟨R_Ra, F_Ra, 10, rfl, by decide, gw_81, li_Ra⟩
theorem gf_Ra_30 : gj_fok "RateBreaks$Rates" 30 2 6 := ⟨R_Ra, F_Ra, 10, rfl, by decide, gw_82, li_Ra⟩
theorem gf_Ra_33 : gj_fok "RateBreaks$Rates" 33 2 7 := ⟨R_Ra, F_Ra, 10, rfl, by decide, gw_83, li_Ra⟩
theorem gp_Ro_9 : gj_pok "RateBreaks$Ratios" 9 3 3 (.int) false := ⟨R_Ro, F_Ro, 4, t_Ro, rfl, by decide, gw_125, li_Ro, to_Ro, n_Ro, by decide +kernel, rfl, fun h => nomatch h⟩
theorem gp_Ro_21 : gj_pok "RateBreaks$Ratios" 21 3 0 (.array .int) true := ⟨R_Ro, F_Ro, 4, t_Ro, rfl, by decide, gw_120, li_Ro, to_Ro, n_Ro, by decide +kernel, rfl, fun _ => rfl⟩
theorem gp_Ro_25 : gj_pok "RateBreaks$Ratios" 25 3 1 (.array .int) true := ⟨R_Ro, F_Ro, 4, t_Ro, rfl, by decide, gw_121, li_Ro, to_Ro, n_Ro, by decide +kernel, rfl, fun _ => rfl⟩
theorem gp_Ro_28 : gj_pok "RateBreaks$Ratios" 28 3 2 (.array .int) true := ⟨R_Ro, F_Ro, 4, t_Ro, rfl, by decide, gw_123, li_Ro, to_Ro, n_Ro, by decide +kernel, rfl, fun _ => rfl⟩
theorem gf_RB_23 : gj_fok "RateBreaks" 23 0 2 := ⟨R_RB, F_RB, 8, rfl, by decide, gw_138, li_RB⟩
theorem gf_RB_10 : gj_fok "RateBreaks" 10 0 0 := ⟨R_RB, F_RB, 8, rfl, by decide, gw_136, li_RB⟩
theorem gf_RB_19 : gj_fok "RateBreaks" 19 0 1 := ⟨R_RB, F_RB, 8, rfl, by decide, gw_137, li_RB⟩
theorem gf_RB_77 : gj_fok "RateBreaks" 77 2 8 := ⟨R_Ra, F_Ra, 10, rfl, by decide, gw_85, li_Ra⟩
theorem gf_RB_57 : gj_fok "RateBreaks" 57 1 2 := ⟨R_Tx, F_Tx, 4, rfl, by decide, gw_53, li_Tx⟩
theorem gf_RB_214 : gj_fok "RateBreaks" 214 1 1 := ⟨R_Tx, F_Tx, 4, rfl, by decide, gw_51, li_Tx⟩
theorem gf_Tx_15 : gj_fok "RateBreaks$Text" 15 1 1 := ⟨R_Tx, F_Tx, 4, rfl, by decide, gw_50, li_Tx⟩
theorem gf_Tx_22 : gj_fok "RateBreaks$Text" 22 1 3 := ⟨R_Tx, F_Tx, 4, rfl, by decide, gw_54, li_Tx⟩
theorem gf_Tx_18 : gj_fok "RateBreaks$Text" 18 1 2 := ⟨R_Tx, F_Tx, 4, rfl, by decide, gw_52, li_Tx⟩
theorem gf_Tx_9 : gj_fok "RateBreaks$Text" 9 1 0 := ⟨R_Tx, F_Tx, 4, rfl, by decide, gw_49, li_Tx⟩
theorem gf_Ra_39 : gj_fok "RateBreaks$Rates" 39 2 8 := ⟨R_Ra, F_Ra, 10, rfl, by decide, gw_84, li_Ra⟩
theorem gf_Ra_43 : gj_fok "RateBreaks$Rates" 43 2 9 := ⟨R_Ra, F_Ra, 10, rfl, by decide, gw_86, li_Ra⟩
theorem gf_Ra_9 : gj_fok "RateBreaks$Rates" 9 2 0 := ⟨R_Ra, F_Ra, 10, rfl, by decide, gw_75, li_Ra⟩
theorem gf_Ra_15 : gj_fok "RateBreaks$Rates" 15 2 1 := ⟨R_Ra, F_Ra, 10, rfl, by decide, gw_76, li_Ra⟩
theorem gf_Ra_18 : gj_fok "RateBreaks$Rates" 18 2 2 := ⟨R_Ra, F_Ra, 10, rfl, by decide, gw_77, li_Ra⟩
theorem gf_Ra_21 : gj_fok "RateBreaks$Rates" 21 2 3 := ⟨R_Ra, F_Ra, 10, rfl, by decide, gw_78, li_Ra⟩
theorem gf_RB_28 : gj_fok "RateBreaks" 28 0 3 := ⟨R_RB, F_RB, 8, rfl, by decide, gw_139, li_RB⟩
theorem gf_RB_141 : gj_fok "RateBreaks" 141 4 4 := ⟨R_Sh, F_Sh, 6, rfl, by decide, gw_360, li_Sh⟩
theorem gf_RB_161 : gj_fok "RateBreaks" 161 4 5 := ⟨R_Sh, F_Sh, 6, rfl, by decide, gw_362, li_Sh⟩
theorem gf_Sh_9 : gj_fok "RateBreaks$Shipment" 9 4 3 := ⟨R_Sh, F_Sh, 6, rfl, by decide, gw_357, li_Sh⟩
theorem gf_Sh_18 : gj_fok "RateBreaks$Shipment" 18 4 5 := ⟨R_Sh, F_Sh, 6, rfl, by decide, gw_361, li_Sh⟩
theorem gf_RB_32 : gj_fok "RateBreaks" 32 0 4 := ⟨R_RB, F_RB, 8, rfl, by decide, gw_140, li_RB⟩
theorem gn_RB_26 : gj_nok "RateBreaks" 26 4 6 [.int 0, .int 0, .int 0, .int 0, .int 0, .int 0] := ⟨R_Sh, F_Sh, t_Sh, rfl, li_Sh, to_Sh, gw_108, gw_344, gw_31, fun j hj => by (rcases (show j = 0 ∨ j = 1 ∨ j = 2 ∨ j = 3 ∨ j = 4 ∨ j = 5 by omega) with rfl | rfl | rfl | rfl | rfl | rfl) <;> rfl, fun _ => rfl, fun _ v hv => by simp at hv; rcases hv with rfl | rfl | rfl | rfl | rfl | rfl <;> trivial⟩
theorem gp_Sh_9 : gj_pok "RateBreaks$Shipment" 9 4 3 (.int) false := ⟨R_Sh, F_Sh, 6, t_Sh, rfl, by decide, gw_357, li_Sh, to_Sh, n_Sh, by decide +kernel, rfl, fun h => nomatch h⟩
theorem gp_Sh_15 : gj_pok "RateBreaks$Shipment" 15 4 4 (.int) false := ⟨R_Sh, F_Sh, 6, t_Sh, rfl, by decide, gw_359, li_Sh, to_Sh, n_Sh, by decide +kernel, rfl, fun h => nomatch h⟩
theorem gp_Sh_18 : gj_pok "RateBreaks$Shipment" 18 4 5 (.int) false := ⟨R_Sh, F_Sh, 6, t_Sh, rfl, by decide, gw_361, li_Sh, to_Sh, n_Sh, by decide +kernel, rfl, fun h => nomatch h⟩
theorem gp_Sh_21 : gj_pok "RateBreaks$Shipment" 21 4 0 (.int) true := ⟨R_Sh, F_Sh, 6, t_Sh, rfl, by decide, gw_349, li_Sh, to_Sh, n_Sh, by decide +kernel, rfl, fun _ => rfl⟩
theorem gp_Sh_24 : gj_pok "RateBreaks$Shipment" 24 4 1 (.int) false := ⟨R_Sh, F_Sh, 6, t_Sh, rfl, by decide, gw_351, li_Sh, to_Sh, n_Sh, by decide +kernel, rfl, fun h => nomatch h⟩
theorem gp_Sh_27 : gj_pok "RateBreaks$Shipment" 27 4 2 (.int) false := ⟨R_Sh, F_Sh, 6, t_Sh, rfl, by decide, gw_354, li_Sh, to_Sh, n_Sh, by decide +kernel, rfl, fun h => nomatch h⟩
theorem gf_Ra_68 : gj_fok "RateBreaks$Rates" 68 4 1 := ⟨R_Sh, F_Sh, 6, rfl, by decide, gw_352, li_Sh⟩
theorem gf_Ra_73 : gj_fok "RateBreaks$Rates" 73 4 2 := ⟨R_Sh, F_Sh, 6, rfl, by decide, gw_355, li_Sh⟩
theorem gf_RB_103 : gj_fok "RateBreaks" 103 4 0 := ⟨R_Sh, F_Sh, 6, rfl, by decide, gw_350, li_Sh⟩
theorem gf_RB_45 : gj_fok "RateBreaks" 45 0 6 := ⟨R_RB, F_RB, 8, rfl, by decide, gw_142, li_RB⟩
theorem gf_RB_177 : gj_fok "RateBreaks" 177 3 1 := ⟨R_Ro, F_Ro, 4, rfl, by decide, gw_122, li_Ro⟩
theorem gf_RB_180 : gj_fok "RateBreaks" 180 3 2 := ⟨R_Ro, F_Ro, 4, rfl, by decide, gw_124, li_Ro⟩
theorem gf_Ro_9 : gj_fok "RateBreaks$Ratios" 9 3 3 := ⟨R_Ro, F_Ro, 4, rfl, by decide, gw_125, li_Ro⟩
theorem gf_Ro_21 : gj_fok "RateBreaks$Ratios" 21 3 0 := ⟨R_Ro, F_Ro, 4, rfl, by decide, gw_120, li_Ro⟩
theorem gf_RB_100 : gj_fok "RateBreaks" 100 2 4 := ⟨R_Ra, F_Ra, 10, rfl, by decide, gw_80, li_Ra⟩
theorem gf_RB_110 : gj_fok "RateBreaks" 110 4 1 := ⟨R_Sh, F_Sh, 6, rfl, by decide, gw_353, li_Sh⟩
theorem gf_RB_124 : gj_fok "RateBreaks" 124 3 3 := ⟨R_Ro, F_Ro, 4, rfl, by decide, gw_126, li_Ro⟩
theorem gf_Ro_25 : gj_fok "RateBreaks$Ratios" 25 3 1 := ⟨R_Ro, F_Ro, 4, rfl, by decide, gw_121, li_Ro⟩
theorem gf_Ro_28 : gj_fok "RateBreaks$Ratios" 28 3 2 := ⟨R_Ro, F_Ro, 4, rfl, by decide, gw_123, li_Ro⟩
theorem gp_RB_138 : gj_pok "RateBreaks" 138 4 3 (.int) false := ⟨R_Sh, F_Sh, 6, t_Sh, rfl, by decide, gw_358, li_Sh, to_Sh, n_Sh, by decide +kernel, rfl, fun h => nomatch h⟩
theorem gp_RB_141 : gj_pok "RateBreaks" 141 4 4 (.int) false := ⟨R_Sh, F_Sh, 6, t_Sh, rfl, by decide, gw_360, li_Sh, to_Sh, n_Sh, by decide +kernel, rfl, fun h => nomatch h⟩
theorem gf_RB_150 : gj_fok "RateBreaks" 150 4 2 := ⟨R_Sh, F_Sh, 6, rfl, by decide, gw_356, li_Sh⟩
theorem gp_RB_110 : gj_pok "RateBreaks" 110 4 1 (.int) false := ⟨R_Sh, F_Sh, 6, t_Sh, rfl, by decide, gw_353, li_Sh, to_Sh, n_Sh, by decide +kernel, rfl, fun h => nomatch h⟩
theorem gp_RB_150 : gj_pok "RateBreaks" 150 4 2 (.int) false := ⟨R_Sh, F_Sh, 6, t_Sh, rfl, by decide, gw_356, li_Sh, to_Sh, n_Sh, by decide +kernel, rfl, fun h => nomatch h⟩
theorem gp_RB_161 : gj_pok "RateBreaks" 161 4 5 (.int) false := ⟨R_Sh, F_Sh, 6, t_Sh, rfl, by decide, gw_362, li_Sh, to_Sh, n_Sh, by decide +kernel, rfl, fun h => nomatch h⟩
theorem gf_RB_49 : gj_fok "RateBreaks" 49 0 7 := ⟨R_RB, F_RB, 8, rfl, by decide, gw_143, li_RB⟩
theorem gf_RB_138 : gj_fok "RateBreaks" 138 4 3 := ⟨R_Sh, F_Sh, 6, rfl, by decide, gw_358, li_Sh⟩
theorem gp_Mo_7 : gj_pok "RateBreaksModel" 7 5 0 (.int) false := ⟨R_Mo, F_Mo, 27, t_Mo, rfl, by decide, gw_596, li_Mo, to_Mo, n_Mo, by decide +kernel, rfl, fun h => nomatch h⟩
theorem gp_Mo_13 : gj_pok "RateBreaksModel" 13 5 1 (.array .int) true := ⟨R_Mo, F_Mo, 27, t_Mo, rfl, by decide, gw_597, li_Mo, to_Mo, n_Mo, by decide +kernel, rfl, fun _ => rfl⟩
theorem gp_Mo_17 : gj_pok "RateBreaksModel" 17 5 2 (.int) false := ⟨R_Mo, F_Mo, 27, t_Mo, rfl, by decide, gw_598, li_Mo, to_Mo, n_Mo, by decide +kernel, rfl, fun h => nomatch h⟩
theorem gp_Mo_20 : gj_pok "RateBreaksModel" 20 5 3 (.int) false := ⟨R_Mo, F_Mo, 27, t_Mo, rfl, by decide, gw_599, li_Mo, to_Mo, n_Mo, by decide +kernel, rfl, fun h => nomatch h⟩
theorem gp_Mo_23 : gj_pok "RateBreaksModel" 23 5 4 (.array .int) true := ⟨R_Mo, F_Mo, 27, t_Mo, rfl, by decide, gw_600, li_Mo, to_Mo, n_Mo, by decide +kernel, rfl, fun _ => rfl⟩
theorem gp_Mo_26 : gj_pok "RateBreaksModel" 26 5 5 (.int) false := ⟨R_Mo, F_Mo, 27, t_Mo, rfl, by decide, gw_601, li_Mo, to_Mo, n_Mo, by decide +kernel, rfl, fun h => nomatch h⟩
theorem gp_Mo_29 : gj_pok "RateBreaksModel" 29 5 6 (.array .int) true := ⟨R_Mo, F_Mo, 27, t_Mo, rfl, by decide, gw_602, li_Mo, to_Mo, n_Mo, by decide +kernel, rfl, fun _ => rfl⟩
theorem gp_Mo_32 : gj_pok "RateBreaksModel" 32 5 7 (.int) false := ⟨R_Mo, F_Mo, 27, t_Mo, rfl, by decide, gw_603, li_Mo, to_Mo, n_Mo, by decide +kernel, rfl, fun h => nomatch h⟩
theorem gp_Mo_35 : gj_pok "RateBreaksModel" 35 5 8 (.int) false := ⟨R_Mo, F_Mo, 27, t_Mo, rfl, by decide, gw_604, li_Mo, to_Mo, n_Mo, by decide +kernel, rfl, fun h => nomatch h⟩
theorem gp_Mo_38 : gj_pok "RateBreaksModel" 38 5 9 (.array .boolean) true := ⟨R_Mo, F_Mo, 27, t_Mo, rfl, by decide, gw_605, li_Mo, to_Mo, n_Mo, by decide +kernel, rfl, fun _ => rfl⟩
theorem gp_Mo_42 : gj_pok "RateBreaksModel" 42 5 10 (.array .int) true := ⟨R_Mo, F_Mo, 27, t_Mo, rfl, by decide, gw_606, li_Mo, to_Mo, n_Mo, by decide +kernel, rfl, fun _ => rfl⟩
theorem gp_Mo_45 : gj_pok "RateBreaksModel" 45 5 11 (.array .int) true := ⟨R_Mo, F_Mo, 27, t_Mo, rfl, by decide, gw_607, li_Mo, to_Mo, n_Mo, by decide +kernel, rfl, fun _ => rfl⟩
theorem gp_Mo_48 : gj_pok "RateBreaksModel" 48 5 12 (.array .int) true := ⟨R_Mo, F_Mo, 27, t_Mo, rfl, by decide, gw_608, li_Mo, to_Mo, n_Mo, by decide +kernel, rfl, fun _ => rfl⟩
theorem gp_Mo_51 : gj_pok "RateBreaksModel" 51 5 13 (.array .int) true := ⟨R_Mo, F_Mo, 27, t_Mo, rfl, by decide, gw_609, li_Mo, to_Mo, n_Mo, by decide +kernel, rfl, fun _ => rfl⟩
theorem gp_Mo_54 : gj_pok "RateBreaksModel" 54 5 14 (.array .int) true := ⟨R_Mo, F_Mo, 27, t_Mo, rfl, by decide, gw_610, li_Mo, to_Mo, n_Mo, by decide +kernel, rfl, fun _ => rfl⟩
theorem gp_Mo_57 : gj_pok "RateBreaksModel" 57 5 15 (.array .int) true := ⟨R_Mo, F_Mo, 27, t_Mo, rfl, by decide, gw_611, li_Mo, to_Mo, n_Mo, by decide +kernel, rfl, fun _ => rfl⟩
theorem gp_Mo_60 : gj_pok "RateBreaksModel" 60 5 16 (.array .int) true := ⟨R_Mo, F_Mo, 27, t_Mo, rfl, by decide, gw_612, li_Mo, to_Mo, n_Mo, by decide +kernel, rfl, fun _ => rfl⟩
theorem gp_Mo_63 : gj_pok "RateBreaksModel" 63 5 17 (.array .int) true := ⟨R_Mo, F_Mo, 27, t_Mo, rfl, by decide, gw_613, li_Mo, to_Mo, n_Mo, by decide +kernel, rfl, fun _ => rfl⟩
theorem gp_Mo_66 : gj_pok "RateBreaksModel" 66 5 18 (.array .int) true := ⟨R_Mo, F_Mo, 27, t_Mo, rfl, by decide, gw_614, li_Mo, to_Mo, n_Mo, by decide +kernel, rfl, fun _ => rfl⟩
theorem gp_Mo_69 : gj_pok "RateBreaksModel" 69 5 19 (.array .int) true := ⟨R_Mo, F_Mo, 27, t_Mo, rfl, by decide, gw_615, li_Mo, to_Mo, n_Mo, by decide +kernel, rfl, fun _ => rfl⟩
theorem gp_Mo_72 : gj_pok "RateBreaksModel" 72 5 20 (.int) false := ⟨R_Mo, F_Mo, 27, t_Mo, rfl, by decide, gw_616, li_Mo, to_Mo, n_Mo, by decide +kernel, rfl, fun h => nomatch h⟩
theorem gp_Mo_75 : gj_pok "RateBreaksModel" 75 5 21 (.array .int) true := ⟨R_Mo, F_Mo, 27, t_Mo, rfl, by decide, gw_617, li_Mo, to_Mo, n_Mo, by decide +kernel, rfl, fun _ => rfl⟩
theorem gp_Mo_78 : gj_pok "RateBreaksModel" 78 5 22 (.array .int) true := ⟨R_Mo, F_Mo, 27, t_Mo, rfl, by decide, gw_618, li_Mo, to_Mo, n_Mo, by decide +kernel, rfl, fun _ => rfl⟩
theorem gp_Mo_81 : gj_pok "RateBreaksModel" 81 5 23 (.array .int) true := ⟨R_Mo, F_Mo, 27, t_Mo, rfl, by decide, gw_619, li_Mo, to_Mo, n_Mo, by decide +kernel, rfl, fun _ => rfl⟩
theorem gp_Mo_84 : gj_pok "RateBreaksModel" 84 5 24 (.array .int) true := ⟨R_Mo, F_Mo, 27, t_Mo, rfl, by decide, gw_620, li_Mo, to_Mo, n_Mo, by decide +kernel, rfl, fun _ => rfl⟩
theorem gp_Mo_87 : gj_pok "RateBreaksModel" 87 5 25 (.array .int) true := ⟨R_Mo, F_Mo, 27, t_Mo, rfl, by decide, gw_621, li_Mo, to_Mo, n_Mo, by decide +kernel, rfl, fun _ => rfl⟩
theorem gp_Mo_90 : gj_pok "RateBreaksModel" 90 5 26 (.array .int) true := ⟨R_Mo, F_Mo, 27, t_Mo, rfl, by decide, gw_622, li_Mo, to_Mo, n_Mo, by decide +kernel, rfl, fun _ => rfl⟩
theorem gf_Mo_7 : gj_fok "RateBreaksModel" 7 5 0 := ⟨R_Mo, F_Mo, 27, rfl, by decide, gw_596, li_Mo⟩
theorem gf_Mo_17 : gj_fok "RateBreaksModel" 17 5 2 := ⟨R_Mo, F_Mo, 27, rfl, by decide, gw_598, li_Mo⟩
theorem gf_Mo_13 : gj_fok "RateBreaksModel" 13 5 1 := ⟨R_Mo, F_Mo, 27, rfl, by decide, gw_597, li_Mo⟩
theorem gf_Mo_32 : gj_fok "RateBreaksModel" 32 5 7 := ⟨R_Mo, F_Mo, 27, rfl, by decide, gw_603, li_Mo⟩
theorem gf_Mo_26 : gj_fok "RateBreaksModel" 26 5 5 := ⟨R_Mo, F_Mo, 27, rfl, by decide, gw_601, li_Mo⟩
theorem gf_Mo_20 : gj_fok "RateBreaksModel" 20 5 3 := ⟨R_Mo, F_Mo, 27, rfl, by decide, gw_599, li_Mo⟩
theorem gf_Mo_23 : gj_fok "RateBreaksModel" 23 5 4 := ⟨R_Mo, F_Mo, 27, rfl, by decide, gw_600, li_Mo⟩
theorem gf_Mo_29 : gj_fok "RateBreaksModel" 29 5 6 := ⟨R_Mo, F_Mo, 27, rfl, by decide, gw_602, li_Mo⟩
theorem gf_Mo_35 : gj_fok "RateBreaksModel" 35 5 8 := ⟨R_Mo, F_Mo, 27, rfl, by decide, gw_604, li_Mo⟩
theorem gf_Mo_42 : gj_fok "RateBreaksModel" 42 5 10 := ⟨R_Mo, F_Mo, 27, rfl, by decide, gw_606, li_Mo⟩
theorem gf_Mo_45 : gj_fok "RateBreaksModel" 45 5 11 := ⟨R_Mo, F_Mo, 27, rfl, by decide, gw_607, li_Mo⟩
theorem gf_Mo_48 : gj_fok "RateBreaksModel" 48 5 12 := ⟨R_Mo, F_Mo, 27, rfl, by decide, gw_608, li_Mo⟩
theorem gf_Mo_51 : gj_fok "RateBreaksModel" 51 5 13 := ⟨R_Mo, F_Mo, 27, rfl, by decide, gw_609, li_Mo⟩
theorem gf_Mo_54 : gj_fok "RateBreaksModel" 54 5 14 := ⟨R_Mo, F_Mo, 27, rfl, by decide, gw_610, li_Mo⟩
theorem gf_Mo_57 : gj_fok "RateBreaksModel" 57 5 15 := ⟨R_Mo, F_Mo, 27, rfl, by decide, gw_611, li_Mo⟩
theorem gf_Mo_38 : gj_fok "RateBreaksModel" 38 5 9 := ⟨R_Mo, F_Mo, 27, rfl, by decide, gw_605, li_Mo⟩
theorem gf_Mo_60 : gj_fok "RateBreaksModel" 60 5 16 := ⟨R_Mo, F_Mo, 27, rfl, by decide, gw_612, li_Mo⟩
theorem gf_Mo_63 : gj_fok "RateBreaksModel" 63 5 17 := ⟨R_Mo, F_Mo, 27, rfl, by decide, gw_613, li_Mo⟩
theorem gf_Mo_66 : gj_fok "RateBreaksModel" 66 5 18 := ⟨R_Mo, F_Mo, 27, rfl, by decide, gw_614, li_Mo⟩
theorem gf_Mo_69 : gj_fok "RateBreaksModel" 69 5 19 := ⟨R_Mo, F_Mo, 27, rfl, by decide, gw_615, li_Mo⟩
theorem gf_Mo_84 : gj_fok "RateBreaksModel" 84 5 24 := ⟨R_Mo, F_Mo, 27, rfl, by decide, gw_620, li_Mo⟩
theorem gf_Mo_87 : gj_fok "RateBreaksModel" 87 5 25 := ⟨R_Mo, F_Mo, 27, rfl, by decide, gw_621, li_Mo⟩
theorem gf_Mo_90 : gj_fok "RateBreaksModel" 90 5 26 := ⟨R_Mo, F_Mo, 27, rfl, by decide, gw_622, li_Mo⟩
theorem gf_Mo_72 : gj_fok "RateBreaksModel" 72 5 20 := ⟨R_Mo, F_Mo, 27, rfl, by decide, gw_616, li_Mo⟩
theorem gf_Mo_75 : gj_fok "RateBreaksModel" 75 5 21 := ⟨R_Mo, F_Mo, 27, rfl, by decide, gw_617, li_Mo⟩
theorem gf_Mo_78 : gj_fok "RateBreaksModel" 78 5 22 := ⟨R_Mo, F_Mo, 27, rfl, by decide, gw_618, li_Mo⟩
theorem gf_Mo_81 : gj_fok "RateBreaksModel" 81 5 23 := ⟨R_Mo, F_Mo, 27, rfl, by decide, gw_619, li_Mo⟩
theorem gn_La_8 : gj_nok "RateBreaksLaw" 8 0 8 [.null, .null, .null, .null, .int 0, .null, .null, .null] := ⟨R_RB, F_RB, t_RB, rfl, li_RB, to_RB, gw_35, gw_36, gw_20, fun j hj => by (rcases (show j = 0 ∨ j = 1 ∨ j = 2 ∨ j = 3 ∨ j = 4 ∨ j = 5 ∨ j = 6 ∨ j = 7 by omega) with rfl | rfl | rfl | rfl | rfl | rfl | rfl | rfl) <;> rfl, fun _ => rfl, fun _ v hv => by simp at hv; rcases hv with rfl | rfl | rfl | rfl | rfl | rfl | rfl | rfl <;> trivial⟩
theorem gn_La_70 : gj_nok "RateBreaksLaw" 70 5 27 [.int 0, .null, .int 0, .int 0, .null, .int 0, .null, .int 0, .int 0, .null, .null, .null, .null, .null, .null, .null, .null, .null, .null, .null, .int 0, .null, .null, .null, .null, .null, .null] := ⟨R_Mo, F_Mo, t_Mo, rfl, li_Mo, to_Mo, gw_590, gw_591, gw_25, fun j hj => by (rcases (show j = 0 ∨ j = 1 ∨ j = 2 ∨ j = 3 ∨ j = 4 ∨ j = 5 ∨ j = 6 ∨ j = 7 ∨ j = 8 ∨ j = 9 ∨ j = 10 ∨ j = 11 ∨ j = 12 ∨ j = 13 ∨ j = 14 ∨ j = 15 ∨ j = 16 ∨ j = 17 ∨ j = 18 ∨ j = 19 ∨ j = 20 ∨ j = 21 ∨ j = 22 ∨ j = 23 ∨ j = 24 ∨ j = 25 ∨ j = 26 by omega) with rfl | rfl | rfl | rfl | rfl | rfl | rfl | rfl | rfl | rfl | rfl | rfl | rfl | rfl | rfl | rfl | rfl | rfl | rfl | rfl | rfl | rfl | rfl | rfl | rfl | rfl | rfl) <;> rfl, fun _ => rfl, fun _ v hv => by simp at hv; rcases hv with rfl | rfl | rfl | rfl | rfl | rfl | rfl | rfl | rfl | rfl | rfl | rfl | rfl | rfl | rfl | rfl | rfl | rfl | rfl | rfl | rfl | rfl | rfl | rfl | rfl | rfl | rfl <;> trivial⟩
end
section
theorem d_RB_init_0 : decode prog_1_method_1_code 0 = .ok (.aload_n 0, 1) := by decide +kernel
theorem d_RB_init_1 : decode prog_1_method_1_code 1 = .ok (.invokespecial 1, 3) := by decide +kernel
theorem d_RB_init_4 : decode prog_1_method_1_code 4 = .ok (.aload_n 0, 1) := by decide +kernel
theorem d_RB_init_5 : decode prog_1_method_1_code 5 = .ok (.new 7, 3) := by decide +kernel
theorem d_RB_init_8 : decode prog_1_method_1_code 8 = .ok (.dup, 1) := by decide +kernel
theorem d_RB_init_9 : decode prog_1_method_1_code 9 = .ok (.invokespecial 9, 3) := by decide +kernel
theorem d_RB_init_12 : decode prog_1_method_1_code 12 = .ok (.putfield 10, 3) := by decide +kernel
theorem d_RB_init_15 : decode prog_1_method_1_code 15 = .ok (.aload_n 0, 1) := by decide +kernel
theorem d_RB_init_16 : decode prog_1_method_1_code 16 = .ok (.new 16, 3) := by decide +kernel
theorem d_RB_init_19 : decode prog_1_method_1_code 19 = .ok (.dup, 1) := by decide +kernel
theorem d_RB_init_20 : decode prog_1_method_1_code 20 = .ok (.invokespecial 18, 3) := by decide +kernel
theorem d_RB_init_23 : decode prog_1_method_1_code 23 = .ok (.putfield 19, 3) := by decide +kernel
theorem d_RB_init_26 : decode prog_1_method_1_code 26 = .ok (.aload_n 0, 1) := by decide +kernel
theorem d_RB_init_27 : decode prog_1_method_1_code 27 = .ok (.new 16, 3) := by decide +kernel
theorem d_RB_init_30 : decode prog_1_method_1_code 30 = .ok (.dup, 1) := by decide +kernel
theorem d_RB_init_31 : decode prog_1_method_1_code 31 = .ok (.invokespecial 18, 3) := by decide +kernel
theorem d_RB_init_34 : decode prog_1_method_1_code 34 = .ok (.putfield 23, 3) := by decide +kernel
theorem d_RB_init_37 : decode prog_1_method_1_code 37 = .ok (.aload_n 0, 1) := by decide +kernel
theorem d_RB_init_38 : decode prog_1_method_1_code 38 = .ok (.bipush 20, 2) := by decide +kernel
theorem d_RB_init_40 : decode prog_1_method_1_code 40 = .ok (.anewarray 26, 3) := by decide +kernel
theorem d_RB_init_43 : decode prog_1_method_1_code 43 = .ok (.putfield 28, 3) := by decide +kernel
theorem d_RB_init_46 : decode prog_1_method_1_code 46 = .ok (.aload_n 0, 1) := by decide +kernel
theorem d_RB_init_47 : decode prog_1_method_1_code 47 = .ok (.iconst 0, 1) := by decide +kernel
theorem d_RB_init_48 : decode prog_1_method_1_code 48 = .ok (.putfield 32, 3) := by decide +kernel
theorem d_RB_init_51 : decode prog_1_method_1_code 51 = .ok (.aload_n 0, 1) := by decide +kernel
theorem d_RB_init_52 : decode prog_1_method_1_code 52 = .ok (.bipush 10, 2) := by decide +kernel
theorem d_RB_init_54 : decode prog_1_method_1_code 54 = .ok (.anewarray 36, 3) := by decide +kernel
theorem d_RB_init_57 : decode prog_1_method_1_code 57 = .ok (.putfield 38, 3) := by decide +kernel
theorem d_RB_init_60 : decode prog_1_method_1_code 60 = .ok (.iconst 0, 1) := by decide +kernel
theorem d_RB_init_61 : decode prog_1_method_1_code 61 = .ok (.istore_n 1, 1) := by decide +kernel
theorem d_RB_init_62 : decode prog_1_method_1_code 62 = .ok (.iload_n 1, 1) := by decide +kernel
theorem d_RB_init_63 : decode prog_1_method_1_code 63 = .ok (.bipush 10, 2) := by decide +kernel
theorem d_RB_init_65 : decode prog_1_method_1_code 65 = .ok (.if_icmp .ge 23, 3) := by decide +kernel
theorem d_RB_init_68 : decode prog_1_method_1_code 68 = .ok (.aload_n 0, 1) := by decide +kernel
theorem d_RB_init_69 : decode prog_1_method_1_code 69 = .ok (.getfield 38, 3) := by decide +kernel
theorem d_RB_init_72 : decode prog_1_method_1_code 72 = .ok (.iload_n 1, 1) := by decide +kernel
theorem d_RB_init_73 : decode prog_1_method_1_code 73 = .ok (.new 36, 3) := by decide +kernel
theorem d_RB_init_76 : decode prog_1_method_1_code 76 = .ok (.dup, 1) := by decide +kernel
theorem d_RB_init_77 : decode prog_1_method_1_code 77 = .ok (.iconst 4, 1) := by decide +kernel
theorem d_RB_init_78 : decode prog_1_method_1_code 78 = .ok (.invokespecial 42, 3) := by decide +kernel
theorem d_RB_init_81 : decode prog_1_method_1_code 81 = .ok (.aastore, 1) := by decide +kernel
theorem d_RB_init_82 : decode prog_1_method_1_code 82 = .ok (.iinc 1 1, 3) := by decide +kernel
theorem d_RB_init_85 : decode prog_1_method_1_code 85 = .ok (.goto (-23), 3) := by decide +kernel
theorem d_RB_init_88 : decode prog_1_method_1_code 88 = .ok (.aload_n 0, 1) := by decide +kernel
theorem d_RB_init_89 : decode prog_1_method_1_code 89 = .ok (.bipush 10, 2) := by decide +kernel
theorem d_RB_init_91 : decode prog_1_method_1_code 91 = .ok (.newarray .int, 2) := by decide +kernel
theorem d_RB_init_93 : decode prog_1_method_1_code 93 = .ok (.putfield 45, 3) := by decide +kernel
theorem d_RB_init_96 : decode prog_1_method_1_code 96 = .ok (.aload_n 0, 1) := by decide +kernel
theorem d_RB_init_97 : decode prog_1_method_1_code 97 = .ok (.new 36, 3) := by decide +kernel
theorem d_RB_init_100 : decode prog_1_method_1_code 100 = .ok (.dup, 1) := by decide +kernel
theorem d_RB_init_101 : decode prog_1_method_1_code 101 = .ok (.bipush 8, 2) := by decide +kernel
theorem d_RB_init_103 : decode prog_1_method_1_code 103 = .ok (.invokespecial 42, 3) := by decide +kernel
theorem d_RB_init_106 : decode prog_1_method_1_code 106 = .ok (.putfield 49, 3) := by decide +kernel
theorem d_RB_init_109 : decode prog_1_method_1_code 109 = .ok (.return_, 1) := by decide +kernel
theorem d_RB_read_0 : decode prog_1_method_3_code 0 = .ok (.aload_n 0, 1) := by decide +kernel
theorem d_RB_read_1 : decode prog_1_method_3_code 1 = .ok (.aload_n 0, 1) := by decide +kernel
theorem d_RB_read_2 : decode prog_1_method_3_code 2 = .ok (.getfield 23, 3) := by decide +kernel
theorem d_RB_read_5 : decode prog_1_method_3_code 5 = .ok (.invokevirtual 70, 3) := by decide +kernel
theorem d_RB_read_8 : decode prog_1_method_3_code 8 = .ok (.istore_n 1, 1) := by decide +kernel
theorem d_RB_read_9 : decode prog_1_method_3_code 9 = .ok (.aload_n 0, 1) := by decide +kernel
theorem d_RB_read_10 : decode prog_1_method_3_code 10 = .ok (.getfield 10, 3) := by decide +kernel
theorem d_RB_read_13 : decode prog_1_method_3_code 13 = .ok (.invokevirtual 74, 3) := by decide +kernel
theorem d_RB_read_16 : decode prog_1_method_3_code 16 = .ok (.iload_n 1, 1) := by decide +kernel
theorem d_RB_read_17 : decode prog_1_method_3_code 17 = .ok (.iconst (-1), 1) := by decide +kernel
theorem d_RB_read_18 : decode prog_1_method_3_code 18 = .ok (.if_icmp .eq 7, 3) := by decide +kernel
theorem d_RB_read_21 : decode prog_1_method_3_code 21 = .ok (.iconst (-1), 1) := by decide +kernel
theorem d_RB_read_22 : decode prog_1_method_3_code 22 = .ok (.iload_n 1, 1) := by decide +kernel
theorem d_RB_read_23 : decode prog_1_method_3_code 23 = .ok (.isub, 1) := by decide +kernel
theorem d_RB_read_24 : decode prog_1_method_3_code 24 = .ok (.ireturn, 1) := by decide +kernel
theorem d_RB_read_25 : decode prog_1_method_3_code 25 = .ok (.aload_n 0, 1) := by decide +kernel
theorem d_RB_read_26 : decode prog_1_method_3_code 26 = .ok (.getfield 19, 3) := by decide +kernel
theorem d_RB_read_29 : decode prog_1_method_3_code 29 = .ok (.astore_n 2, 1) := by decide +kernel
theorem d_RB_read_30 : decode prog_1_method_3_code 30 = .ok (.aload_n 0, 1) := by decide +kernel
theorem d_RB_read_31 : decode prog_1_method_3_code 31 = .ok (.aload_n 0, 1) := by decide +kernel
theorem d_RB_read_32 : decode prog_1_method_3_code 32 = .ok (.getfield 23, 3) := by decide +kernel
theorem d_RB_read_35 : decode prog_1_method_3_code 35 = .ok (.putfield 19, 3) := by decide +kernel
theorem d_RB_read_38 : decode prog_1_method_3_code 38 = .ok (.aload_n 0, 1) := by decide +kernel
theorem d_RB_read_39 : decode prog_1_method_3_code 39 = .ok (.aload_n 2, 1) := by decide +kernel
theorem d_RB_read_40 : decode prog_1_method_3_code 40 = .ok (.putfield 23, 3) := by decide +kernel
theorem d_RB_read_43 : decode prog_1_method_3_code 43 = .ok (.aload_n 0, 1) := by decide +kernel
theorem d_RB_read_44 : decode prog_1_method_3_code 44 = .ok (.getfield 19, 3) := by decide +kernel
theorem d_RB_read_47 : decode prog_1_method_3_code 47 = .ok (.getfield 77, 3) := by decide +kernel
theorem d_RB_read_50 : decode prog_1_method_3_code 50 = .ok (.ireturn, 1) := by decide +kernel
theorem d_RB_readInto_0 : decode prog_1_method_24_code 0 = .ok (.aload_n 1, 1) := by decide +kernel
theorem d_RB_readInto_1 : decode prog_1_method_24_code 1 = .ok (.invokevirtual 207, 3) := by decide +kernel
theorem d_RB_readInto_4 : decode prog_1_method_24_code 4 = .ok (.iconst 0, 1) := by decide +kernel
theorem d_RB_readInto_5 : decode prog_1_method_24_code 5 = .ok (.istore_n 2, 1) := by decide +kernel
theorem d_RB_readInto_6 : decode prog_1_method_24_code 6 = .ok (.iconst 0, 1) := by decide +kernel
theorem d_RB_readInto_7 : decode prog_1_method_24_code 7 = .ok (.istore_n 3, 1) := by decide +kernel
theorem d_RB_readInto_8 : decode prog_1_method_24_code 8 = .ok (.iload_n 3, 1) := by decide +kernel
theorem d_RB_readInto_9 : decode prog_1_method_24_code 9 = .ok (.bipush 60, 2) := by decide +kernel
theorem d_RB_readInto_11 : decode prog_1_method_24_code 11 = .ok (.if_icmp .ge 63, 3) := by decide +kernel
theorem d_RB_readInto_14 : decode prog_1_method_24_code 14 = .ok (.iload_n 2, 1) := by decide +kernel
theorem d_RB_readInto_15 : decode prog_1_method_24_code 15 = .ok (.aload_n 0, 1) := by decide +kernel
theorem d_RB_readInto_16 : decode prog_1_method_24_code 16 = .ok (.getfield 10, 3) := by decide +kernel
theorem d_RB_readInto_19 : decode prog_1_method_24_code 19 = .ok (.getfield 57, 3) := by decide +kernel
theorem d_RB_readInto_22 : decode prog_1_method_24_code 22 = .ok (.if_icmp .ge 52, 3) := by decide +kernel
theorem d_RB_readInto_25 : decode prog_1_method_24_code 25 = .ok (.aload_n 0, 1) := by decide +kernel
theorem d_RB_readInto_26 : decode prog_1_method_24_code 26 = .ok (.getfield 10, 3) := by decide +kernel
theorem d_RB_readInto_29 : decode prog_1_method_24_code 29 = .ok (.iload_n 2, 1) := by decide +kernel
theorem d_RB_readInto_30 : decode prog_1_method_24_code 30 = .ok (.invokevirtual 208, 3) := by decide +kernel
theorem d_RB_readInto_33 : decode prog_1_method_24_code 33 = .ok (.istore 4, 2) := by decide +kernel
theorem d_RB_readInto_35 : decode prog_1_method_24_code 35 = .ok (.iload 4, 2) := by decide +kernel
theorem d_RB_readInto_37 : decode prog_1_method_24_code 37 = .ok (.iconst (-1), 1) := by decide +kernel
theorem d_RB_readInto_38 : decode prog_1_method_24_code 38 = .ok (.if_icmp .eq 25, 3) := by decide +kernel
theorem d_RB_readInto_41 : decode prog_1_method_24_code 41 = .ok (.aload_n 1, 1) := by decide +kernel
theorem d_RB_readInto_42 : decode prog_1_method_24_code 42 = .ok (.aload_n 0, 1) := by decide +kernel
theorem d_RB_readInto_43 : decode prog_1_method_24_code 43 = .ok (.getfield 10, 3) := by decide +kernel
theorem d_RB_readInto_46 : decode prog_1_method_24_code 46 = .ok (.iload_n 2, 1) := by decide +kernel
theorem d_RB_readInto_47 : decode prog_1_method_24_code 47 = .ok (.invokevirtual 211, 3) := by decide +kernel
theorem d_RB_readInto_50 : decode prog_1_method_24_code 50 = .ok (.aload_n 0, 1) := by decide +kernel
theorem d_RB_readInto_51 : decode prog_1_method_24_code 51 = .ok (.getfield 10, 3) := by decide +kernel
theorem d_RB_readInto_54 : decode prog_1_method_24_code 54 = .ok (.getfield 214, 3) := by decide +kernel
theorem d_RB_readInto_57 : decode prog_1_method_24_code 57 = .ok (.invokevirtual 217, 3) := by decide +kernel
theorem d_RB_readInto_60 : decode prog_1_method_24_code 60 = .ok (.ifCond .ne 5, 3) := by decide +kernel
theorem d_RB_readInto_63 : decode prog_1_method_24_code 63 = .ok (.iload_n 2, 1) := by decide +kernel
theorem d_RB_readInto_64 : decode prog_1_method_24_code 64 = .ok (.ireturn, 1) := by decide +kernel
theorem d_RB_readInto_65 : decode prog_1_method_24_code 65 = .ok (.iload 4, 2) := by decide +kernel
theorem d_RB_readInto_67 : decode prog_1_method_24_code 67 = .ok (.istore_n 2, 1) := by decide +kernel
theorem d_RB_readInto_68 : decode prog_1_method_24_code 68 = .ok (.iinc 3 1, 3) := by decide +kernel
theorem d_RB_readInto_71 : decode prog_1_method_24_code 71 = .ok (.goto (-63), 3) := by decide +kernel
theorem d_RB_readInto_74 : decode prog_1_method_24_code 74 = .ok (.iload_n 2, 1) := by decide +kernel
theorem d_RB_readInto_75 : decode prog_1_method_24_code 75 = .ok (.aload_n 0, 1) := by decide +kernel
theorem d_RB_readInto_76 : decode prog_1_method_24_code 76 = .ok (.getfield 10, 3) := by decide +kernel
theorem d_RB_readInto_79 : decode prog_1_method_24_code 79 = .ok (.getfield 57, 3) := by decide +kernel
theorem d_RB_readInto_82 : decode prog_1_method_24_code 82 = .ok (.if_icmp .ge 7, 3) := by decide +kernel
theorem d_RB_readInto_85 : decode prog_1_method_24_code 85 = .ok (.iload_n 2, 1) := by decide +kernel
theorem d_RB_readInto_86 : decode prog_1_method_24_code 86 = .ok (.goto 4, 3) := by decide +kernel
theorem d_RB_readInto_89 : decode prog_1_method_24_code 89 = .ok (.iconst (-1), 1) := by decide +kernel
theorem d_RB_readInto_90 : decode prog_1_method_24_code 90 = .ok (.ireturn, 1) := by decide +kernel
theorem d_RB_laneOf_0 : decode prog_1_method_26_code 0 = .ok (.iload_n 0, 1) := by decide +kernel
theorem d_RB_laneOf_1 : decode prog_1_method_26_code 1 = .ok (.bipush 10, 2) := by decide +kernel
theorem d_RB_laneOf_3 : decode prog_1_method_26_code 3 = .ok (.imul, 1) := by decide +kernel
theorem d_RB_laneOf_4 : decode prog_1_method_26_code 4 = .ok (.iload_n 1, 1) := by decide +kernel
theorem d_RB_laneOf_5 : decode prog_1_method_26_code 5 = .ok (.iadd, 1) := by decide +kernel
theorem d_RB_laneOf_6 : decode prog_1_method_26_code 6 = .ok (.ireturn, 1) := by decide +kernel
theorem d_RB_count_0 : decode prog_1_method_18_code 0 = .ok (.iload_n 1, 1) := by decide +kernel
theorem d_RB_count_1 : decode prog_1_method_18_code 1 = .ok (.ifCond .ne 11, 3) := by decide +kernel
theorem d_RB_count_4 : decode prog_1_method_18_code 4 = .ok (.aload_n 0, 1) := by decide +kernel
theorem d_RB_count_5 : decode prog_1_method_18_code 5 = .ok (.getfield 10, 3) := by decide +kernel
theorem d_RB_count_8 : decode prog_1_method_18_code 8 = .ok (.getfield 57, 3) := by decide +kernel
theorem d_RB_count_11 : decode prog_1_method_18_code 11 = .ok (.ireturn, 1) := by decide +kernel
theorem d_RB_count_12 : decode prog_1_method_18_code 12 = .ok (.iload_n 1, 1) := by decide +kernel
theorem d_RB_count_13 : decode prog_1_method_18_code 13 = .ok (.iconst 1, 1) := by decide +kernel
theorem d_RB_count_14 : decode prog_1_method_18_code 14 = .ok (.if_icmp .ne 11, 3) := by decide +kernel
theorem d_RB_count_17 : decode prog_1_method_18_code 17 = .ok (.aload_n 0, 1) := by decide +kernel
theorem d_RB_count_18 : decode prog_1_method_18_code 18 = .ok (.getfield 19, 3) := by decide +kernel
theorem d_RB_count_21 : decode prog_1_method_18_code 21 = .ok (.getfield 77, 3) := by decide +kernel
theorem d_RB_count_24 : decode prog_1_method_18_code 24 = .ok (.ireturn, 1) := by decide +kernel
theorem d_RB_count_25 : decode prog_1_method_18_code 25 = .ok (.iload_n 1, 1) := by decide +kernel
theorem d_RB_count_26 : decode prog_1_method_18_code 26 = .ok (.iconst 2, 1) := by decide +kernel
theorem d_RB_count_27 : decode prog_1_method_18_code 27 = .ok (.if_icmp .lt 8, 3) := by decide +kernel
theorem d_RB_count_30 : decode prog_1_method_18_code 30 = .ok (.iload_n 1, 1) := by decide +kernel
theorem d_RB_count_31 : decode prog_1_method_18_code 31 = .ok (.iconst 5, 1) := by decide +kernel
theorem d_RB_count_32 : decode prog_1_method_18_code 32 = .ok (.if_icmp .le 5, 3) := by decide +kernel
theorem d_RB_count_35 : decode prog_1_method_18_code 35 = .ok (.iconst (-1), 1) := by decide +kernel
theorem d_RB_count_36 : decode prog_1_method_18_code 36 = .ok (.ireturn, 1) := by decide +kernel
theorem d_RB_count_37 : decode prog_1_method_18_code 37 = .ok (.iconst 0, 1) := by decide +kernel
theorem d_RB_count_38 : decode prog_1_method_18_code 38 = .ok (.istore_n 2, 1) := by decide +kernel
theorem d_RB_count_39 : decode prog_1_method_18_code 39 = .ok (.iconst 0, 1) := by decide +kernel
theorem d_RB_count_40 : decode prog_1_method_18_code 40 = .ok (.istore_n 3, 1) := by decide +kernel
theorem d_RB_count_41 : decode prog_1_method_18_code 41 = .ok (.iload_n 3, 1) := by decide +kernel
theorem d_RB_count_42 : decode prog_1_method_18_code 42 = .ok (.bipush 20, 2) := by decide +kernel
theorem d_RB_count_44 : decode prog_1_method_18_code 44 = .ok (.if_icmp .ge 31, 3) := by decide +kernel
theorem d_RB_count_47 : decode prog_1_method_18_code 47 = .ok (.aload_n 0, 1) := by decide +kernel
theorem d_RB_count_48 : decode prog_1_method_18_code 48 = .ok (.getfield 28, 3) := by decide +kernel
theorem d_RB_count_51 : decode prog_1_method_18_code 51 = .ok (.iload_n 3, 1) := by decide +kernel
theorem d_RB_count_52 : decode prog_1_method_18_code 52 = .ok (.aaload, 1) := by decide +kernel
theorem d_RB_count_53 : decode prog_1_method_18_code 53 = .ok (.astore 4, 2) := by decide +kernel
theorem d_RB_count_55 : decode prog_1_method_18_code 55 = .ok (.aload 4, 2) := by decide +kernel
theorem d_RB_count_57 : decode prog_1_method_18_code 57 = .ok (.ifnull 12, 3) := by decide +kernel
theorem d_RB_count_60 : decode prog_1_method_18_code 60 = .ok (.iload_n 2, 1) := by decide +kernel
theorem d_RB_count_61 : decode prog_1_method_18_code 61 = .ok (.aload 4, 2) := by decide +kernel
theorem d_RB_count_63 : decode prog_1_method_18_code 63 = .ok (.iload_n 1, 1) := by decide +kernel
theorem d_RB_count_64 : decode prog_1_method_18_code 64 = .ok (.invokestatic 189, 3) := by decide +kernel
theorem d_RB_count_67 : decode prog_1_method_18_code 67 = .ok (.iadd, 1) := by decide +kernel
theorem d_RB_count_68 : decode prog_1_method_18_code 68 = .ok (.istore_n 2, 1) := by decide +kernel
theorem d_RB_count_69 : decode prog_1_method_18_code 69 = .ok (.iinc 3 1, 3) := by decide +kernel
theorem d_RB_count_72 : decode prog_1_method_18_code 72 = .ok (.goto (-31), 3) := by decide +kernel
theorem d_RB_count_75 : decode prog_1_method_18_code 75 = .ok (.iload_n 2, 1) := by decide +kernel
theorem d_RB_count_76 : decode prog_1_method_18_code 76 = .ok (.ireturn, 1) := by decide +kernel
theorem d_RB_addend_0 : decode prog_1_method_19_code 0 = .ok (.iload_n 1, 1) := by decide +kernel
theorem d_RB_addend_1 : decode prog_1_method_19_code 1 = .ok (.tableswitch 78 2 5 #[31, 33, 46, 62], 31) := by decide +kernel
theorem d_RB_addend_32 : decode prog_1_method_19_code 32 = .ok (.iconst 1, 1) := by decide +kernel
theorem d_RB_addend_33 : decode prog_1_method_19_code 33 = .ok (.ireturn, 1) := by decide +kernel
theorem d_RB_addend_34 : decode prog_1_method_19_code 34 = .ok (.aload_n 0, 1) := by decide +kernel
theorem d_RB_addend_35 : decode prog_1_method_19_code 35 = .ok (.invokevirtual 127, 3) := by decide +kernel
theorem d_RB_addend_38 : decode prog_1_method_19_code 38 = .ok (.ifCond .eq 7, 3) := by decide +kernel
theorem d_RB_addend_41 : decode prog_1_method_19_code 41 = .ok (.iconst 1, 1) := by decide +kernel
theorem d_RB_addend_42 : decode prog_1_method_19_code 42 = .ok (.goto 4, 3) := by decide +kernel
theorem d_RB_addend_45 : decode prog_1_method_19_code 45 = .ok (.iconst 0, 1) := by decide +kernel
theorem d_RB_addend_46 : decode prog_1_method_19_code 46 = .ok (.ireturn, 1) := by decide +kernel
theorem d_RB_addend_47 : decode prog_1_method_19_code 47 = .ok (.aload_n 0, 1) := by decide +kernel
theorem d_RB_addend_48 : decode prog_1_method_19_code 48 = .ok (.invokevirtual 127, 3) := by decide +kernel
theorem d_RB_addend_51 : decode prog_1_method_19_code 51 = .ok (.ifCond .eq 10, 3) := by decide +kernel
theorem d_RB_addend_54 : decode prog_1_method_19_code 54 = .ok (.aload_n 0, 1) := by decide +kernel
theorem d_RB_addend_55 : decode prog_1_method_19_code 55 = .ok (.getfield 141, 3) := by decide +kernel
theorem d_RB_addend_58 : decode prog_1_method_19_code 58 = .ok (.goto 4, 3) := by decide +kernel
theorem d_RB_addend_61 : decode prog_1_method_19_code 61 = .ok (.iconst 0, 1) := by decide +kernel
theorem d_RB_addend_62 : decode prog_1_method_19_code 62 = .ok (.ireturn, 1) := by decide +kernel
theorem d_RB_addend_63 : decode prog_1_method_19_code 63 = .ok (.aload_n 0, 1) := by decide +kernel
theorem d_RB_addend_64 : decode prog_1_method_19_code 64 = .ok (.invokevirtual 156, 3) := by decide +kernel
theorem d_RB_addend_67 : decode prog_1_method_19_code 67 = .ok (.ifCond .eq 10, 3) := by decide +kernel
theorem d_RB_addend_70 : decode prog_1_method_19_code 70 = .ok (.aload_n 0, 1) := by decide +kernel
theorem d_RB_addend_71 : decode prog_1_method_19_code 71 = .ok (.getfield 161, 3) := by decide +kernel
theorem d_RB_addend_74 : decode prog_1_method_19_code 74 = .ok (.goto 4, 3) := by decide +kernel
theorem d_RB_addend_77 : decode prog_1_method_19_code 77 = .ok (.iconst 0, 1) := by decide +kernel
theorem d_RB_addend_78 : decode prog_1_method_19_code 78 = .ok (.ireturn, 1) := by decide +kernel
theorem d_RB_addend_79 : decode prog_1_method_19_code 79 = .ok (.iconst 0, 1) := by decide +kernel
theorem d_RB_addend_80 : decode prog_1_method_19_code 80 = .ok (.ireturn, 1) := by decide +kernel
theorem d_RB_sign_0 : decode prog_1_method_2_code 0 = .ok (.iload_n 1, 1) := by decide +kernel
theorem d_RB_sign_1 : decode prog_1_method_2_code 1 = .ok (.iconst 0, 1) := by decide +kernel
theorem d_RB_sign_2 : decode prog_1_method_2_code 2 = .ok (.sipush 255, 3) := by decide +kernel
theorem d_RB_sign_5 : decode prog_1_method_2_code 5 = .ok (.invokestatic 53, 3) := by decide +kernel
theorem d_RB_sign_8 : decode prog_1_method_2_code 8 = .ok (.aload_n 0, 1) := by decide +kernel
theorem d_RB_sign_9 : decode prog_1_method_2_code 9 = .ok (.getfield 10, 3) := by decide +kernel
theorem d_RB_sign_12 : decode prog_1_method_2_code 12 = .ok (.getfield 57, 3) := by decide +kernel
theorem d_RB_sign_15 : decode prog_1_method_2_code 15 = .ok (.sipush 600, 3) := by decide +kernel
theorem d_RB_sign_18 : decode prog_1_method_2_code 18 = .ok (.if_icmp .lt 13, 3) := by decide +kernel
theorem d_RB_sign_21 : decode prog_1_method_2_code 21 = .ok (.new 60, 3) := by decide +kernel
theorem d_RB_sign_24 : decode prog_1_method_2_code 24 = .ok (.dup, 1) := by decide +kernel
theorem d_RB_sign_25 : decode prog_1_method_2_code 25 = .ok (.ldc 62, 2) := by decide +kernel
theorem d_RB_sign_27 : decode prog_1_method_2_code 27 = .ok (.invokespecial 64, 3) := by decide +kernel
theorem d_RB_sign_30 : decode prog_1_method_2_code 30 = .ok (.athrow, 1) := by decide +kernel
theorem d_RB_sign_31 : decode prog_1_method_2_code 31 = .ok (.aload_n 0, 1) := by decide +kernel
theorem d_RB_sign_32 : decode prog_1_method_2_code 32 = .ok (.getfield 10, 3) := by decide +kernel
theorem d_RB_sign_35 : decode prog_1_method_2_code 35 = .ok (.iload_n 1, 1) := by decide +kernel
theorem d_RB_sign_36 : decode prog_1_method_2_code 36 = .ok (.invokevirtual 67, 3) := by decide +kernel
theorem d_RB_sign_39 : decode prog_1_method_2_code 39 = .ok (.aload_n 0, 1) := by decide +kernel
theorem d_RB_sign_40 : decode prog_1_method_2_code 40 = .ok (.getfield 10, 3) := by decide +kernel
theorem d_RB_sign_43 : decode prog_1_method_2_code 43 = .ok (.getfield 57, 3) := by decide +kernel
theorem d_RB_sign_46 : decode prog_1_method_2_code 46 = .ok (.ireturn, 1) := by decide +kernel
theorem d_RB_needWithin_0 : decode prog_1_method_20_code 0 = .ok (.iload_n 0, 1) := by decide +kernel
theorem d_RB_needWithin_1 : decode prog_1_method_20_code 1 = .ok (.iload_n 1, 1) := by decide +kernel
theorem d_RB_needWithin_2 : decode prog_1_method_20_code 2 = .ok (.if_icmp .lt 8, 3) := by decide +kernel
theorem d_RB_needWithin_5 : decode prog_1_method_20_code 5 = .ok (.iload_n 0, 1) := by decide +kernel
theorem d_RB_needWithin_6 : decode prog_1_method_20_code 6 = .ok (.iload_n 2, 1) := by decide +kernel
theorem d_RB_needWithin_7 : decode prog_1_method_20_code 7 = .ok (.if_icmp .le 13, 3) := by decide +kernel
theorem d_RB_needWithin_10 : decode prog_1_method_20_code 10 = .ok (.new 166, 3) := by decide +kernel
theorem d_RB_needWithin_13 : decode prog_1_method_20_code 13 = .ok (.dup, 1) := by decide +kernel
theorem d_RB_needWithin_14 : decode prog_1_method_20_code 14 = .ok (.ldc 192, 2) := by decide +kernel
theorem d_RB_needWithin_16 : decode prog_1_method_20_code 16 = .ok (.invokespecial 170, 3) := by decide +kernel
theorem d_RB_needWithin_19 : decode prog_1_method_20_code 19 = .ok (.athrow, 1) := by decide +kernel
theorem d_RB_needWithin_20 : decode prog_1_method_20_code 20 = .ok (.return_, 1) := by decide +kernel
theorem d_RB_shipment_0 : decode prog_1_method_4_code 0 = .ok (.iload_n 1, 1) := by decide +kernel
theorem d_RB_shipment_1 : decode prog_1_method_4_code 1 = .ok (.iconst 0, 1) := by decide +kernel
theorem d_RB_shipment_2 : decode prog_1_method_4_code 2 = .ok (.bipush 9, 2) := by decide +kernel
theorem d_RB_shipment_4 : decode prog_1_method_4_code 4 = .ok (.invokestatic 53, 3) := by decide +kernel
theorem d_RB_shipment_7 : decode prog_1_method_4_code 7 = .ok (.iload_n 2, 1) := by decide +kernel
theorem d_RB_shipment_8 : decode prog_1_method_4_code 8 = .ok (.iconst 1, 1) := by decide +kernel
theorem d_RB_shipment_9 : decode prog_1_method_4_code 9 = .ok (.ldc 80, 2) := by decide +kernel
theorem d_RB_shipment_11 : decode prog_1_method_4_code 11 = .ok (.invokestatic 53, 3) := by decide +kernel
theorem d_RB_shipment_14 : decode prog_1_method_4_code 14 = .ok (.iload_n 3, 1) := by decide +kernel
theorem d_RB_shipment_15 : decode prog_1_method_4_code 15 = .ok (.iconst 0, 1) := by decide +kernel
theorem d_RB_shipment_16 : decode prog_1_method_4_code 16 = .ok (.ldc 81, 2) := by decide +kernel
theorem d_RB_shipment_18 : decode prog_1_method_4_code 18 = .ok (.invokestatic 53, 3) := by decide +kernel
theorem d_RB_shipment_21 : decode prog_1_method_4_code 21 = .ok (.aload_n 0, 1) := by decide +kernel
theorem d_RB_shipment_22 : decode prog_1_method_4_code 22 = .ok (.getfield 32, 3) := by decide +kernel
theorem d_RB_shipment_25 : decode prog_1_method_4_code 25 = .ok (.bipush 20, 2) := by decide +kernel
theorem d_RB_shipment_27 : decode prog_1_method_4_code 27 = .ok (.if_icmp .lt 13, 3) := by decide +kernel
theorem d_RB_shipment_30 : decode prog_1_method_4_code 30 = .ok (.new 60, 3) := by decide +kernel
theorem d_RB_shipment_33 : decode prog_1_method_4_code 33 = .ok (.dup, 1) := by decide +kernel
theorem d_RB_shipment_34 : decode prog_1_method_4_code 34 = .ok (.ldc 82, 2) := by decide +kernel
theorem d_RB_shipment_36 : decode prog_1_method_4_code 36 = .ok (.invokespecial 64, 3) := by decide +kernel
theorem d_RB_shipment_39 : decode prog_1_method_4_code 39 = .ok (.athrow, 1) := by decide +kernel
theorem d_RB_shipment_40 : decode prog_1_method_4_code 40 = .ok (.aload_n 0, 1) := by decide +kernel
theorem d_RB_shipment_41 : decode prog_1_method_4_code 41 = .ok (.getfield 28, 3) := by decide +kernel
theorem d_RB_shipment_44 : decode prog_1_method_4_code 44 = .ok (.aload_n 0, 1) := by decide +kernel
theorem d_RB_shipment_45 : decode prog_1_method_4_code 45 = .ok (.getfield 32, 3) := by decide +kernel
theorem d_RB_shipment_48 : decode prog_1_method_4_code 48 = .ok (.new 26, 3) := by decide +kernel
theorem d_RB_shipment_51 : decode prog_1_method_4_code 51 = .ok (.dup, 1) := by decide +kernel
theorem d_RB_shipment_52 : decode prog_1_method_4_code 52 = .ok (.iload_n 1, 1) := by decide +kernel
theorem d_RB_shipment_53 : decode prog_1_method_4_code 53 = .ok (.iload_n 2, 1) := by decide +kernel
theorem d_RB_shipment_54 : decode prog_1_method_4_code 54 = .ok (.iload_n 3, 1) := by decide +kernel
theorem d_RB_shipment_55 : decode prog_1_method_4_code 55 = .ok (.invokespecial 84, 3) := by decide +kernel
theorem d_RB_shipment_58 : decode prog_1_method_4_code 58 = .ok (.aastore, 1) := by decide +kernel
theorem d_RB_shipment_59 : decode prog_1_method_4_code 59 = .ok (.aload_n 0, 1) := by decide +kernel
theorem d_RB_shipment_60 : decode prog_1_method_4_code 60 = .ok (.dup, 1) := by decide +kernel
theorem d_RB_shipment_61 : decode prog_1_method_4_code 61 = .ok (.getfield 32, 3) := by decide +kernel
theorem d_RB_shipment_64 : decode prog_1_method_4_code 64 = .ok (.iconst 1, 1) := by decide +kernel
theorem d_RB_shipment_65 : decode prog_1_method_4_code 65 = .ok (.iadd, 1) := by decide +kernel
theorem d_RB_shipment_66 : decode prog_1_method_4_code 66 = .ok (.putfield 32, 3) := by decide +kernel
theorem d_RB_shipment_69 : decode prog_1_method_4_code 69 = .ok (.aload_n 0, 1) := by decide +kernel
theorem d_RB_shipment_70 : decode prog_1_method_4_code 70 = .ok (.getfield 32, 3) := by decide +kernel
theorem d_RB_shipment_73 : decode prog_1_method_4_code 73 = .ok (.iconst 1, 1) := by decide +kernel
theorem d_RB_shipment_74 : decode prog_1_method_4_code 74 = .ok (.isub, 1) := by decide +kernel
theorem d_RB_shipment_75 : decode prog_1_method_4_code 75 = .ok (.ireturn, 1) := by decide +kernel
theorem d_RB_weight_0 : decode prog_1_method_5_code 0 = .ok (.aload_n 0, 1) := by decide +kernel
theorem d_RB_weight_1 : decode prog_1_method_5_code 1 = .ok (.iload_n 1, 1) := by decide +kernel
theorem d_RB_weight_2 : decode prog_1_method_5_code 2 = .ok (.invokevirtual 86, 3) := by decide +kernel
theorem d_RB_weight_5 : decode prog_1_method_5_code 5 = .ok (.astore_n 3, 1) := by decide +kernel
theorem d_RB_weight_6 : decode prog_1_method_5_code 6 = .ok (.iload_n 2, 1) := by decide +kernel
theorem d_RB_weight_7 : decode prog_1_method_5_code 7 = .ok (.invokestatic 90, 3) := by decide +kernel
theorem d_RB_weight_10 : decode prog_1_method_5_code 10 = .ok (.aload_n 0, 1) := by decide +kernel
theorem d_RB_weight_11 : decode prog_1_method_5_code 11 = .ok (.getfield 19, 3) := by decide +kernel
theorem d_RB_weight_14 : decode prog_1_method_5_code 14 = .ok (.aload_n 3, 1) := by decide +kernel
theorem d_RB_weight_15 : decode prog_1_method_5_code 15 = .ok (.iload_n 2, 1) := by decide +kernel
theorem d_RB_weight_16 : decode prog_1_method_5_code 16 = .ok (.invokevirtual 93, 3) := by decide +kernel
theorem d_RB_weight_19 : decode prog_1_method_5_code 19 = .ok (.ireturn, 1) := by decide +kernel
theorem d_RB_present_0 : decode prog_1_method_23_code 0 = .ok (.iload_n 1, 1) := by decide +kernel
theorem d_RB_present_1 : decode prog_1_method_23_code 1 = .ok (.ifCond .lt 18, 3) := by decide +kernel
theorem d_RB_present_4 : decode prog_1_method_23_code 4 = .ok (.iload_n 1, 1) := by decide +kernel
theorem d_RB_present_5 : decode prog_1_method_23_code 5 = .ok (.bipush 20, 2) := by decide +kernel
theorem d_RB_present_7 : decode prog_1_method_23_code 7 = .ok (.if_icmp .ge 12, 3) := by decide +kernel
theorem d_RB_present_10 : decode prog_1_method_23_code 10 = .ok (.aload_n 0, 1) := by decide +kernel
theorem d_RB_present_11 : decode prog_1_method_23_code 11 = .ok (.getfield 28, 3) := by decide +kernel
theorem d_RB_present_14 : decode prog_1_method_23_code 14 = .ok (.iload_n 1, 1) := by decide +kernel
theorem d_RB_present_15 : decode prog_1_method_23_code 15 = .ok (.aaload, 1) := by decide +kernel
theorem d_RB_present_16 : decode prog_1_method_23_code 16 = .ok (.goto 4, 3) := by decide +kernel
theorem d_RB_present_19 : decode prog_1_method_23_code 19 = .ok (.aconst_null, 1) := by decide +kernel
theorem d_RB_present_20 : decode prog_1_method_23_code 20 = .ok (.astore_n 2, 1) := by decide +kernel
theorem d_RB_present_21 : decode prog_1_method_23_code 21 = .ok (.aload_n 2, 1) := by decide +kernel
theorem d_RB_present_22 : decode prog_1_method_23_code 22 = .ok (.ifnonnull 13, 3) := by decide +kernel
theorem d_RB_present_25 : decode prog_1_method_23_code 25 = .ok (.new 202, 3) := by decide +kernel
theorem d_RB_present_28 : decode prog_1_method_23_code 28 = .ok (.dup, 1) := by decide +kernel
theorem d_RB_present_29 : decode prog_1_method_23_code 29 = .ok (.ldc 204, 2) := by decide +kernel
theorem d_RB_present_31 : decode prog_1_method_23_code 31 = .ok (.invokespecial 206, 3) := by decide +kernel
theorem d_RB_present_34 : decode prog_1_method_23_code 34 = .ok (.athrow, 1) := by decide +kernel
theorem d_RB_present_35 : decode prog_1_method_23_code 35 = .ok (.aload_n 2, 1) := by decide +kernel
theorem d_RB_present_36 : decode prog_1_method_23_code 36 = .ok (.areturn, 1) := by decide +kernel
theorem d_RB_needService_0 : decode prog_1_method_21_code 0 = .ok (.iload_n 0, 1) := by decide +kernel
theorem d_RB_needService_1 : decode prog_1_method_21_code 1 = .ok (.ifCond .lt 9, 3) := by decide +kernel
theorem d_RB_needService_4 : decode prog_1_method_21_code 4 = .ok (.iload_n 0, 1) := by decide +kernel
theorem d_RB_needService_5 : decode prog_1_method_21_code 5 = .ok (.bipush 10, 2) := by decide +kernel
theorem d_RB_needService_7 : decode prog_1_method_21_code 7 = .ok (.if_icmp .lt 13, 3) := by decide +kernel
theorem d_RB_needService_10 : decode prog_1_method_21_code 10 = .ok (.new 166, 3) := by decide +kernel
theorem d_RB_needService_13 : decode prog_1_method_21_code 13 = .ok (.dup, 1) := by decide +kernel
theorem d_RB_needService_14 : decode prog_1_method_21_code 14 = .ok (.ldc 194, 2) := by decide +kernel
theorem d_RB_needService_16 : decode prog_1_method_21_code 16 = .ok (.invokespecial 170, 3) := by decide +kernel
theorem d_RB_needService_19 : decode prog_1_method_21_code 19 = .ok (.athrow, 1) := by decide +kernel
theorem d_RB_needService_20 : decode prog_1_method_21_code 20 = .ok (.return_, 1) := by decide +kernel
theorem d_RB_dividedUp_0 : decode prog_1_method_28_code 0 = .ok (.lload_n 0, 1) := by decide +kernel
theorem d_RB_dividedUp_1 : decode prog_1_method_28_code 1 = .ok (.lload_n 2, 1) := by decide +kernel
theorem d_RB_dividedUp_2 : decode prog_1_method_28_code 2 = .ok (.ladd, 1) := by decide +kernel
theorem d_RB_dividedUp_3 : decode prog_1_method_28_code 3 = .ok (.lconst 1, 1) := by decide +kernel
theorem d_RB_dividedUp_4 : decode prog_1_method_28_code 4 = .ok (.lsub, 1) := by decide +kernel
theorem d_RB_dividedUp_5 : decode prog_1_method_28_code 5 = .ok (.lload_n 2, 1) := by decide +kernel
theorem d_RB_dividedUp_6 : decode prog_1_method_28_code 6 = .ok (.invokestatic 183, 3) := by decide +kernel
theorem d_RB_dividedUp_9 : decode prog_1_method_28_code 9 = .ok (.lreturn, 1) := by decide +kernel
theorem d_RB_dividedDown_0 : decode prog_1_method_27_code 0 = .ok (.lload_n 2, 1) := by decide +kernel
theorem d_RB_dividedDown_1 : decode prog_1_method_27_code 1 = .ok (.lconst 0, 1) := by decide +kernel
theorem d_RB_dividedDown_2 : decode prog_1_method_27_code 2 = .ok (.lcmp, 1) := by decide +kernel
theorem d_RB_dividedDown_3 : decode prog_1_method_27_code 3 = .ok (.ifCond .ne 13, 3) := by decide +kernel
theorem d_RB_dividedDown_6 : decode prog_1_method_27_code 6 = .ok (.new 231, 3) := by decide +kernel
theorem d_RB_dividedDown_9 : decode prog_1_method_27_code 9 = .ok (.dup, 1) := by decide +kernel
theorem d_RB_dividedDown_10 : decode prog_1_method_27_code 10 = .ok (.ldc 233, 2) := by decide +kernel
theorem d_RB_dividedDown_12 : decode prog_1_method_27_code 12 = .ok (.invokespecial 235, 3) := by decide +kernel
theorem d_RB_dividedDown_15 : decode prog_1_method_27_code 15 = .ok (.athrow, 1) := by decide +kernel
theorem d_RB_dividedDown_16 : decode prog_1_method_27_code 16 = .ok (.lload_n 0, 1) := by decide +kernel
theorem d_RB_dividedDown_17 : decode prog_1_method_27_code 17 = .ok (.lload_n 2, 1) := by decide +kernel
theorem d_RB_dividedDown_18 : decode prog_1_method_27_code 18 = .ok (.ldiv, 1) := by decide +kernel
theorem d_RB_dividedDown_19 : decode prog_1_method_27_code 19 = .ok (.lreturn, 1) := by decide +kernel
theorem d_RB_price_0 : decode prog_1_method_6_code 0 = .ok (.aload_n 0, 1) := by decide +kernel
theorem d_RB_price_1 : decode prog_1_method_6_code 1 = .ok (.iload_n 1, 1) := by decide +kernel
theorem d_RB_price_2 : decode prog_1_method_6_code 2 = .ok (.invokevirtual 86, 3) := by decide +kernel
theorem d_RB_price_5 : decode prog_1_method_6_code 5 = .ok (.astore_n 3, 1) := by decide +kernel
theorem d_RB_price_6 : decode prog_1_method_6_code 6 = .ok (.iload_n 2, 1) := by decide +kernel
theorem d_RB_price_7 : decode prog_1_method_6_code 7 = .ok (.invokestatic 90, 3) := by decide +kernel
theorem d_RB_price_10 : decode prog_1_method_6_code 10 = .ok (.aload_n 0, 1) := by decide +kernel
theorem d_RB_price_11 : decode prog_1_method_6_code 11 = .ok (.aload_n 3, 1) := by decide +kernel
theorem d_RB_price_12 : decode prog_1_method_6_code 12 = .ok (.iload_n 2, 1) := by decide +kernel
theorem d_RB_price_13 : decode prog_1_method_6_code 13 = .ok (.invokevirtual 97, 3) := by decide +kernel
theorem d_RB_price_16 : decode prog_1_method_6_code 16 = .ok (.ireturn, 1) := by decide +kernel
theorem d_RB_priceNow_0 : decode prog_1_method_25_code 0 = .ok (.aload_n 0, 1) := by decide +kernel
theorem d_RB_priceNow_1 : decode prog_1_method_25_code 1 = .ok (.getfield 19, 3) := by decide +kernel
theorem d_RB_priceNow_4 : decode prog_1_method_25_code 4 = .ok (.iload_n 2, 1) := by decide +kernel
theorem d_RB_priceNow_5 : decode prog_1_method_25_code 5 = .ok (.aload_n 1, 1) := by decide +kernel
theorem d_RB_priceNow_6 : decode prog_1_method_25_code 6 = .ok (.getfield 103, 3) := by decide +kernel
theorem d_RB_priceNow_9 : decode prog_1_method_25_code 9 = .ok (.invokestatic 106, 3) := by decide +kernel
theorem d_RB_priceNow_12 : decode prog_1_method_25_code 12 = .ok (.aload_n 0, 1) := by decide +kernel
theorem d_RB_priceNow_13 : decode prog_1_method_25_code 13 = .ok (.getfield 19, 3) := by decide +kernel
theorem d_RB_priceNow_16 : decode prog_1_method_25_code 16 = .ok (.aload_n 1, 1) := by decide +kernel
theorem d_RB_priceNow_17 : decode prog_1_method_25_code 17 = .ok (.iload_n 2, 1) := by decide +kernel
theorem d_RB_priceNow_18 : decode prog_1_method_25_code 18 = .ok (.invokevirtual 93, 3) := by decide +kernel
theorem d_RB_priceNow_21 : decode prog_1_method_25_code 21 = .ok (.invokevirtual 221, 3) := by decide +kernel
theorem d_RB_priceNow_24 : decode prog_1_method_25_code 24 = .ok (.istore_n 3, 1) := by decide +kernel
theorem d_RB_priceNow_25 : decode prog_1_method_25_code 25 = .ok (.iload_n 3, 1) := by decide +kernel
theorem d_RB_priceNow_26 : decode prog_1_method_25_code 26 = .ok (.iconst (-1), 1) := by decide +kernel
theorem d_RB_priceNow_27 : decode prog_1_method_25_code 27 = .ok (.if_icmp .ne 5, 3) := by decide +kernel
theorem d_RB_priceNow_30 : decode prog_1_method_25_code 30 = .ok (.iconst (-1), 1) := by decide +kernel
theorem d_RB_priceNow_31 : decode prog_1_method_25_code 31 = .ok (.ireturn, 1) := by decide +kernel
theorem d_RB_priceNow_32 : decode prog_1_method_25_code 32 = .ok (.aload_n 0, 1) := by decide +kernel
theorem d_RB_priceNow_33 : decode prog_1_method_25_code 33 = .ok (.getfield 19, 3) := by decide +kernel
theorem d_RB_priceNow_36 : decode prog_1_method_25_code 36 = .ok (.iload_n 3, 1) := by decide +kernel
theorem d_RB_priceNow_37 : decode prog_1_method_25_code 37 = .ok (.iload_n 2, 1) := by decide +kernel
theorem d_RB_priceNow_38 : decode prog_1_method_25_code 38 = .ok (.invokevirtual 224, 3) := by decide +kernel
theorem d_RB_priceNow_41 : decode prog_1_method_25_code 41 = .ok (.lstore 4, 2) := by decide +kernel
theorem d_RB_priceNow_43 : decode prog_1_method_25_code 43 = .ok (.aload_n 0, 1) := by decide +kernel
theorem d_RB_priceNow_44 : decode prog_1_method_25_code 44 = .ok (.getfield 38, 3) := by decide +kernel
theorem d_RB_priceNow_47 : decode prog_1_method_25_code 47 = .ok (.iload_n 2, 1) := by decide +kernel
theorem d_RB_priceNow_48 : decode prog_1_method_25_code 48 = .ok (.aaload, 1) := by decide +kernel
theorem d_RB_priceNow_49 : decode prog_1_method_25_code 49 = .ok (.astore 6, 2) := by decide +kernel
theorem d_RB_priceNow_51 : decode prog_1_method_25_code 51 = .ok (.aload 6, 2) := by decide +kernel
theorem d_RB_priceNow_53 : decode prog_1_method_25_code 53 = .ok (.aload_n 0, 1) := by decide +kernel
theorem d_RB_priceNow_54 : decode prog_1_method_25_code 54 = .ok (.getfield 45, 3) := by decide +kernel
theorem d_RB_priceNow_57 : decode prog_1_method_25_code 57 = .ok (.iload_n 2, 1) := by decide +kernel
theorem d_RB_priceNow_58 : decode prog_1_method_25_code 58 = .ok (.iaload, 1) := by decide +kernel
theorem d_RB_priceNow_59 : decode prog_1_method_25_code 59 = .ok (.invokevirtual 171, 3) := by decide +kernel
theorem d_RB_priceNow_62 : decode prog_1_method_25_code 62 = .ok (.istore 7, 2) := by decide +kernel
theorem d_RB_priceNow_64 : decode prog_1_method_25_code 64 = .ok (.iload 7, 2) := by decide +kernel
theorem d_RB_priceNow_66 : decode prog_1_method_25_code 66 = .ok (.iconst (-1), 1) := by decide +kernel
theorem d_RB_priceNow_67 : decode prog_1_method_25_code 67 = .ok (.if_icmp .eq 29, 3) := by decide +kernel
theorem d_RB_priceNow_70 : decode prog_1_method_25_code 70 = .ok (.lload 4, 2) := by decide +kernel
theorem d_RB_priceNow_72 : decode prog_1_method_25_code 72 = .ok (.aload 6, 2) := by decide +kernel
theorem d_RB_priceNow_74 : decode prog_1_method_25_code 74 = .ok (.getfield 177, 3) := by decide +kernel
theorem d_RB_priceNow_77 : decode prog_1_method_25_code 77 = .ok (.iload 7, 2) := by decide +kernel
theorem d_RB_priceNow_79 : decode prog_1_method_25_code 79 = .ok (.iaload, 1) := by decide +kernel
theorem d_RB_priceNow_80 : decode prog_1_method_25_code 80 = .ok (.i2l, 1) := by decide +kernel
theorem d_RB_priceNow_81 : decode prog_1_method_25_code 81 = .ok (.lmul, 1) := by decide +kernel
theorem d_RB_priceNow_82 : decode prog_1_method_25_code 82 = .ok (.aload 6, 2) := by decide +kernel
theorem d_RB_priceNow_84 : decode prog_1_method_25_code 84 = .ok (.getfield 180, 3) := by decide +kernel
theorem d_RB_priceNow_87 : decode prog_1_method_25_code 87 = .ok (.iload 7, 2) := by decide +kernel
theorem d_RB_priceNow_89 : decode prog_1_method_25_code 89 = .ok (.iaload, 1) := by decide +kernel
theorem d_RB_priceNow_90 : decode prog_1_method_25_code 90 = .ok (.i2l, 1) := by decide +kernel
theorem d_RB_priceNow_91 : decode prog_1_method_25_code 91 = .ok (.invokestatic 228, 3) := by decide +kernel
theorem d_RB_priceNow_94 : decode prog_1_method_25_code 94 = .ok (.lstore 4, 2) := by decide +kernel
theorem d_RB_priceNow_96 : decode prog_1_method_25_code 96 = .ok (.lload 4, 2) := by decide +kernel
theorem d_RB_priceNow_98 : decode prog_1_method_25_code 98 = .ok (.l2i, 1) := by decide +kernel
theorem d_RB_priceNow_99 : decode prog_1_method_25_code 99 = .ok (.ireturn, 1) := by decide +kernel
theorem d_RB_cheapest_0 : decode prog_1_method_7_code 0 = .ok (.aload_n 0, 1) := by decide +kernel
theorem d_RB_cheapest_1 : decode prog_1_method_7_code 1 = .ok (.iload_n 1, 1) := by decide +kernel
theorem d_RB_cheapest_2 : decode prog_1_method_7_code 2 = .ok (.invokevirtual 86, 3) := by decide +kernel
theorem d_RB_cheapest_5 : decode prog_1_method_7_code 5 = .ok (.astore_n 2, 1) := by decide +kernel
theorem d_RB_cheapest_6 : decode prog_1_method_7_code 6 = .ok (.iconst (-1), 1) := by decide +kernel
theorem d_RB_cheapest_7 : decode prog_1_method_7_code 7 = .ok (.istore_n 3, 1) := by decide +kernel
theorem d_RB_cheapest_8 : decode prog_1_method_7_code 8 = .ok (.iconst (-1), 1) := by decide +kernel
theorem d_RB_cheapest_9 : decode prog_1_method_7_code 9 = .ok (.istore 4, 2) := by decide +kernel
theorem d_RB_cheapest_11 : decode prog_1_method_7_code 11 = .ok (.iconst 0, 1) := by decide +kernel
theorem d_RB_cheapest_12 : decode prog_1_method_7_code 12 = .ok (.istore 5, 2) := by decide +kernel
theorem d_RB_cheapest_14 : decode prog_1_method_7_code 14 = .ok (.iload 5, 2) := by decide +kernel
theorem d_RB_cheapest_16 : decode prog_1_method_7_code 16 = .ok (.bipush 10, 2) := by decide +kernel
theorem d_RB_cheapest_18 : decode prog_1_method_7_code 18 = .ok (.if_icmp .ge 61, 3) := by decide +kernel
theorem d_RB_cheapest_21 : decode prog_1_method_7_code 21 = .ok (.aload_n 0, 1) := by decide +kernel
theorem d_RB_cheapest_22 : decode prog_1_method_7_code 22 = .ok (.getfield 19, 3) := by decide +kernel
theorem d_RB_cheapest_25 : decode prog_1_method_7_code 25 = .ok (.getfield 100, 3) := by decide +kernel
theorem d_RB_cheapest_28 : decode prog_1_method_7_code 28 = .ok (.iload 5, 2) := by decide +kernel
theorem d_RB_cheapest_30 : decode prog_1_method_7_code 30 = .ok (.iaload, 1) := by decide +kernel
theorem d_RB_cheapest_31 : decode prog_1_method_7_code 31 = .ok (.ifCond .ne 7, 3) := by decide +kernel
theorem d_RB_cheapest_34 : decode prog_1_method_7_code 34 = .ok (.iconst (-1), 1) := by decide +kernel
theorem d_RB_cheapest_35 : decode prog_1_method_7_code 35 = .ok (.goto 10, 3) := by decide +kernel
theorem d_RB_cheapest_38 : decode prog_1_method_7_code 38 = .ok (.aload_n 0, 1) := by decide +kernel
theorem d_RB_cheapest_39 : decode prog_1_method_7_code 39 = .ok (.aload_n 2, 1) := by decide +kernel
theorem d_RB_cheapest_40 : decode prog_1_method_7_code 40 = .ok (.iload 5, 2) := by decide +kernel
theorem d_RB_cheapest_42 : decode prog_1_method_7_code 42 = .ok (.invokevirtual 97, 3) := by decide +kernel
theorem d_RB_cheapest_45 : decode prog_1_method_7_code 45 = .ok (.istore 6, 2) := by decide +kernel
theorem d_RB_cheapest_47 : decode prog_1_method_7_code 47 = .ok (.iload 6, 2) := by decide +kernel
theorem d_RB_cheapest_49 : decode prog_1_method_7_code 49 = .ok (.iconst (-1), 1) := by decide +kernel
theorem d_RB_cheapest_50 : decode prog_1_method_7_code 50 = .ok (.if_icmp .eq 23, 3) := by decide +kernel
theorem d_RB_cheapest_53 : decode prog_1_method_7_code 53 = .ok (.iload 4, 2) := by decide +kernel
theorem d_RB_cheapest_55 : decode prog_1_method_7_code 55 = .ok (.iconst (-1), 1) := by decide +kernel
end
section
theorem d_RB_cheapest_56 : decode prog_1_method_7_code 56 = .ok (.if_icmp .eq 10, 3) := by decide +kernel
theorem d_RB_cheapest_59 : decode prog_1_method_7_code 59 = .ok (.iload 6, 2) := by decide +kernel
theorem d_RB_cheapest_61 : decode prog_1_method_7_code 61 = .ok (.iload 4, 2) := by decide +kernel
theorem d_RB_cheapest_63 : decode prog_1_method_7_code 63 = .ok (.if_icmp .ge 10, 3) := by decide +kernel
theorem d_RB_cheapest_66 : decode prog_1_method_7_code 66 = .ok (.iload 5, 2) := by decide +kernel
theorem d_RB_cheapest_68 : decode prog_1_method_7_code 68 = .ok (.istore_n 3, 1) := by decide +kernel
theorem d_RB_cheapest_69 : decode prog_1_method_7_code 69 = .ok (.iload 6, 2) := by decide +kernel
theorem d_RB_cheapest_71 : decode prog_1_method_7_code 71 = .ok (.istore 4, 2) := by decide +kernel
theorem d_RB_cheapest_73 : decode prog_1_method_7_code 73 = .ok (.iinc 5 1, 3) := by decide +kernel
theorem d_RB_cheapest_76 : decode prog_1_method_7_code 76 = .ok (.goto (-62), 3) := by decide +kernel
theorem d_RB_cheapest_79 : decode prog_1_method_7_code 79 = .ok (.iload_n 3, 1) := by decide +kernel
theorem d_RB_cheapest_80 : decode prog_1_method_7_code 80 = .ok (.ireturn, 1) := by decide +kernel
theorem d_RB_parcels_0 : decode prog_1_method_8_code 0 = .ok (.aload_n 0, 1) := by decide +kernel
theorem d_RB_parcels_1 : decode prog_1_method_8_code 1 = .ok (.iload_n 1, 1) := by decide +kernel
theorem d_RB_parcels_2 : decode prog_1_method_8_code 2 = .ok (.invokevirtual 86, 3) := by decide +kernel
theorem d_RB_parcels_5 : decode prog_1_method_8_code 5 = .ok (.astore_n 3, 1) := by decide +kernel
theorem d_RB_parcels_6 : decode prog_1_method_8_code 6 = .ok (.iload_n 2, 1) := by decide +kernel
theorem d_RB_parcels_7 : decode prog_1_method_8_code 7 = .ok (.invokestatic 90, 3) := by decide +kernel
theorem d_RB_parcels_10 : decode prog_1_method_8_code 10 = .ok (.iload_n 2, 1) := by decide +kernel
theorem d_RB_parcels_11 : decode prog_1_method_8_code 11 = .ok (.aload_n 3, 1) := by decide +kernel
theorem d_RB_parcels_12 : decode prog_1_method_8_code 12 = .ok (.getfield 103, 3) := by decide +kernel
theorem d_RB_parcels_15 : decode prog_1_method_8_code 15 = .ok (.invokestatic 106, 3) := by decide +kernel
theorem d_RB_parcels_18 : decode prog_1_method_8_code 18 = .ok (.istore 4, 2) := by decide +kernel
theorem d_RB_parcels_20 : decode prog_1_method_8_code 20 = .ok (.aload_n 0, 1) := by decide +kernel
theorem d_RB_parcels_21 : decode prog_1_method_8_code 21 = .ok (.getfield 19, 3) := by decide +kernel
theorem d_RB_parcels_24 : decode prog_1_method_8_code 24 = .ok (.iload 4, 2) := by decide +kernel
theorem d_RB_parcels_26 : decode prog_1_method_8_code 26 = .ok (.iconst 3, 1) := by decide +kernel
theorem d_RB_parcels_27 : decode prog_1_method_8_code 27 = .ok (.iconst 0, 1) := by decide +kernel
theorem d_RB_parcels_28 : decode prog_1_method_8_code 28 = .ok (.aload_n 3, 1) := by decide +kernel
theorem d_RB_parcels_29 : decode prog_1_method_8_code 29 = .ok (.getfield 110, 3) := by decide +kernel
theorem d_RB_parcels_32 : decode prog_1_method_8_code 32 = .ok (.aload_n 3, 1) := by decide +kernel
theorem d_RB_parcels_33 : decode prog_1_method_8_code 33 = .ok (.getfield 110, 3) := by decide +kernel
theorem d_RB_parcels_36 : decode prog_1_method_8_code 36 = .ok (.invokevirtual 113, 3) := by decide +kernel
theorem d_RB_parcels_39 : decode prog_1_method_8_code 39 = .ok (.ireturn, 1) := by decide +kernel
theorem d_RB_contract_0 : decode prog_1_method_9_code 0 = .ok (.iload_n 1, 1) := by decide +kernel
theorem d_RB_contract_1 : decode prog_1_method_9_code 1 = .ok (.invokestatic 90, 3) := by decide +kernel
theorem d_RB_contract_4 : decode prog_1_method_9_code 4 = .ok (.iload_n 2, 1) := by decide +kernel
theorem d_RB_contract_5 : decode prog_1_method_9_code 5 = .ok (.iconst 0, 1) := by decide +kernel
theorem d_RB_contract_6 : decode prog_1_method_9_code 6 = .ok (.bipush 100, 2) := by decide +kernel
theorem d_RB_contract_8 : decode prog_1_method_9_code 8 = .ok (.invokestatic 53, 3) := by decide +kernel
theorem d_RB_contract_11 : decode prog_1_method_9_code 11 = .ok (.iload 4, 2) := by decide +kernel
theorem d_RB_contract_13 : decode prog_1_method_9_code 13 = .ok (.iconst 1, 1) := by decide +kernel
theorem d_RB_contract_14 : decode prog_1_method_9_code 14 = .ok (.sipush 1000, 3) := by decide +kernel
theorem d_RB_contract_17 : decode prog_1_method_9_code 17 = .ok (.invokestatic 53, 3) := by decide +kernel
theorem d_RB_contract_20 : decode prog_1_method_9_code 20 = .ok (.iload_n 3, 1) := by decide +kernel
theorem d_RB_contract_21 : decode prog_1_method_9_code 21 = .ok (.iconst 0, 1) := by decide +kernel
theorem d_RB_contract_22 : decode prog_1_method_9_code 22 = .ok (.iload 4, 2) := by decide +kernel
theorem d_RB_contract_24 : decode prog_1_method_9_code 24 = .ok (.invokestatic 53, 3) := by decide +kernel
theorem d_RB_contract_27 : decode prog_1_method_9_code 27 = .ok (.aload_n 0, 1) := by decide +kernel
theorem d_RB_contract_28 : decode prog_1_method_9_code 28 = .ok (.getfield 38, 3) := by decide +kernel
theorem d_RB_contract_31 : decode prog_1_method_9_code 31 = .ok (.iload_n 1, 1) := by decide +kernel
theorem d_RB_contract_32 : decode prog_1_method_9_code 32 = .ok (.aaload, 1) := by decide +kernel
theorem d_RB_contract_33 : decode prog_1_method_9_code 33 = .ok (.astore 5, 2) := by decide +kernel
theorem d_RB_contract_35 : decode prog_1_method_9_code 35 = .ok (.aload 5, 2) := by decide +kernel
theorem d_RB_contract_37 : decode prog_1_method_9_code 37 = .ok (.iload_n 2, 1) := by decide +kernel
theorem d_RB_contract_38 : decode prog_1_method_9_code 38 = .ok (.invokestatic 117, 3) := by decide +kernel
theorem d_RB_contract_41 : decode prog_1_method_9_code 41 = .ok (.aload 5, 2) := by decide +kernel
theorem d_RB_contract_43 : decode prog_1_method_9_code 43 = .ok (.iload_n 2, 1) := by decide +kernel
theorem d_RB_contract_44 : decode prog_1_method_9_code 44 = .ok (.iload_n 3, 1) := by decide +kernel
theorem d_RB_contract_45 : decode prog_1_method_9_code 45 = .ok (.iload 4, 2) := by decide +kernel
theorem d_RB_contract_47 : decode prog_1_method_9_code 47 = .ok (.invokevirtual 121, 3) := by decide +kernel
theorem d_RB_contract_50 : decode prog_1_method_9_code 50 = .ok (.aload 5, 2) := by decide +kernel
theorem d_RB_contract_52 : decode prog_1_method_9_code 52 = .ok (.getfield 124, 3) := by decide +kernel
theorem d_RB_contract_55 : decode prog_1_method_9_code 55 = .ok (.ireturn, 1) := by decide +kernel
theorem d_RB_needRoom_0 : decode prog_1_method_22_code 0 = .ok (.aload_n 0, 1) := by decide +kernel
theorem d_RB_needRoom_1 : decode prog_1_method_22_code 1 = .ok (.iload_n 1, 1) := by decide +kernel
theorem d_RB_needRoom_2 : decode prog_1_method_22_code 2 = .ok (.invokevirtual 196, 3) := by decide +kernel
theorem d_RB_needRoom_5 : decode prog_1_method_22_code 5 = .ok (.ifCond .ne 13, 3) := by decide +kernel
theorem d_RB_needRoom_8 : decode prog_1_method_22_code 8 = .ok (.new 60, 3) := by decide +kernel
theorem d_RB_needRoom_11 : decode prog_1_method_22_code 11 = .ok (.dup, 1) := by decide +kernel
theorem d_RB_needRoom_12 : decode prog_1_method_22_code 12 = .ok (.ldc 200, 2) := by decide +kernel
theorem d_RB_needRoom_14 : decode prog_1_method_22_code 14 = .ok (.invokespecial 64, 3) := by decide +kernel
theorem d_RB_needRoom_17 : decode prog_1_method_22_code 17 = .ok (.athrow, 1) := by decide +kernel
theorem d_RB_needRoom_18 : decode prog_1_method_22_code 18 = .ok (.return_, 1) := by decide +kernel
theorem d_RB_book_0 : decode prog_1_method_10_code 0 = .ok (.aload_n 0, 1) := by decide +kernel
theorem d_RB_book_1 : decode prog_1_method_10_code 1 = .ok (.iload_n 1, 1) := by decide +kernel
theorem d_RB_book_2 : decode prog_1_method_10_code 2 = .ok (.invokevirtual 86, 3) := by decide +kernel
theorem d_RB_book_5 : decode prog_1_method_10_code 5 = .ok (.astore_n 3, 1) := by decide +kernel
theorem d_RB_book_6 : decode prog_1_method_10_code 6 = .ok (.iload_n 2, 1) := by decide +kernel
theorem d_RB_book_7 : decode prog_1_method_10_code 7 = .ok (.invokestatic 90, 3) := by decide +kernel
theorem d_RB_book_10 : decode prog_1_method_10_code 10 = .ok (.aload_n 3, 1) := by decide +kernel
theorem d_RB_book_11 : decode prog_1_method_10_code 11 = .ok (.invokevirtual 127, 3) := by decide +kernel
theorem d_RB_book_14 : decode prog_1_method_10_code 14 = .ok (.ifCond .eq 13, 3) := by decide +kernel
theorem d_RB_book_17 : decode prog_1_method_10_code 17 = .ok (.new 131, 3) := by decide +kernel
theorem d_RB_book_20 : decode prog_1_method_10_code 20 = .ok (.dup, 1) := by decide +kernel
theorem d_RB_book_21 : decode prog_1_method_10_code 21 = .ok (.ldc 133, 2) := by decide +kernel
theorem d_RB_book_23 : decode prog_1_method_10_code 23 = .ok (.invokespecial 135, 3) := by decide +kernel
theorem d_RB_book_26 : decode prog_1_method_10_code 26 = .ok (.athrow, 1) := by decide +kernel
theorem d_RB_book_27 : decode prog_1_method_10_code 27 = .ok (.aload_n 0, 1) := by decide +kernel
theorem d_RB_book_28 : decode prog_1_method_10_code 28 = .ok (.aload_n 3, 1) := by decide +kernel
theorem d_RB_book_29 : decode prog_1_method_10_code 29 = .ok (.iload_n 2, 1) := by decide +kernel
theorem d_RB_book_30 : decode prog_1_method_10_code 30 = .ok (.invokevirtual 97, 3) := by decide +kernel
theorem d_RB_book_33 : decode prog_1_method_10_code 33 = .ok (.istore 4, 2) := by decide +kernel
theorem d_RB_book_35 : decode prog_1_method_10_code 35 = .ok (.iload 4, 2) := by decide +kernel
theorem d_RB_book_37 : decode prog_1_method_10_code 37 = .ok (.iconst (-1), 1) := by decide +kernel
theorem d_RB_book_38 : decode prog_1_method_10_code 38 = .ok (.if_icmp .ne 13, 3) := by decide +kernel
theorem d_RB_book_41 : decode prog_1_method_10_code 41 = .ok (.new 131, 3) := by decide +kernel
theorem d_RB_book_44 : decode prog_1_method_10_code 44 = .ok (.dup, 1) := by decide +kernel
theorem d_RB_book_45 : decode prog_1_method_10_code 45 = .ok (.ldc 136, 2) := by decide +kernel
theorem d_RB_book_47 : decode prog_1_method_10_code 47 = .ok (.invokespecial 135, 3) := by decide +kernel
theorem d_RB_book_50 : decode prog_1_method_10_code 50 = .ok (.athrow, 1) := by decide +kernel
theorem d_RB_book_51 : decode prog_1_method_10_code 51 = .ok (.aload_n 3, 1) := by decide +kernel
theorem d_RB_book_52 : decode prog_1_method_10_code 52 = .ok (.iload_n 2, 1) := by decide +kernel
theorem d_RB_book_53 : decode prog_1_method_10_code 53 = .ok (.putfield 138, 3) := by decide +kernel
theorem d_RB_book_56 : decode prog_1_method_10_code 56 = .ok (.aload_n 3, 1) := by decide +kernel
theorem d_RB_book_57 : decode prog_1_method_10_code 57 = .ok (.iload 4, 2) := by decide +kernel
theorem d_RB_book_59 : decode prog_1_method_10_code 59 = .ok (.putfield 141, 3) := by decide +kernel
theorem d_RB_book_62 : decode prog_1_method_10_code 62 = .ok (.aload_n 0, 1) := by decide +kernel
theorem d_RB_book_63 : decode prog_1_method_10_code 63 = .ok (.getfield 45, 3) := by decide +kernel
theorem d_RB_book_66 : decode prog_1_method_10_code 66 = .ok (.iload_n 2, 1) := by decide +kernel
theorem d_RB_book_67 : decode prog_1_method_10_code 67 = .ok (.dup2, 1) := by decide +kernel
theorem d_RB_book_68 : decode prog_1_method_10_code 68 = .ok (.iaload, 1) := by decide +kernel
theorem d_RB_book_69 : decode prog_1_method_10_code 69 = .ok (.iconst 1, 1) := by decide +kernel
theorem d_RB_book_70 : decode prog_1_method_10_code 70 = .ok (.iadd, 1) := by decide +kernel
theorem d_RB_book_71 : decode prog_1_method_10_code 71 = .ok (.iastore, 1) := by decide +kernel
theorem d_RB_book_72 : decode prog_1_method_10_code 72 = .ok (.iload 4, 2) := by decide +kernel
theorem d_RB_book_74 : decode prog_1_method_10_code 74 = .ok (.ireturn, 1) := by decide +kernel
theorem d_RB_combine_0 : decode prog_1_method_11_code 0 = .ok (.aload_n 0, 1) := by decide +kernel
theorem d_RB_combine_1 : decode prog_1_method_11_code 1 = .ok (.iload_n 1, 1) := by decide +kernel
theorem d_RB_combine_2 : decode prog_1_method_11_code 2 = .ok (.invokevirtual 86, 3) := by decide +kernel
theorem d_RB_combine_5 : decode prog_1_method_11_code 5 = .ok (.astore_n 3, 1) := by decide +kernel
theorem d_RB_combine_6 : decode prog_1_method_11_code 6 = .ok (.aload_n 0, 1) := by decide +kernel
theorem d_RB_combine_7 : decode prog_1_method_11_code 7 = .ok (.iload_n 2, 1) := by decide +kernel
theorem d_RB_combine_8 : decode prog_1_method_11_code 8 = .ok (.invokevirtual 86, 3) := by decide +kernel
theorem d_RB_combine_11 : decode prog_1_method_11_code 11 = .ok (.astore 4, 2) := by decide +kernel
theorem d_RB_combine_13 : decode prog_1_method_11_code 13 = .ok (.iload_n 1, 1) := by decide +kernel
theorem d_RB_combine_14 : decode prog_1_method_11_code 14 = .ok (.iload_n 2, 1) := by decide +kernel
theorem d_RB_combine_15 : decode prog_1_method_11_code 15 = .ok (.if_icmp .ne 13, 3) := by decide +kernel
theorem d_RB_combine_18 : decode prog_1_method_11_code 18 = .ok (.new 131, 3) := by decide +kernel
theorem d_RB_combine_21 : decode prog_1_method_11_code 21 = .ok (.dup, 1) := by decide +kernel
theorem d_RB_combine_22 : decode prog_1_method_11_code 22 = .ok (.ldc 144, 2) := by decide +kernel
theorem d_RB_combine_24 : decode prog_1_method_11_code 24 = .ok (.invokespecial 135, 3) := by decide +kernel
theorem d_RB_combine_27 : decode prog_1_method_11_code 27 = .ok (.athrow, 1) := by decide +kernel
theorem d_RB_combine_28 : decode prog_1_method_11_code 28 = .ok (.aload_n 3, 1) := by decide +kernel
theorem d_RB_combine_29 : decode prog_1_method_11_code 29 = .ok (.invokevirtual 127, 3) := by decide +kernel
theorem d_RB_combine_32 : decode prog_1_method_11_code 32 = .ok (.ifCond .ne 11, 3) := by decide +kernel
theorem d_RB_combine_35 : decode prog_1_method_11_code 35 = .ok (.aload 4, 2) := by decide +kernel
theorem d_RB_combine_37 : decode prog_1_method_11_code 37 = .ok (.invokevirtual 127, 3) := by decide +kernel
theorem d_RB_combine_40 : decode prog_1_method_11_code 40 = .ok (.ifCond .eq 13, 3) := by decide +kernel
theorem d_RB_combine_43 : decode prog_1_method_11_code 43 = .ok (.new 131, 3) := by decide +kernel
theorem d_RB_combine_46 : decode prog_1_method_11_code 46 = .ok (.dup, 1) := by decide +kernel
theorem d_RB_combine_47 : decode prog_1_method_11_code 47 = .ok (.ldc 146, 2) := by decide +kernel
theorem d_RB_combine_49 : decode prog_1_method_11_code 49 = .ok (.invokespecial 135, 3) := by decide +kernel
theorem d_RB_combine_52 : decode prog_1_method_11_code 52 = .ok (.athrow, 1) := by decide +kernel
theorem d_RB_combine_53 : decode prog_1_method_11_code 53 = .ok (.aload_n 3, 1) := by decide +kernel
theorem d_RB_combine_54 : decode prog_1_method_11_code 54 = .ok (.getfield 103, 3) := by decide +kernel
theorem d_RB_combine_57 : decode prog_1_method_11_code 57 = .ok (.aload 4, 2) := by decide +kernel
theorem d_RB_combine_59 : decode prog_1_method_11_code 59 = .ok (.getfield 103, 3) := by decide +kernel
theorem d_RB_combine_62 : decode prog_1_method_11_code 62 = .ok (.if_icmp .eq 13, 3) := by decide +kernel
theorem d_RB_combine_65 : decode prog_1_method_11_code 65 = .ok (.new 131, 3) := by decide +kernel
theorem d_RB_combine_68 : decode prog_1_method_11_code 68 = .ok (.dup, 1) := by decide +kernel
theorem d_RB_combine_69 : decode prog_1_method_11_code 69 = .ok (.ldc 148, 2) := by decide +kernel
theorem d_RB_combine_71 : decode prog_1_method_11_code 71 = .ok (.invokespecial 135, 3) := by decide +kernel
theorem d_RB_combine_74 : decode prog_1_method_11_code 74 = .ok (.athrow, 1) := by decide +kernel
theorem d_RB_combine_75 : decode prog_1_method_11_code 75 = .ok (.aload_n 3, 1) := by decide +kernel
theorem d_RB_combine_76 : decode prog_1_method_11_code 76 = .ok (.getfield 110, 3) := by decide +kernel
theorem d_RB_combine_79 : decode prog_1_method_11_code 79 = .ok (.aload 4, 2) := by decide +kernel
theorem d_RB_combine_81 : decode prog_1_method_11_code 81 = .ok (.getfield 110, 3) := by decide +kernel
theorem d_RB_combine_84 : decode prog_1_method_11_code 84 = .ok (.iadd, 1) := by decide +kernel
theorem d_RB_combine_85 : decode prog_1_method_11_code 85 = .ok (.istore 5, 2) := by decide +kernel
theorem d_RB_combine_87 : decode prog_1_method_11_code 87 = .ok (.aload_n 3, 1) := by decide +kernel
theorem d_RB_combine_88 : decode prog_1_method_11_code 88 = .ok (.getfield 150, 3) := by decide +kernel
theorem d_RB_combine_91 : decode prog_1_method_11_code 91 = .ok (.aload 4, 2) := by decide +kernel
theorem d_RB_combine_93 : decode prog_1_method_11_code 93 = .ok (.getfield 150, 3) := by decide +kernel
theorem d_RB_combine_96 : decode prog_1_method_11_code 96 = .ok (.iadd, 1) := by decide +kernel
theorem d_RB_combine_97 : decode prog_1_method_11_code 97 = .ok (.istore 6, 2) := by decide +kernel
theorem d_RB_combine_99 : decode prog_1_method_11_code 99 = .ok (.iload 5, 2) := by decide +kernel
theorem d_RB_combine_101 : decode prog_1_method_11_code 101 = .ok (.ldc 80, 2) := by decide +kernel
theorem d_RB_combine_103 : decode prog_1_method_11_code 103 = .ok (.if_icmp .gt 10, 3) := by decide +kernel
theorem d_RB_combine_106 : decode prog_1_method_11_code 106 = .ok (.iload 6, 2) := by decide +kernel
theorem d_RB_combine_108 : decode prog_1_method_11_code 108 = .ok (.ldc 81, 2) := by decide +kernel
theorem d_RB_combine_110 : decode prog_1_method_11_code 110 = .ok (.if_icmp .le 13, 3) := by decide +kernel
theorem d_RB_combine_113 : decode prog_1_method_11_code 113 = .ok (.new 131, 3) := by decide +kernel
theorem d_RB_combine_116 : decode prog_1_method_11_code 116 = .ok (.dup, 1) := by decide +kernel
theorem d_RB_combine_117 : decode prog_1_method_11_code 117 = .ok (.ldc 153, 2) := by decide +kernel
theorem d_RB_combine_119 : decode prog_1_method_11_code 119 = .ok (.invokespecial 135, 3) := by decide +kernel
theorem d_RB_combine_122 : decode prog_1_method_11_code 122 = .ok (.athrow, 1) := by decide +kernel
theorem d_RB_combine_123 : decode prog_1_method_11_code 123 = .ok (.aload_n 3, 1) := by decide +kernel
theorem d_RB_combine_124 : decode prog_1_method_11_code 124 = .ok (.iload 5, 2) := by decide +kernel
theorem d_RB_combine_126 : decode prog_1_method_11_code 126 = .ok (.putfield 110, 3) := by decide +kernel
theorem d_RB_combine_129 : decode prog_1_method_11_code 129 = .ok (.aload_n 3, 1) := by decide +kernel
theorem d_RB_combine_130 : decode prog_1_method_11_code 130 = .ok (.iload 6, 2) := by decide +kernel
theorem d_RB_combine_132 : decode prog_1_method_11_code 132 = .ok (.putfield 150, 3) := by decide +kernel
theorem d_RB_combine_135 : decode prog_1_method_11_code 135 = .ok (.aload_n 0, 1) := by decide +kernel
theorem d_RB_combine_136 : decode prog_1_method_11_code 136 = .ok (.getfield 28, 3) := by decide +kernel
theorem d_RB_combine_139 : decode prog_1_method_11_code 139 = .ok (.iload_n 2, 1) := by decide +kernel
theorem d_RB_combine_140 : decode prog_1_method_11_code 140 = .ok (.aconst_null, 1) := by decide +kernel
theorem d_RB_combine_141 : decode prog_1_method_11_code 141 = .ok (.aastore, 1) := by decide +kernel
theorem d_RB_combine_142 : decode prog_1_method_11_code 142 = .ok (.iload 5, 2) := by decide +kernel
theorem d_RB_combine_144 : decode prog_1_method_11_code 144 = .ok (.ireturn, 1) := by decide +kernel
theorem d_RB_invoice_0 : decode prog_1_method_12_code 0 = .ok (.aload_n 0, 1) := by decide +kernel
theorem d_RB_invoice_1 : decode prog_1_method_12_code 1 = .ok (.iload_n 1, 1) := by decide +kernel
theorem d_RB_invoice_2 : decode prog_1_method_12_code 2 = .ok (.invokevirtual 86, 3) := by decide +kernel
theorem d_RB_invoice_5 : decode prog_1_method_12_code 5 = .ok (.astore_n 3, 1) := by decide +kernel
theorem d_RB_invoice_6 : decode prog_1_method_12_code 6 = .ok (.iload_n 2, 1) := by decide +kernel
theorem d_RB_invoice_7 : decode prog_1_method_12_code 7 = .ok (.iconst 0, 1) := by decide +kernel
theorem d_RB_invoice_8 : decode prog_1_method_12_code 8 = .ok (.ldc 155, 2) := by decide +kernel
theorem d_RB_invoice_10 : decode prog_1_method_12_code 10 = .ok (.invokestatic 53, 3) := by decide +kernel
theorem d_RB_invoice_13 : decode prog_1_method_12_code 13 = .ok (.aload_n 3, 1) := by decide +kernel
theorem d_RB_invoice_14 : decode prog_1_method_12_code 14 = .ok (.invokevirtual 127, 3) := by decide +kernel
theorem d_RB_invoice_17 : decode prog_1_method_12_code 17 = .ok (.ifCond .eq 10, 3) := by decide +kernel
theorem d_RB_invoice_20 : decode prog_1_method_12_code 20 = .ok (.aload_n 3, 1) := by decide +kernel
theorem d_RB_invoice_21 : decode prog_1_method_12_code 21 = .ok (.invokevirtual 156, 3) := by decide +kernel
theorem d_RB_invoice_24 : decode prog_1_method_12_code 24 = .ok (.ifCond .eq 13, 3) := by decide +kernel
theorem d_RB_invoice_27 : decode prog_1_method_12_code 27 = .ok (.new 131, 3) := by decide +kernel
theorem d_RB_invoice_30 : decode prog_1_method_12_code 30 = .ok (.dup, 1) := by decide +kernel
theorem d_RB_invoice_31 : decode prog_1_method_12_code 31 = .ok (.ldc 159, 2) := by decide +kernel
theorem d_RB_invoice_33 : decode prog_1_method_12_code 33 = .ok (.invokespecial 135, 3) := by decide +kernel
theorem d_RB_invoice_36 : decode prog_1_method_12_code 36 = .ok (.athrow, 1) := by decide +kernel
theorem d_RB_invoice_37 : decode prog_1_method_12_code 37 = .ok (.aload_n 3, 1) := by decide +kernel
theorem d_RB_invoice_38 : decode prog_1_method_12_code 38 = .ok (.iload_n 2, 1) := by decide +kernel
theorem d_RB_invoice_39 : decode prog_1_method_12_code 39 = .ok (.putfield 161, 3) := by decide +kernel
theorem d_RB_invoice_42 : decode prog_1_method_12_code 42 = .ok (.iload_n 2, 1) := by decide +kernel
theorem d_RB_invoice_43 : decode prog_1_method_12_code 43 = .ok (.aload_n 3, 1) := by decide +kernel
theorem d_RB_invoice_44 : decode prog_1_method_12_code 44 = .ok (.getfield 141, 3) := by decide +kernel
theorem d_RB_invoice_47 : decode prog_1_method_12_code 47 = .ok (.isub, 1) := by decide +kernel
theorem d_RB_invoice_48 : decode prog_1_method_12_code 48 = .ok (.ireturn, 1) := by decide +kernel
theorem d_RB_refund_0 : decode prog_1_method_13_code 0 = .ok (.aload_n 0, 1) := by decide +kernel
theorem d_RB_refund_1 : decode prog_1_method_13_code 1 = .ok (.iload_n 1, 1) := by decide +kernel
theorem d_RB_refund_2 : decode prog_1_method_13_code 2 = .ok (.invokevirtual 86, 3) := by decide +kernel
theorem d_RB_refund_5 : decode prog_1_method_13_code 5 = .ok (.astore_n 3, 1) := by decide +kernel
theorem d_RB_refund_6 : decode prog_1_method_13_code 6 = .ok (.iload_n 2, 1) := by decide +kernel
theorem d_RB_refund_7 : decode prog_1_method_13_code 7 = .ok (.iconst 1, 1) := by decide +kernel
theorem d_RB_refund_8 : decode prog_1_method_13_code 8 = .ok (.ldc 155, 2) := by decide +kernel
theorem d_RB_refund_10 : decode prog_1_method_13_code 10 = .ok (.invokestatic 53, 3) := by decide +kernel
theorem d_RB_refund_13 : decode prog_1_method_13_code 13 = .ok (.aload_n 3, 1) := by decide +kernel
theorem d_RB_refund_14 : decode prog_1_method_13_code 14 = .ok (.invokevirtual 156, 3) := by decide +kernel
theorem d_RB_refund_17 : decode prog_1_method_13_code 17 = .ok (.ifCond .eq 11, 3) := by decide +kernel
theorem d_RB_refund_20 : decode prog_1_method_13_code 20 = .ok (.iload_n 2, 1) := by decide +kernel
theorem d_RB_refund_21 : decode prog_1_method_13_code 21 = .ok (.aload_n 3, 1) := by decide +kernel
theorem d_RB_refund_22 : decode prog_1_method_13_code 22 = .ok (.getfield 161, 3) := by decide +kernel
theorem d_RB_refund_25 : decode prog_1_method_13_code 25 = .ok (.if_icmp .le 13, 3) := by decide +kernel
theorem d_RB_refund_28 : decode prog_1_method_13_code 28 = .ok (.new 131, 3) := by decide +kernel
theorem d_RB_refund_31 : decode prog_1_method_13_code 31 = .ok (.dup, 1) := by decide +kernel
theorem d_RB_refund_32 : decode prog_1_method_13_code 32 = .ok (.ldc 164, 2) := by decide +kernel
theorem d_RB_refund_34 : decode prog_1_method_13_code 34 = .ok (.invokespecial 135, 3) := by decide +kernel
theorem d_RB_refund_37 : decode prog_1_method_13_code 37 = .ok (.athrow, 1) := by decide +kernel
theorem d_RB_refund_38 : decode prog_1_method_13_code 38 = .ok (.aload_n 3, 1) := by decide +kernel
theorem d_RB_refund_39 : decode prog_1_method_13_code 39 = .ok (.dup, 1) := by decide +kernel
theorem d_RB_refund_40 : decode prog_1_method_13_code 40 = .ok (.getfield 161, 3) := by decide +kernel
theorem d_RB_refund_43 : decode prog_1_method_13_code 43 = .ok (.iload_n 2, 1) := by decide +kernel
theorem d_RB_refund_44 : decode prog_1_method_13_code 44 = .ok (.isub, 1) := by decide +kernel
theorem d_RB_refund_45 : decode prog_1_method_13_code 45 = .ok (.putfield 161, 3) := by decide +kernel
theorem d_RB_refund_48 : decode prog_1_method_13_code 48 = .ok (.aload_n 3, 1) := by decide +kernel
theorem d_RB_refund_49 : decode prog_1_method_13_code 49 = .ok (.getfield 161, 3) := by decide +kernel
theorem d_RB_refund_52 : decode prog_1_method_13_code 52 = .ok (.ireturn, 1) := by decide +kernel
theorem d_RB_differ_0 : decode prog_1_method_14_code 0 = .ok (.iload_n 1, 1) := by decide +kernel
theorem d_RB_differ_1 : decode prog_1_method_14_code 1 = .ok (.ifCond .ge 13, 3) := by decide +kernel
theorem d_RB_differ_4 : decode prog_1_method_14_code 4 = .ok (.new 166, 3) := by decide +kernel
theorem d_RB_differ_7 : decode prog_1_method_14_code 7 = .ok (.dup, 1) := by decide +kernel
theorem d_RB_differ_8 : decode prog_1_method_14_code 8 = .ok (.ldc 168, 2) := by decide +kernel
theorem d_RB_differ_10 : decode prog_1_method_14_code 10 = .ok (.invokespecial 170, 3) := by decide +kernel
theorem d_RB_differ_13 : decode prog_1_method_14_code 13 = .ok (.athrow, 1) := by decide +kernel
theorem d_RB_differ_14 : decode prog_1_method_14_code 14 = .ok (.iconst 0, 1) := by decide +kernel
theorem d_RB_differ_15 : decode prog_1_method_14_code 15 = .ok (.istore_n 2, 1) := by decide +kernel
theorem d_RB_differ_16 : decode prog_1_method_14_code 16 = .ok (.iconst 0, 1) := by decide +kernel
theorem d_RB_differ_17 : decode prog_1_method_14_code 17 = .ok (.istore_n 3, 1) := by decide +kernel
theorem d_RB_differ_18 : decode prog_1_method_14_code 18 = .ok (.iload_n 3, 1) := by decide +kernel
theorem d_RB_differ_19 : decode prog_1_method_14_code 19 = .ok (.bipush 20, 2) := by decide +kernel
theorem d_RB_differ_21 : decode prog_1_method_14_code 21 = .ok (.if_icmp .ge 53, 3) := by decide +kernel
theorem d_RB_differ_24 : decode prog_1_method_14_code 24 = .ok (.aload_n 0, 1) := by decide +kernel
theorem d_RB_differ_25 : decode prog_1_method_14_code 25 = .ok (.getfield 28, 3) := by decide +kernel
theorem d_RB_differ_28 : decode prog_1_method_14_code 28 = .ok (.iload_n 3, 1) := by decide +kernel
theorem d_RB_differ_29 : decode prog_1_method_14_code 29 = .ok (.aaload, 1) := by decide +kernel
theorem d_RB_differ_30 : decode prog_1_method_14_code 30 = .ok (.astore 4, 2) := by decide +kernel
theorem d_RB_differ_32 : decode prog_1_method_14_code 32 = .ok (.aload 4, 2) := by decide +kernel
theorem d_RB_differ_34 : decode prog_1_method_14_code 34 = .ok (.ifnull 34, 3) := by decide +kernel
theorem d_RB_differ_37 : decode prog_1_method_14_code 37 = .ok (.aload 4, 2) := by decide +kernel
theorem d_RB_differ_39 : decode prog_1_method_14_code 39 = .ok (.invokevirtual 156, 3) := by decide +kernel
theorem d_RB_differ_42 : decode prog_1_method_14_code 42 = .ok (.ifCond .eq 26, 3) := by decide +kernel
theorem d_RB_differ_45 : decode prog_1_method_14_code 45 = .ok (.aload 4, 2) := by decide +kernel
theorem d_RB_differ_47 : decode prog_1_method_14_code 47 = .ok (.getfield 161, 3) := by decide +kernel
theorem d_RB_differ_50 : decode prog_1_method_14_code 50 = .ok (.aload 4, 2) := by decide +kernel
theorem d_RB_differ_52 : decode prog_1_method_14_code 52 = .ok (.getfield 141, 3) := by decide +kernel
theorem d_RB_differ_55 : decode prog_1_method_14_code 55 = .ok (.if_icmp .eq 13, 3) := by decide +kernel
theorem d_RB_differ_58 : decode prog_1_method_14_code 58 = .ok (.iload_n 2, 1) := by decide +kernel
theorem d_RB_differ_59 : decode prog_1_method_14_code 59 = .ok (.iload_n 1, 1) := by decide +kernel
theorem d_RB_differ_60 : decode prog_1_method_14_code 60 = .ok (.if_icmp .ne 5, 3) := by decide +kernel
theorem d_RB_differ_63 : decode prog_1_method_14_code 63 = .ok (.iload_n 3, 1) := by decide +kernel
theorem d_RB_differ_64 : decode prog_1_method_14_code 64 = .ok (.ireturn, 1) := by decide +kernel
theorem d_RB_differ_65 : decode prog_1_method_14_code 65 = .ok (.iinc 2 1, 3) := by decide +kernel
theorem d_RB_differ_68 : decode prog_1_method_14_code 68 = .ok (.iinc 3 1, 3) := by decide +kernel
theorem d_RB_differ_71 : decode prog_1_method_14_code 71 = .ok (.goto (-53), 3) := by decide +kernel
theorem d_RB_differ_74 : decode prog_1_method_14_code 74 = .ok (.iconst (-1), 1) := by decide +kernel
theorem d_RB_differ_75 : decode prog_1_method_14_code 75 = .ok (.ireturn, 1) := by decide +kernel
theorem d_RB_currency_0 : decode prog_1_method_15_code 0 = .ok (.iload_n 1, 1) := by decide +kernel
theorem d_RB_currency_1 : decode prog_1_method_15_code 1 = .ok (.iconst 0, 1) := by decide +kernel
theorem d_RB_currency_2 : decode prog_1_method_15_code 2 = .ok (.sipush 10000, 3) := by decide +kernel
theorem d_RB_currency_5 : decode prog_1_method_15_code 5 = .ok (.invokestatic 53, 3) := by decide +kernel
theorem d_RB_currency_8 : decode prog_1_method_15_code 8 = .ok (.iload_n 2, 1) := by decide +kernel
theorem d_RB_currency_9 : decode prog_1_method_15_code 9 = .ok (.iconst 1, 1) := by decide +kernel
theorem d_RB_currency_10 : decode prog_1_method_15_code 10 = .ok (.ldc 80, 2) := by decide +kernel
theorem d_RB_currency_12 : decode prog_1_method_15_code 12 = .ok (.invokestatic 53, 3) := by decide +kernel
theorem d_RB_currency_15 : decode prog_1_method_15_code 15 = .ok (.iload_n 3, 1) := by decide +kernel
theorem d_RB_currency_16 : decode prog_1_method_15_code 16 = .ok (.iconst 1, 1) := by decide +kernel
theorem d_RB_currency_17 : decode prog_1_method_15_code 17 = .ok (.ldc 80, 2) := by decide +kernel
theorem d_RB_currency_19 : decode prog_1_method_15_code 19 = .ok (.invokestatic 53, 3) := by decide +kernel
theorem d_RB_currency_22 : decode prog_1_method_15_code 22 = .ok (.aload_n 0, 1) := by decide +kernel
theorem d_RB_currency_23 : decode prog_1_method_15_code 23 = .ok (.getfield 49, 3) := by decide +kernel
theorem d_RB_currency_26 : decode prog_1_method_15_code 26 = .ok (.iload_n 1, 1) := by decide +kernel
theorem d_RB_currency_27 : decode prog_1_method_15_code 27 = .ok (.invokestatic 117, 3) := by decide +kernel
theorem d_RB_currency_30 : decode prog_1_method_15_code 30 = .ok (.aload_n 0, 1) := by decide +kernel
theorem d_RB_currency_31 : decode prog_1_method_15_code 31 = .ok (.getfield 49, 3) := by decide +kernel
theorem d_RB_currency_34 : decode prog_1_method_15_code 34 = .ok (.iload_n 1, 1) := by decide +kernel
theorem d_RB_currency_35 : decode prog_1_method_15_code 35 = .ok (.iload_n 2, 1) := by decide +kernel
theorem d_RB_currency_36 : decode prog_1_method_15_code 36 = .ok (.iload_n 3, 1) := by decide +kernel
theorem d_RB_currency_37 : decode prog_1_method_15_code 37 = .ok (.invokevirtual 121, 3) := by decide +kernel
theorem d_RB_currency_40 : decode prog_1_method_15_code 40 = .ok (.aload_n 0, 1) := by decide +kernel
theorem d_RB_currency_41 : decode prog_1_method_15_code 41 = .ok (.getfield 49, 3) := by decide +kernel
theorem d_RB_currency_44 : decode prog_1_method_15_code 44 = .ok (.getfield 124, 3) := by decide +kernel
theorem d_RB_currency_47 : decode prog_1_method_15_code 47 = .ok (.ireturn, 1) := by decide +kernel
theorem d_RB_converted_0 : decode prog_1_method_16_code 0 = .ok (.iload_n 1, 1) := by decide +kernel
theorem d_RB_converted_1 : decode prog_1_method_16_code 1 = .ok (.iconst 0, 1) := by decide +kernel
theorem d_RB_converted_2 : decode prog_1_method_16_code 2 = .ok (.ldc 155, 2) := by decide +kernel
theorem d_RB_converted_4 : decode prog_1_method_16_code 4 = .ok (.invokestatic 53, 3) := by decide +kernel
theorem d_RB_converted_7 : decode prog_1_method_16_code 7 = .ok (.iload_n 2, 1) := by decide +kernel
theorem d_RB_converted_8 : decode prog_1_method_16_code 8 = .ok (.iconst 0, 1) := by decide +kernel
theorem d_RB_converted_9 : decode prog_1_method_16_code 9 = .ok (.sipush 10000, 3) := by decide +kernel
theorem d_RB_converted_12 : decode prog_1_method_16_code 12 = .ok (.invokestatic 53, 3) := by decide +kernel
theorem d_RB_converted_15 : decode prog_1_method_16_code 15 = .ok (.aload_n 0, 1) := by decide +kernel
theorem d_RB_converted_16 : decode prog_1_method_16_code 16 = .ok (.getfield 49, 3) := by decide +kernel
theorem d_RB_converted_19 : decode prog_1_method_16_code 19 = .ok (.iload_n 2, 1) := by decide +kernel
theorem d_RB_converted_20 : decode prog_1_method_16_code 20 = .ok (.invokevirtual 171, 3) := by decide +kernel
theorem d_RB_converted_23 : decode prog_1_method_16_code 23 = .ok (.istore_n 3, 1) := by decide +kernel
theorem d_RB_converted_24 : decode prog_1_method_16_code 24 = .ok (.iload_n 3, 1) := by decide +kernel
theorem d_RB_converted_25 : decode prog_1_method_16_code 25 = .ok (.iconst (-1), 1) := by decide +kernel
theorem d_RB_converted_26 : decode prog_1_method_16_code 26 = .ok (.if_icmp .ne 7, 3) := by decide +kernel
theorem d_RB_converted_29 : decode prog_1_method_16_code 29 = .ok (.ldc2_w 175, 3) := by decide +kernel
theorem d_RB_converted_32 : decode prog_1_method_16_code 32 = .ok (.lreturn, 1) := by decide +kernel
theorem d_RB_converted_33 : decode prog_1_method_16_code 33 = .ok (.iload_n 1, 1) := by decide +kernel
theorem d_RB_converted_34 : decode prog_1_method_16_code 34 = .ok (.i2l, 1) := by decide +kernel
theorem d_RB_converted_35 : decode prog_1_method_16_code 35 = .ok (.aload_n 0, 1) := by decide +kernel
theorem d_RB_converted_36 : decode prog_1_method_16_code 36 = .ok (.getfield 49, 3) := by decide +kernel
theorem d_RB_converted_39 : decode prog_1_method_16_code 39 = .ok (.getfield 177, 3) := by decide +kernel
theorem d_RB_converted_42 : decode prog_1_method_16_code 42 = .ok (.iload_n 3, 1) := by decide +kernel
theorem d_RB_converted_43 : decode prog_1_method_16_code 43 = .ok (.iaload, 1) := by decide +kernel
theorem d_RB_converted_44 : decode prog_1_method_16_code 44 = .ok (.i2l, 1) := by decide +kernel
theorem d_RB_converted_45 : decode prog_1_method_16_code 45 = .ok (.lmul, 1) := by decide +kernel
theorem d_RB_converted_46 : decode prog_1_method_16_code 46 = .ok (.aload_n 0, 1) := by decide +kernel
theorem d_RB_converted_47 : decode prog_1_method_16_code 47 = .ok (.getfield 49, 3) := by decide +kernel
theorem d_RB_converted_50 : decode prog_1_method_16_code 50 = .ok (.getfield 180, 3) := by decide +kernel
theorem d_RB_converted_53 : decode prog_1_method_16_code 53 = .ok (.iload_n 3, 1) := by decide +kernel
theorem d_RB_converted_54 : decode prog_1_method_16_code 54 = .ok (.iaload, 1) := by decide +kernel
theorem d_RB_converted_55 : decode prog_1_method_16_code 55 = .ok (.i2l, 1) := by decide +kernel
theorem d_RB_converted_56 : decode prog_1_method_16_code 56 = .ok (.invokestatic 183, 3) := by decide +kernel
theorem d_RB_converted_59 : decode prog_1_method_16_code 59 = .ok (.lreturn, 1) := by decide +kernel
theorem d_RB_told_0 : decode prog_1_method_17_code 0 = .ok (.aload_n 0, 1) := by decide +kernel
theorem d_RB_told_1 : decode prog_1_method_17_code 1 = .ok (.iload_n 1, 1) := by decide +kernel
theorem d_RB_told_2 : decode prog_1_method_17_code 2 = .ok (.invokevirtual 86, 3) := by decide +kernel
theorem d_RB_told_5 : decode prog_1_method_17_code 5 = .ok (.astore_n 3, 1) := by decide +kernel
theorem d_RB_told_6 : decode prog_1_method_17_code 6 = .ok (.iload_n 2, 1) := by decide +kernel
theorem d_RB_told_7 : decode prog_1_method_17_code 7 = .ok (.tableswitch 67 0 5 #[37, 42, 47, 52, 57, 62], 37) := by decide +kernel
theorem d_RB_told_44 : decode prog_1_method_17_code 44 = .ok (.aload_n 3, 1) := by decide +kernel
theorem d_RB_told_45 : decode prog_1_method_17_code 45 = .ok (.getfield 103, 3) := by decide +kernel
theorem d_RB_told_48 : decode prog_1_method_17_code 48 = .ok (.ireturn, 1) := by decide +kernel
theorem d_RB_told_49 : decode prog_1_method_17_code 49 = .ok (.aload_n 3, 1) := by decide +kernel
theorem d_RB_told_50 : decode prog_1_method_17_code 50 = .ok (.getfield 110, 3) := by decide +kernel
theorem d_RB_told_53 : decode prog_1_method_17_code 53 = .ok (.ireturn, 1) := by decide +kernel
theorem d_RB_told_54 : decode prog_1_method_17_code 54 = .ok (.aload_n 3, 1) := by decide +kernel
theorem d_RB_told_55 : decode prog_1_method_17_code 55 = .ok (.getfield 150, 3) := by decide +kernel
theorem d_RB_told_58 : decode prog_1_method_17_code 58 = .ok (.ireturn, 1) := by decide +kernel
theorem d_RB_told_59 : decode prog_1_method_17_code 59 = .ok (.aload_n 3, 1) := by decide +kernel
theorem d_RB_told_60 : decode prog_1_method_17_code 60 = .ok (.getfield 138, 3) := by decide +kernel
theorem d_RB_told_63 : decode prog_1_method_17_code 63 = .ok (.ireturn, 1) := by decide +kernel
theorem d_RB_told_64 : decode prog_1_method_17_code 64 = .ok (.aload_n 3, 1) := by decide +kernel
theorem d_RB_told_65 : decode prog_1_method_17_code 65 = .ok (.getfield 141, 3) := by decide +kernel
theorem d_RB_told_68 : decode prog_1_method_17_code 68 = .ok (.ireturn, 1) := by decide +kernel
theorem d_RB_told_69 : decode prog_1_method_17_code 69 = .ok (.aload_n 3, 1) := by decide +kernel
theorem d_RB_told_70 : decode prog_1_method_17_code 70 = .ok (.getfield 161, 3) := by decide +kernel
theorem d_RB_told_73 : decode prog_1_method_17_code 73 = .ok (.ireturn, 1) := by decide +kernel
theorem d_RB_told_74 : decode prog_1_method_17_code 74 = .ok (.new 166, 3) := by decide +kernel
theorem d_RB_told_77 : decode prog_1_method_17_code 77 = .ok (.dup, 1) := by decide +kernel
theorem d_RB_told_78 : decode prog_1_method_17_code 78 = .ok (.ldc 187, 2) := by decide +kernel
theorem d_RB_told_80 : decode prog_1_method_17_code 80 = .ok (.invokespecial 170, 3) := by decide +kernel
theorem d_RB_told_83 : decode prog_1_method_17_code 83 = .ok (.athrow, 1) := by decide +kernel
end
section
theorem d_Tx_init_0 : decode prog_5_method_1_code 0 = .ok (.aload_n 0, 1) := by decide +kernel
theorem d_Tx_init_1 : decode prog_5_method_1_code 1 = .ok (.invokespecial 3, 3) := by decide +kernel
theorem d_Tx_init_4 : decode prog_5_method_1_code 4 = .ok (.aload_n 0, 1) := by decide +kernel
theorem d_Tx_init_5 : decode prog_5_method_1_code 5 = .ok (.sipush 600, 3) := by decide +kernel
theorem d_Tx_init_8 : decode prog_5_method_1_code 8 = .ok (.newarray .int, 2) := by decide +kernel
theorem d_Tx_init_10 : decode prog_5_method_1_code 10 = .ok (.putfield 9, 3) := by decide +kernel
theorem d_Tx_init_13 : decode prog_5_method_1_code 13 = .ok (.aload_n 0, 1) := by decide +kernel
theorem d_Tx_init_14 : decode prog_5_method_1_code 14 = .ok (.iconst 4, 1) := by decide +kernel
theorem d_Tx_init_15 : decode prog_5_method_1_code 15 = .ok (.newarray .int, 2) := by decide +kernel
theorem d_Tx_init_17 : decode prog_5_method_1_code 17 = .ok (.putfield 15, 3) := by decide +kernel
theorem d_Tx_init_20 : decode prog_5_method_1_code 20 = .ok (.aload_n 0, 1) := by decide +kernel
theorem d_Tx_init_21 : decode prog_5_method_1_code 21 = .ok (.iconst 0, 1) := by decide +kernel
theorem d_Tx_init_22 : decode prog_5_method_1_code 22 = .ok (.putfield 18, 3) := by decide +kernel
theorem d_Tx_init_25 : decode prog_5_method_1_code 25 = .ok (.aload_n 0, 1) := by decide +kernel
theorem d_Tx_init_26 : decode prog_5_method_1_code 26 = .ok (.iconst 0, 1) := by decide +kernel
theorem d_Tx_init_27 : decode prog_5_method_1_code 27 = .ok (.putfield 22, 3) := by decide +kernel
theorem d_Tx_init_30 : decode prog_5_method_1_code 30 = .ok (.return_, 1) := by decide +kernel
theorem d_Tx_behindLine_0 : decode prog_5_method_5_code 0 = .ok (.aload_n 0, 1) := by decide +kernel
theorem d_Tx_behindLine_1 : decode prog_5_method_5_code 1 = .ok (.iload_n 1, 1) := by decide +kernel
theorem d_Tx_behindLine_2 : decode prog_5_method_5_code 2 = .ok (.invokevirtual 25, 3) := by decide +kernel
theorem d_Tx_behindLine_5 : decode prog_5_method_5_code 5 = .ok (.invokestatic 29, 3) := by decide +kernel
theorem d_Tx_behindLine_8 : decode prog_5_method_5_code 8 = .ok (.istore_n 2, 1) := by decide +kernel
theorem d_Tx_behindLine_9 : decode prog_5_method_5_code 9 = .ok (.iload_n 2, 1) := by decide +kernel
theorem d_Tx_behindLine_10 : decode prog_5_method_5_code 10 = .ok (.ifCond .ne 5, 3) := by decide +kernel
theorem d_Tx_behindLine_13 : decode prog_5_method_5_code 13 = .ok (.iconst (-1), 1) := by decide +kernel
theorem d_Tx_behindLine_14 : decode prog_5_method_5_code 14 = .ok (.ireturn, 1) := by decide +kernel
theorem d_Tx_behindLine_15 : decode prog_5_method_5_code 15 = .ok (.aload_n 0, 1) := by decide +kernel
theorem d_Tx_behindLine_16 : decode prog_5_method_5_code 16 = .ok (.iload_n 1, 1) := by decide +kernel
theorem d_Tx_behindLine_17 : decode prog_5_method_5_code 17 = .ok (.iconst 1, 1) := by decide +kernel
theorem d_Tx_behindLine_18 : decode prog_5_method_5_code 18 = .ok (.iadd, 1) := by decide +kernel
theorem d_Tx_behindLine_19 : decode prog_5_method_5_code 19 = .ok (.putfield 22, 3) := by decide +kernel
theorem d_Tx_behindLine_22 : decode prog_5_method_5_code 22 = .ok (.iconst 0, 1) := by decide +kernel
theorem d_Tx_behindLine_23 : decode prog_5_method_5_code 23 = .ok (.istore_n 3, 1) := by decide +kernel
theorem d_Tx_behindLine_24 : decode prog_5_method_5_code 24 = .ok (.iload_n 3, 1) := by decide +kernel
theorem d_Tx_behindLine_25 : decode prog_5_method_5_code 25 = .ok (.iload_n 2, 1) := by decide +kernel
theorem d_Tx_behindLine_26 : decode prog_5_method_5_code 26 = .ok (.if_icmp .ge 31, 3) := by decide +kernel
theorem d_Tx_behindLine_29 : decode prog_5_method_5_code 29 = .ok (.aload_n 0, 1) := by decide +kernel
theorem d_Tx_behindLine_30 : decode prog_5_method_5_code 30 = .ok (.getfield 15, 3) := by decide +kernel
theorem d_Tx_behindLine_33 : decode prog_5_method_5_code 33 = .ok (.iload_n 3, 1) := by decide +kernel
theorem d_Tx_behindLine_34 : decode prog_5_method_5_code 34 = .ok (.aload_n 0, 1) := by decide +kernel
theorem d_Tx_behindLine_35 : decode prog_5_method_5_code 35 = .ok (.invokevirtual 32, 3) := by decide +kernel
theorem d_Tx_behindLine_38 : decode prog_5_method_5_code 38 = .ok (.iastore, 1) := by decide +kernel
theorem d_Tx_behindLine_39 : decode prog_5_method_5_code 39 = .ok (.aload_n 0, 1) := by decide +kernel
theorem d_Tx_behindLine_40 : decode prog_5_method_5_code 40 = .ok (.getfield 15, 3) := by decide +kernel
theorem d_Tx_behindLine_43 : decode prog_5_method_5_code 43 = .ok (.iload_n 3, 1) := by decide +kernel
theorem d_Tx_behindLine_44 : decode prog_5_method_5_code 44 = .ok (.iaload, 1) := by decide +kernel
theorem d_Tx_behindLine_45 : decode prog_5_method_5_code 45 = .ok (.iconst (-1), 1) := by decide +kernel
theorem d_Tx_behindLine_46 : decode prog_5_method_5_code 46 = .ok (.if_icmp .ne 5, 3) := by decide +kernel
theorem d_Tx_behindLine_49 : decode prog_5_method_5_code 49 = .ok (.iconst (-1), 1) := by decide +kernel
theorem d_Tx_behindLine_50 : decode prog_5_method_5_code 50 = .ok (.ireturn, 1) := by decide +kernel
theorem d_Tx_behindLine_51 : decode prog_5_method_5_code 51 = .ok (.iinc 3 1, 3) := by decide +kernel
theorem d_Tx_behindLine_54 : decode prog_5_method_5_code 54 = .ok (.goto (-30), 3) := by decide +kernel
theorem d_Tx_behindLine_57 : decode prog_5_method_5_code 57 = .ok (.aload_n 0, 1) := by decide +kernel
theorem d_Tx_behindLine_58 : decode prog_5_method_5_code 58 = .ok (.aload_n 0, 1) := by decide +kernel
theorem d_Tx_behindLine_59 : decode prog_5_method_5_code 59 = .ok (.getfield 22, 3) := by decide +kernel
theorem d_Tx_behindLine_62 : decode prog_5_method_5_code 62 = .ok (.invokevirtual 25, 3) := by decide +kernel
theorem d_Tx_behindLine_65 : decode prog_5_method_5_code 65 = .ok (.bipush 10, 2) := by decide +kernel
theorem d_Tx_behindLine_67 : decode prog_5_method_5_code 67 = .ok (.if_icmp .ne 12, 3) := by decide +kernel
theorem d_Tx_behindLine_70 : decode prog_5_method_5_code 70 = .ok (.aload_n 0, 1) := by decide +kernel
theorem d_Tx_behindLine_71 : decode prog_5_method_5_code 71 = .ok (.getfield 22, 3) := by decide +kernel
theorem d_Tx_behindLine_74 : decode prog_5_method_5_code 74 = .ok (.iconst 1, 1) := by decide +kernel
theorem d_Tx_behindLine_75 : decode prog_5_method_5_code 75 = .ok (.iadd, 1) := by decide +kernel
theorem d_Tx_behindLine_76 : decode prog_5_method_5_code 76 = .ok (.goto 4, 3) := by decide +kernel
theorem d_Tx_behindLine_79 : decode prog_5_method_5_code 79 = .ok (.iconst (-1), 1) := by decide +kernel
theorem d_Tx_behindLine_80 : decode prog_5_method_5_code 80 = .ok (.ireturn, 1) := by decide +kernel
theorem d_Tx_at_0 : decode prog_5_method_4_code 0 = .ok (.iload_n 1, 1) := by decide +kernel
theorem d_Tx_at_1 : decode prog_5_method_4_code 1 = .ok (.ifCond .lt 20, 3) := by decide +kernel
theorem d_Tx_at_4 : decode prog_5_method_4_code 4 = .ok (.iload_n 1, 1) := by decide +kernel
theorem d_Tx_at_5 : decode prog_5_method_4_code 5 = .ok (.aload_n 0, 1) := by decide +kernel
theorem d_Tx_at_6 : decode prog_5_method_4_code 6 = .ok (.getfield 18, 3) := by decide +kernel
theorem d_Tx_at_9 : decode prog_5_method_4_code 9 = .ok (.if_icmp .ge 12, 3) := by decide +kernel
theorem d_Tx_at_12 : decode prog_5_method_4_code 12 = .ok (.aload_n 0, 1) := by decide +kernel
theorem d_Tx_at_13 : decode prog_5_method_4_code 13 = .ok (.getfield 9, 3) := by decide +kernel
theorem d_Tx_at_16 : decode prog_5_method_4_code 16 = .ok (.iload_n 1, 1) := by decide +kernel
theorem d_Tx_at_17 : decode prog_5_method_4_code 17 = .ok (.iaload, 1) := by decide +kernel
theorem d_Tx_at_18 : decode prog_5_method_4_code 18 = .ok (.goto 4, 3) := by decide +kernel
theorem d_Tx_at_21 : decode prog_5_method_4_code 21 = .ok (.iconst (-1), 1) := by decide +kernel
theorem d_Tx_at_22 : decode prog_5_method_4_code 22 = .ok (.ireturn, 1) := by decide +kernel
theorem d_Tx_numbersBehind_0 : decode prog_5_method_6_code 0 = .ok (.iload_n 0, 1) := by decide +kernel
theorem d_Tx_numbersBehind_1 : decode prog_5_method_6_code 1 = .ok (.lookupswitch 49 #[(68, 47), (70, 45), (77, 47), (82, 43)], 43) := by decide +kernel
theorem d_Tx_numbersBehind_44 : decode prog_5_method_6_code 44 = .ok (.iconst 4, 1) := by decide +kernel
theorem d_Tx_numbersBehind_45 : decode prog_5_method_6_code 45 = .ok (.ireturn, 1) := by decide +kernel
theorem d_Tx_numbersBehind_46 : decode prog_5_method_6_code 46 = .ok (.iconst 3, 1) := by decide +kernel
theorem d_Tx_numbersBehind_47 : decode prog_5_method_6_code 47 = .ok (.ireturn, 1) := by decide +kernel
theorem d_Tx_numbersBehind_48 : decode prog_5_method_6_code 48 = .ok (.iconst 2, 1) := by decide +kernel
theorem d_Tx_numbersBehind_49 : decode prog_5_method_6_code 49 = .ok (.ireturn, 1) := by decide +kernel
theorem d_Tx_numbersBehind_50 : decode prog_5_method_6_code 50 = .ok (.iconst 0, 1) := by decide +kernel
theorem d_Tx_numbersBehind_51 : decode prog_5_method_6_code 51 = .ok (.ireturn, 1) := by decide +kernel
theorem d_Tx_takeNumber_0 : decode prog_5_method_7_code 0 = .ok (.aload_n 0, 1) := by decide +kernel
theorem d_Tx_takeNumber_1 : decode prog_5_method_7_code 1 = .ok (.aload_n 0, 1) := by decide +kernel
theorem d_Tx_takeNumber_2 : decode prog_5_method_7_code 2 = .ok (.getfield 22, 3) := by decide +kernel
theorem d_Tx_takeNumber_5 : decode prog_5_method_7_code 5 = .ok (.invokevirtual 25, 3) := by decide +kernel
theorem d_Tx_takeNumber_8 : decode prog_5_method_7_code 8 = .ok (.bipush 32, 2) := by decide +kernel
theorem d_Tx_takeNumber_10 : decode prog_5_method_7_code 10 = .ok (.if_icmp .eq 5, 3) := by decide +kernel
theorem d_Tx_takeNumber_13 : decode prog_5_method_7_code 13 = .ok (.iconst (-1), 1) := by decide +kernel
theorem d_Tx_takeNumber_14 : decode prog_5_method_7_code 14 = .ok (.ireturn, 1) := by decide +kernel
theorem d_Tx_takeNumber_15 : decode prog_5_method_7_code 15 = .ok (.aload_n 0, 1) := by decide +kernel
theorem d_Tx_takeNumber_16 : decode prog_5_method_7_code 16 = .ok (.getfield 22, 3) := by decide +kernel
theorem d_Tx_takeNumber_19 : decode prog_5_method_7_code 19 = .ok (.iconst 1, 1) := by decide +kernel
theorem d_Tx_takeNumber_20 : decode prog_5_method_7_code 20 = .ok (.iadd, 1) := by decide +kernel
theorem d_Tx_takeNumber_21 : decode prog_5_method_7_code 21 = .ok (.istore_n 1, 1) := by decide +kernel
theorem d_Tx_takeNumber_22 : decode prog_5_method_7_code 22 = .ok (.iconst 0, 1) := by decide +kernel
theorem d_Tx_takeNumber_23 : decode prog_5_method_7_code 23 = .ok (.istore_n 2, 1) := by decide +kernel
theorem d_Tx_takeNumber_24 : decode prog_5_method_7_code 24 = .ok (.iconst 0, 1) := by decide +kernel
theorem d_Tx_takeNumber_25 : decode prog_5_method_7_code 25 = .ok (.istore_n 3, 1) := by decide +kernel
theorem d_Tx_takeNumber_26 : decode prog_5_method_7_code 26 = .ok (.iload_n 3, 1) := by decide +kernel
theorem d_Tx_takeNumber_27 : decode prog_5_method_7_code 27 = .ok (.bipush 9, 2) := by decide +kernel
theorem d_Tx_takeNumber_29 : decode prog_5_method_7_code 29 = .ok (.if_icmp .ge 38, 3) := by decide +kernel
theorem d_Tx_takeNumber_32 : decode prog_5_method_7_code 32 = .ok (.aload_n 0, 1) := by decide +kernel
theorem d_Tx_takeNumber_33 : decode prog_5_method_7_code 33 = .ok (.iload_n 1, 1) := by decide +kernel
theorem d_Tx_takeNumber_34 : decode prog_5_method_7_code 34 = .ok (.iload_n 3, 1) := by decide +kernel
theorem d_Tx_takeNumber_35 : decode prog_5_method_7_code 35 = .ok (.iadd, 1) := by decide +kernel
theorem d_Tx_takeNumber_36 : decode prog_5_method_7_code 36 = .ok (.invokevirtual 25, 3) := by decide +kernel
theorem d_Tx_takeNumber_39 : decode prog_5_method_7_code 39 = .ok (.invokestatic 36, 3) := by decide +kernel
theorem d_Tx_takeNumber_42 : decode prog_5_method_7_code 42 = .ok (.ifCond .eq 25, 3) := by decide +kernel
theorem d_Tx_takeNumber_45 : decode prog_5_method_7_code 45 = .ok (.iload_n 2, 1) := by decide +kernel
theorem d_Tx_takeNumber_46 : decode prog_5_method_7_code 46 = .ok (.bipush 10, 2) := by decide +kernel
theorem d_Tx_takeNumber_48 : decode prog_5_method_7_code 48 = .ok (.imul, 1) := by decide +kernel
theorem d_Tx_takeNumber_49 : decode prog_5_method_7_code 49 = .ok (.aload_n 0, 1) := by decide +kernel
theorem d_Tx_takeNumber_50 : decode prog_5_method_7_code 50 = .ok (.iload_n 1, 1) := by decide +kernel
theorem d_Tx_takeNumber_51 : decode prog_5_method_7_code 51 = .ok (.iload_n 3, 1) := by decide +kernel
theorem d_Tx_takeNumber_52 : decode prog_5_method_7_code 52 = .ok (.iadd, 1) := by decide +kernel
theorem d_Tx_takeNumber_53 : decode prog_5_method_7_code 53 = .ok (.invokevirtual 25, 3) := by decide +kernel
theorem d_Tx_takeNumber_56 : decode prog_5_method_7_code 56 = .ok (.bipush 48, 2) := by decide +kernel
theorem d_Tx_takeNumber_58 : decode prog_5_method_7_code 58 = .ok (.isub, 1) := by decide +kernel
theorem d_Tx_takeNumber_59 : decode prog_5_method_7_code 59 = .ok (.iadd, 1) := by decide +kernel
theorem d_Tx_takeNumber_60 : decode prog_5_method_7_code 60 = .ok (.istore_n 2, 1) := by decide +kernel
theorem d_Tx_takeNumber_61 : decode prog_5_method_7_code 61 = .ok (.iinc 3 1, 3) := by decide +kernel
theorem d_Tx_takeNumber_64 : decode prog_5_method_7_code 64 = .ok (.goto (-38), 3) := by decide +kernel
theorem d_Tx_takeNumber_67 : decode prog_5_method_7_code 67 = .ok (.aload_n 0, 1) := by decide +kernel
theorem d_Tx_takeNumber_68 : decode prog_5_method_7_code 68 = .ok (.iload_n 1, 1) := by decide +kernel
theorem d_Tx_takeNumber_69 : decode prog_5_method_7_code 69 = .ok (.iload_n 3, 1) := by decide +kernel
theorem d_Tx_takeNumber_70 : decode prog_5_method_7_code 70 = .ok (.iadd, 1) := by decide +kernel
theorem d_Tx_takeNumber_71 : decode prog_5_method_7_code 71 = .ok (.putfield 22, 3) := by decide +kernel
theorem d_Tx_takeNumber_74 : decode prog_5_method_7_code 74 = .ok (.iload_n 3, 1) := by decide +kernel
theorem d_Tx_takeNumber_75 : decode prog_5_method_7_code 75 = .ok (.iconst 1, 1) := by decide +kernel
theorem d_Tx_takeNumber_76 : decode prog_5_method_7_code 76 = .ok (.if_icmp .le 17, 3) := by decide +kernel
theorem d_Tx_takeNumber_79 : decode prog_5_method_7_code 79 = .ok (.aload_n 0, 1) := by decide +kernel
theorem d_Tx_takeNumber_80 : decode prog_5_method_7_code 80 = .ok (.iload_n 1, 1) := by decide +kernel
theorem d_Tx_takeNumber_81 : decode prog_5_method_7_code 81 = .ok (.invokevirtual 25, 3) := by decide +kernel
theorem d_Tx_takeNumber_84 : decode prog_5_method_7_code 84 = .ok (.bipush 48, 2) := by decide +kernel
theorem d_Tx_takeNumber_86 : decode prog_5_method_7_code 86 = .ok (.if_icmp .ne 7, 3) := by decide +kernel
theorem d_Tx_takeNumber_89 : decode prog_5_method_7_code 89 = .ok (.iconst 1, 1) := by decide +kernel
theorem d_Tx_takeNumber_90 : decode prog_5_method_7_code 90 = .ok (.goto 4, 3) := by decide +kernel
theorem d_Tx_takeNumber_93 : decode prog_5_method_7_code 93 = .ok (.iconst 0, 1) := by decide +kernel
theorem d_Tx_takeNumber_94 : decode prog_5_method_7_code 94 = .ok (.istore 4, 2) := by decide +kernel
theorem d_Tx_takeNumber_96 : decode prog_5_method_7_code 96 = .ok (.iload_n 3, 1) := by decide +kernel
theorem d_Tx_takeNumber_97 : decode prog_5_method_7_code 97 = .ok (.ifCond .eq 8, 3) := by decide +kernel
theorem d_Tx_takeNumber_100 : decode prog_5_method_7_code 100 = .ok (.iload 4, 2) := by decide +kernel
theorem d_Tx_takeNumber_102 : decode prog_5_method_7_code 102 = .ok (.ifCond .eq 7, 3) := by decide +kernel
theorem d_Tx_takeNumber_105 : decode prog_5_method_7_code 105 = .ok (.iconst (-1), 1) := by decide +kernel
theorem d_Tx_takeNumber_106 : decode prog_5_method_7_code 106 = .ok (.goto 4, 3) := by decide +kernel
theorem d_Tx_takeNumber_109 : decode prog_5_method_7_code 109 = .ok (.iload_n 2, 1) := by decide +kernel
theorem d_Tx_takeNumber_110 : decode prog_5_method_7_code 110 = .ok (.ireturn, 1) := by decide +kernel
theorem d_Tx_isDigit_0 : decode prog_5_method_8_code 0 = .ok (.iload_n 0, 1) := by decide +kernel
theorem d_Tx_isDigit_1 : decode prog_5_method_8_code 1 = .ok (.bipush 48, 2) := by decide +kernel
theorem d_Tx_isDigit_3 : decode prog_5_method_8_code 3 = .ok (.if_icmp .lt 13, 3) := by decide +kernel
theorem d_Tx_isDigit_6 : decode prog_5_method_8_code 6 = .ok (.iload_n 0, 1) := by decide +kernel
theorem d_Tx_isDigit_7 : decode prog_5_method_8_code 7 = .ok (.bipush 57, 2) := by decide +kernel
theorem d_Tx_isDigit_9 : decode prog_5_method_8_code 9 = .ok (.if_icmp .gt 7, 3) := by decide +kernel
theorem d_Tx_isDigit_12 : decode prog_5_method_8_code 12 = .ok (.iconst 1, 1) := by decide +kernel
theorem d_Tx_isDigit_13 : decode prog_5_method_8_code 13 = .ok (.goto 4, 3) := by decide +kernel
theorem d_Tx_isDigit_16 : decode prog_5_method_8_code 16 = .ok (.iconst 0, 1) := by decide +kernel
theorem d_Tx_isDigit_17 : decode prog_5_method_8_code 17 = .ok (.ireturn, 1) := by decide +kernel
theorem d_Tx_clear_0 : decode prog_5_method_2_code 0 = .ok (.aload_n 0, 1) := by decide +kernel
theorem d_Tx_clear_1 : decode prog_5_method_2_code 1 = .ok (.iconst 0, 1) := by decide +kernel
theorem d_Tx_clear_2 : decode prog_5_method_2_code 2 = .ok (.putfield 18, 3) := by decide +kernel
theorem d_Tx_clear_5 : decode prog_5_method_2_code 5 = .ok (.return_, 1) := by decide +kernel
theorem d_Tx_append_0 : decode prog_5_method_3_code 0 = .ok (.aload_n 0, 1) := by decide +kernel
theorem d_Tx_append_1 : decode prog_5_method_3_code 1 = .ok (.getfield 18, 3) := by decide +kernel
theorem d_Tx_append_4 : decode prog_5_method_3_code 4 = .ok (.sipush 600, 3) := by decide +kernel
theorem d_Tx_append_7 : decode prog_5_method_3_code 7 = .ok (.if_icmp .ge 23, 3) := by decide +kernel
theorem d_Tx_append_10 : decode prog_5_method_3_code 10 = .ok (.aload_n 0, 1) := by decide +kernel
theorem d_Tx_append_11 : decode prog_5_method_3_code 11 = .ok (.getfield 9, 3) := by decide +kernel
theorem d_Tx_append_14 : decode prog_5_method_3_code 14 = .ok (.aload_n 0, 1) := by decide +kernel
theorem d_Tx_append_15 : decode prog_5_method_3_code 15 = .ok (.getfield 18, 3) := by decide +kernel
theorem d_Tx_append_18 : decode prog_5_method_3_code 18 = .ok (.iload_n 1, 1) := by decide +kernel
theorem d_Tx_append_19 : decode prog_5_method_3_code 19 = .ok (.iastore, 1) := by decide +kernel
theorem d_Tx_append_20 : decode prog_5_method_3_code 20 = .ok (.aload_n 0, 1) := by decide +kernel
theorem d_Tx_append_21 : decode prog_5_method_3_code 21 = .ok (.dup, 1) := by decide +kernel
theorem d_Tx_append_22 : decode prog_5_method_3_code 22 = .ok (.getfield 18, 3) := by decide +kernel
theorem d_Tx_append_25 : decode prog_5_method_3_code 25 = .ok (.iconst 1, 1) := by decide +kernel
theorem d_Tx_append_26 : decode prog_5_method_3_code 26 = .ok (.iadd, 1) := by decide +kernel
theorem d_Tx_append_27 : decode prog_5_method_3_code 27 = .ok (.putfield 18, 3) := by decide +kernel
theorem d_Tx_append_30 : decode prog_5_method_3_code 30 = .ok (.return_, 1) := by decide +kernel
end
section
theorem d_Ra_init_0 : decode prog_2_method_1_code 0 = .ok (.aload_n 0, 1) := by decide +kernel
theorem d_Ra_init_1 : decode prog_2_method_1_code 1 = .ok (.invokespecial 3, 3) := by decide +kernel
theorem d_Ra_init_4 : decode prog_2_method_1_code 4 = .ok (.aload_n 0, 1) := by decide +kernel
theorem d_Ra_init_5 : decode prog_2_method_1_code 5 = .ok (.bipush 60, 2) := by decide +kernel
theorem d_Ra_init_7 : decode prog_2_method_1_code 7 = .ok (.newarray .int, 2) := by decide +kernel
theorem d_Ra_init_9 : decode prog_2_method_1_code 9 = .ok (.putfield 9, 3) := by decide +kernel
theorem d_Ra_init_12 : decode prog_2_method_1_code 12 = .ok (.aload_n 0, 1) := by decide +kernel
theorem d_Ra_init_13 : decode prog_2_method_1_code 13 = .ok (.bipush 60, 2) := by decide +kernel
theorem d_Ra_init_15 : decode prog_2_method_1_code 15 = .ok (.newarray .int, 2) := by decide +kernel
theorem d_Ra_init_17 : decode prog_2_method_1_code 17 = .ok (.putfield 15, 3) := by decide +kernel
theorem d_Ra_init_20 : decode prog_2_method_1_code 20 = .ok (.aload_n 0, 1) := by decide +kernel
theorem d_Ra_init_21 : decode prog_2_method_1_code 21 = .ok (.bipush 60, 2) := by decide +kernel
theorem d_Ra_init_23 : decode prog_2_method_1_code 23 = .ok (.newarray .int, 2) := by decide +kernel
theorem d_Ra_init_25 : decode prog_2_method_1_code 25 = .ok (.putfield 18, 3) := by decide +kernel
theorem d_Ra_init_28 : decode prog_2_method_1_code 28 = .ok (.aload_n 0, 1) := by decide +kernel
theorem d_Ra_init_29 : decode prog_2_method_1_code 29 = .ok (.bipush 60, 2) := by decide +kernel
theorem d_Ra_init_31 : decode prog_2_method_1_code 31 = .ok (.newarray .int, 2) := by decide +kernel
theorem d_Ra_init_33 : decode prog_2_method_1_code 33 = .ok (.putfield 21, 3) := by decide +kernel
theorem d_Ra_init_36 : decode prog_2_method_1_code 36 = .ok (.aload_n 0, 1) := by decide +kernel
theorem d_Ra_init_37 : decode prog_2_method_1_code 37 = .ok (.bipush 10, 2) := by decide +kernel
theorem d_Ra_init_39 : decode prog_2_method_1_code 39 = .ok (.newarray .int, 2) := by decide +kernel
theorem d_Ra_init_41 : decode prog_2_method_1_code 41 = .ok (.putfield 24, 3) := by decide +kernel
theorem d_Ra_init_44 : decode prog_2_method_1_code 44 = .ok (.aload_n 0, 1) := by decide +kernel
theorem d_Ra_init_45 : decode prog_2_method_1_code 45 = .ok (.bipush 10, 2) := by decide +kernel
theorem d_Ra_init_47 : decode prog_2_method_1_code 47 = .ok (.newarray .int, 2) := by decide +kernel
theorem d_Ra_init_49 : decode prog_2_method_1_code 49 = .ok (.putfield 27, 3) := by decide +kernel
theorem d_Ra_init_52 : decode prog_2_method_1_code 52 = .ok (.aload_n 0, 1) := by decide +kernel
theorem d_Ra_init_53 : decode prog_2_method_1_code 53 = .ok (.bipush 10, 2) := by decide +kernel
theorem d_Ra_init_55 : decode prog_2_method_1_code 55 = .ok (.newarray .int, 2) := by decide +kernel
theorem d_Ra_init_57 : decode prog_2_method_1_code 57 = .ok (.putfield 30, 3) := by decide +kernel
theorem d_Ra_init_60 : decode prog_2_method_1_code 60 = .ok (.aload_n 0, 1) := by decide +kernel
theorem d_Ra_init_61 : decode prog_2_method_1_code 61 = .ok (.bipush 10, 2) := by decide +kernel
theorem d_Ra_init_63 : decode prog_2_method_1_code 63 = .ok (.newarray .int, 2) := by decide +kernel
theorem d_Ra_init_65 : decode prog_2_method_1_code 65 = .ok (.putfield 33, 3) := by decide +kernel
theorem d_Ra_init_68 : decode prog_2_method_1_code 68 = .ok (.aload_n 0, 1) := by decide +kernel
theorem d_Ra_init_69 : decode prog_2_method_1_code 69 = .ok (.invokevirtual 36, 3) := by decide +kernel
theorem d_Ra_init_72 : decode prog_2_method_1_code 72 = .ok (.return_, 1) := by decide +kernel
theorem d_Ra_clear_0 : decode prog_2_method_2_code 0 = .ok (.aload_n 0, 1) := by decide +kernel
theorem d_Ra_clear_1 : decode prog_2_method_2_code 1 = .ok (.iconst 0, 1) := by decide +kernel
theorem d_Ra_clear_2 : decode prog_2_method_2_code 2 = .ok (.putfield 39, 3) := by decide +kernel
theorem d_Ra_clear_5 : decode prog_2_method_2_code 5 = .ok (.aload_n 0, 1) := by decide +kernel
theorem d_Ra_clear_6 : decode prog_2_method_2_code 6 = .ok (.iconst 0, 1) := by decide +kernel
theorem d_Ra_clear_7 : decode prog_2_method_2_code 7 = .ok (.putfield 43, 3) := by decide +kernel
theorem d_Ra_clear_10 : decode prog_2_method_2_code 10 = .ok (.iconst 0, 1) := by decide +kernel
theorem d_Ra_clear_11 : decode prog_2_method_2_code 11 = .ok (.istore_n 1, 1) := by decide +kernel
theorem d_Ra_clear_12 : decode prog_2_method_2_code 12 = .ok (.iload_n 1, 1) := by decide +kernel
theorem d_Ra_clear_13 : decode prog_2_method_2_code 13 = .ok (.bipush 10, 2) := by decide +kernel
theorem d_Ra_clear_15 : decode prog_2_method_2_code 15 = .ok (.if_icmp .ge 37, 3) := by decide +kernel
theorem d_Ra_clear_18 : decode prog_2_method_2_code 18 = .ok (.aload_n 0, 1) := by decide +kernel
theorem d_Ra_clear_19 : decode prog_2_method_2_code 19 = .ok (.getfield 24, 3) := by decide +kernel
theorem d_Ra_clear_22 : decode prog_2_method_2_code 22 = .ok (.iload_n 1, 1) := by decide +kernel
theorem d_Ra_clear_23 : decode prog_2_method_2_code 23 = .ok (.iconst (-1), 1) := by decide +kernel
theorem d_Ra_clear_24 : decode prog_2_method_2_code 24 = .ok (.iastore, 1) := by decide +kernel
theorem d_Ra_clear_25 : decode prog_2_method_2_code 25 = .ok (.aload_n 0, 1) := by decide +kernel
theorem d_Ra_clear_26 : decode prog_2_method_2_code 26 = .ok (.getfield 27, 3) := by decide +kernel
theorem d_Ra_clear_29 : decode prog_2_method_2_code 29 = .ok (.iload_n 1, 1) := by decide +kernel
theorem d_Ra_clear_30 : decode prog_2_method_2_code 30 = .ok (.iconst (-1), 1) := by decide +kernel
theorem d_Ra_clear_31 : decode prog_2_method_2_code 31 = .ok (.iastore, 1) := by decide +kernel
theorem d_Ra_clear_32 : decode prog_2_method_2_code 32 = .ok (.aload_n 0, 1) := by decide +kernel
theorem d_Ra_clear_33 : decode prog_2_method_2_code 33 = .ok (.getfield 30, 3) := by decide +kernel
theorem d_Ra_clear_36 : decode prog_2_method_2_code 36 = .ok (.iload_n 1, 1) := by decide +kernel
theorem d_Ra_clear_37 : decode prog_2_method_2_code 37 = .ok (.iconst (-1), 1) := by decide +kernel
theorem d_Ra_clear_38 : decode prog_2_method_2_code 38 = .ok (.iastore, 1) := by decide +kernel
theorem d_Ra_clear_39 : decode prog_2_method_2_code 39 = .ok (.aload_n 0, 1) := by decide +kernel
theorem d_Ra_clear_40 : decode prog_2_method_2_code 40 = .ok (.getfield 33, 3) := by decide +kernel
theorem d_Ra_clear_43 : decode prog_2_method_2_code 43 = .ok (.iload_n 1, 1) := by decide +kernel
theorem d_Ra_clear_44 : decode prog_2_method_2_code 44 = .ok (.iconst (-1), 1) := by decide +kernel
theorem d_Ra_clear_45 : decode prog_2_method_2_code 45 = .ok (.iastore, 1) := by decide +kernel
theorem d_Ra_clear_46 : decode prog_2_method_2_code 46 = .ok (.iinc 1 1, 3) := by decide +kernel
theorem d_Ra_clear_49 : decode prog_2_method_2_code 49 = .ok (.goto (-37), 3) := by decide +kernel
theorem d_Ra_clear_52 : decode prog_2_method_2_code 52 = .ok (.return_, 1) := by decide +kernel
theorem d_Ra_take_0 : decode prog_2_method_3_code 0 = .ok (.aload_n 2, 1) := by decide +kernel
theorem d_Ra_take_1 : decode prog_2_method_3_code 1 = .ok (.arraylength, 1) := by decide +kernel
theorem d_Ra_take_2 : decode prog_2_method_3_code 2 = .ok (.iconst 4, 1) := by decide +kernel
theorem d_Ra_take_3 : decode prog_2_method_3_code 3 = .ok (.if_icmp .lt 12, 3) := by decide +kernel
theorem d_Ra_take_6 : decode prog_2_method_3_code 6 = .ok (.aload_n 0, 1) := by decide +kernel
theorem d_Ra_take_7 : decode prog_2_method_3_code 7 = .ok (.iload_n 1, 1) := by decide +kernel
theorem d_Ra_take_8 : decode prog_2_method_3_code 8 = .ok (.aload_n 2, 1) := by decide +kernel
theorem d_Ra_take_9 : decode prog_2_method_3_code 9 = .ok (.invokevirtual 46, 3) := by decide +kernel
theorem d_Ra_take_12 : decode prog_2_method_3_code 12 = .ok (.ifCond .ne 5, 3) := by decide +kernel
theorem d_Ra_take_15 : decode prog_2_method_3_code 15 = .ok (.iconst 0, 1) := by decide +kernel
theorem d_Ra_take_16 : decode prog_2_method_3_code 16 = .ok (.ireturn, 1) := by decide +kernel
theorem d_Ra_take_17 : decode prog_2_method_3_code 17 = .ok (.aload_n 0, 1) := by decide +kernel
theorem d_Ra_take_18 : decode prog_2_method_3_code 18 = .ok (.dup, 1) := by decide +kernel
theorem d_Ra_take_19 : decode prog_2_method_3_code 19 = .ok (.getfield 39, 3) := by decide +kernel
theorem d_Ra_take_22 : decode prog_2_method_3_code 22 = .ok (.iconst 1, 1) := by decide +kernel
theorem d_Ra_take_23 : decode prog_2_method_3_code 23 = .ok (.iadd, 1) := by decide +kernel
theorem d_Ra_take_24 : decode prog_2_method_3_code 24 = .ok (.putfield 39, 3) := by decide +kernel
theorem d_Ra_take_27 : decode prog_2_method_3_code 27 = .ok (.iconst 1, 1) := by decide +kernel
theorem d_Ra_take_28 : decode prog_2_method_3_code 28 = .ok (.ireturn, 1) := by decide +kernel
theorem d_Ra_takeKind_0 : decode prog_2_method_4_code 0 = .ok (.aload_n 2, 1) := by decide +kernel
theorem d_Ra_takeKind_1 : decode prog_2_method_4_code 1 = .ok (.iconst 0, 1) := by decide +kernel
theorem d_Ra_takeKind_2 : decode prog_2_method_4_code 2 = .ok (.iaload, 1) := by decide +kernel
theorem d_Ra_takeKind_3 : decode prog_2_method_4_code 3 = .ok (.istore_n 3, 1) := by decide +kernel
theorem d_Ra_takeKind_4 : decode prog_2_method_4_code 4 = .ok (.iload_n 1, 1) := by decide +kernel
theorem d_Ra_takeKind_5 : decode prog_2_method_4_code 5 = .ok (.lookupswitch 133 #[(68, 58), (70, 86), (77, 72), (82, 43)], 43) := by decide +kernel
theorem d_Ra_takeKind_48 : decode prog_2_method_4_code 48 = .ok (.aload_n 0, 1) := by decide +kernel
theorem d_Ra_takeKind_49 : decode prog_2_method_4_code 49 = .ok (.iload_n 3, 1) := by decide +kernel
theorem d_Ra_takeKind_50 : decode prog_2_method_4_code 50 = .ok (.aload_n 2, 1) := by decide +kernel
theorem d_Ra_takeKind_51 : decode prog_2_method_4_code 51 = .ok (.iconst 1, 1) := by decide +kernel
theorem d_Ra_takeKind_52 : decode prog_2_method_4_code 52 = .ok (.iaload, 1) := by decide +kernel
theorem d_Ra_takeKind_53 : decode prog_2_method_4_code 53 = .ok (.aload_n 2, 1) := by decide +kernel
theorem d_Ra_takeKind_54 : decode prog_2_method_4_code 54 = .ok (.iconst 2, 1) := by decide +kernel
theorem d_Ra_takeKind_55 : decode prog_2_method_4_code 55 = .ok (.iaload, 1) := by decide +kernel
theorem d_Ra_takeKind_56 : decode prog_2_method_4_code 56 = .ok (.aload_n 2, 1) := by decide +kernel
theorem d_Ra_takeKind_57 : decode prog_2_method_4_code 57 = .ok (.iconst 3, 1) := by decide +kernel
theorem d_Ra_takeKind_58 : decode prog_2_method_4_code 58 = .ok (.iaload, 1) := by decide +kernel
theorem d_Ra_takeKind_59 : decode prog_2_method_4_code 59 = .ok (.invokevirtual 50, 3) := by decide +kernel
theorem d_Ra_takeKind_62 : decode prog_2_method_4_code 62 = .ok (.ireturn, 1) := by decide +kernel
theorem d_Ra_takeKind_63 : decode prog_2_method_4_code 63 = .ok (.aload_n 0, 1) := by decide +kernel
theorem d_Ra_takeKind_64 : decode prog_2_method_4_code 64 = .ok (.getfield 24, 3) := by decide +kernel
theorem d_Ra_takeKind_67 : decode prog_2_method_4_code 67 = .ok (.iload_n 3, 1) := by decide +kernel
theorem d_Ra_takeKind_68 : decode prog_2_method_4_code 68 = .ok (.aload_n 2, 1) := by decide +kernel
theorem d_Ra_takeKind_69 : decode prog_2_method_4_code 69 = .ok (.iconst 1, 1) := by decide +kernel
theorem d_Ra_takeKind_70 : decode prog_2_method_4_code 70 = .ok (.iaload, 1) := by decide +kernel
theorem d_Ra_takeKind_71 : decode prog_2_method_4_code 71 = .ok (.ldc 54, 2) := by decide +kernel
theorem d_Ra_takeKind_73 : decode prog_2_method_4_code 73 = .ok (.invokestatic 55, 3) := by decide +kernel
theorem d_Ra_takeKind_76 : decode prog_2_method_4_code 76 = .ok (.ireturn, 1) := by decide +kernel
theorem d_Ra_takeKind_77 : decode prog_2_method_4_code 77 = .ok (.aload_n 0, 1) := by decide +kernel
theorem d_Ra_takeKind_78 : decode prog_2_method_4_code 78 = .ok (.getfield 27, 3) := by decide +kernel
theorem d_Ra_takeKind_81 : decode prog_2_method_4_code 81 = .ok (.iload_n 3, 1) := by decide +kernel
theorem d_Ra_takeKind_82 : decode prog_2_method_4_code 82 = .ok (.aload_n 2, 1) := by decide +kernel
theorem d_Ra_takeKind_83 : decode prog_2_method_4_code 83 = .ok (.iconst 1, 1) := by decide +kernel
theorem d_Ra_takeKind_84 : decode prog_2_method_4_code 84 = .ok (.iaload, 1) := by decide +kernel
theorem d_Ra_takeKind_85 : decode prog_2_method_4_code 85 = .ok (.ldc 59, 2) := by decide +kernel
theorem d_Ra_takeKind_87 : decode prog_2_method_4_code 87 = .ok (.invokestatic 55, 3) := by decide +kernel
theorem d_Ra_takeKind_90 : decode prog_2_method_4_code 90 = .ok (.ireturn, 1) := by decide +kernel
theorem d_Ra_takeKind_91 : decode prog_2_method_4_code 91 = .ok (.aload_n 2, 1) := by decide +kernel
theorem d_Ra_takeKind_92 : decode prog_2_method_4_code 92 = .ok (.iconst 2, 1) := by decide +kernel
theorem d_Ra_takeKind_93 : decode prog_2_method_4_code 93 = .ok (.iaload, 1) := by decide +kernel
theorem d_Ra_takeKind_94 : decode prog_2_method_4_code 94 = .ok (.iconst 1, 1) := by decide +kernel
theorem d_Ra_takeKind_95 : decode prog_2_method_4_code 95 = .ok (.if_icmp .lt 41, 3) := by decide +kernel
theorem d_Ra_takeKind_98 : decode prog_2_method_4_code 98 = .ok (.aload_n 0, 1) := by decide +kernel
theorem d_Ra_takeKind_99 : decode prog_2_method_4_code 99 = .ok (.getfield 33, 3) := by decide +kernel
theorem d_Ra_takeKind_102 : decode prog_2_method_4_code 102 = .ok (.iload_n 3, 1) := by decide +kernel
theorem d_Ra_takeKind_103 : decode prog_2_method_4_code 103 = .ok (.aload_n 2, 1) := by decide +kernel
theorem d_Ra_takeKind_104 : decode prog_2_method_4_code 104 = .ok (.iconst 2, 1) := by decide +kernel
theorem d_Ra_takeKind_105 : decode prog_2_method_4_code 105 = .ok (.iaload, 1) := by decide +kernel
theorem d_Ra_takeKind_106 : decode prog_2_method_4_code 106 = .ok (.sipush 1000, 3) := by decide +kernel
theorem d_Ra_takeKind_109 : decode prog_2_method_4_code 109 = .ok (.invokestatic 55, 3) := by decide +kernel
theorem d_Ra_takeKind_112 : decode prog_2_method_4_code 112 = .ok (.ifCond .eq 24, 3) := by decide +kernel
theorem d_Ra_takeKind_115 : decode prog_2_method_4_code 115 = .ok (.aload_n 0, 1) := by decide +kernel
theorem d_Ra_takeKind_116 : decode prog_2_method_4_code 116 = .ok (.getfield 30, 3) := by decide +kernel
theorem d_Ra_takeKind_119 : decode prog_2_method_4_code 119 = .ok (.iload_n 3, 1) := by decide +kernel
theorem d_Ra_takeKind_120 : decode prog_2_method_4_code 120 = .ok (.aload_n 2, 1) := by decide +kernel
theorem d_Ra_takeKind_121 : decode prog_2_method_4_code 121 = .ok (.iconst 1, 1) := by decide +kernel
theorem d_Ra_takeKind_122 : decode prog_2_method_4_code 122 = .ok (.iaload, 1) := by decide +kernel
theorem d_Ra_takeKind_123 : decode prog_2_method_4_code 123 = .ok (.aload_n 2, 1) := by decide +kernel
theorem d_Ra_takeKind_124 : decode prog_2_method_4_code 124 = .ok (.iconst 2, 1) := by decide +kernel
theorem d_Ra_takeKind_125 : decode prog_2_method_4_code 125 = .ok (.iaload, 1) := by decide +kernel
theorem d_Ra_takeKind_126 : decode prog_2_method_4_code 126 = .ok (.invokestatic 55, 3) := by decide +kernel
theorem d_Ra_takeKind_129 : decode prog_2_method_4_code 129 = .ok (.ifCond .eq 7, 3) := by decide +kernel
theorem d_Ra_takeKind_132 : decode prog_2_method_4_code 132 = .ok (.iconst 1, 1) := by decide +kernel
theorem d_Ra_takeKind_133 : decode prog_2_method_4_code 133 = .ok (.goto 4, 3) := by decide +kernel
theorem d_Ra_takeKind_136 : decode prog_2_method_4_code 136 = .ok (.iconst 0, 1) := by decide +kernel
theorem d_Ra_takeKind_137 : decode prog_2_method_4_code 137 = .ok (.ireturn, 1) := by decide +kernel
theorem d_Ra_takeKind_138 : decode prog_2_method_4_code 138 = .ok (.iconst 0, 1) := by decide +kernel
theorem d_Ra_takeKind_139 : decode prog_2_method_4_code 139 = .ok (.ireturn, 1) := by decide +kernel
theorem d_Ra_takeStep_0 : decode prog_2_method_6_code 0 = .ok (.iload_n 1, 1) := by decide +kernel
theorem d_Ra_takeStep_1 : decode prog_2_method_6_code 1 = .ok (.bipush 10, 2) := by decide +kernel
theorem d_Ra_takeStep_3 : decode prog_2_method_6_code 3 = .ok (.if_icmp .ge 22, 3) := by decide +kernel
theorem d_Ra_takeStep_6 : decode prog_2_method_6_code 6 = .ok (.iload_n 2, 1) := by decide +kernel
theorem d_Ra_takeStep_7 : decode prog_2_method_6_code 7 = .ok (.bipush 10, 2) := by decide +kernel
theorem d_Ra_takeStep_9 : decode prog_2_method_6_code 9 = .ok (.if_icmp .ge 16, 3) := by decide +kernel
theorem d_Ra_takeStep_12 : decode prog_2_method_6_code 12 = .ok (.iload_n 3, 1) := by decide +kernel
theorem d_Ra_takeStep_13 : decode prog_2_method_6_code 13 = .ok (.ldc 54, 2) := by decide +kernel
theorem d_Ra_takeStep_15 : decode prog_2_method_6_code 15 = .ok (.if_icmp .gt 10, 3) := by decide +kernel
theorem d_Ra_takeStep_18 : decode prog_2_method_6_code 18 = .ok (.iload 4, 2) := by decide +kernel
theorem d_Ra_takeStep_20 : decode prog_2_method_6_code 20 = .ok (.ldc 59, 2) := by decide +kernel
theorem d_Ra_takeStep_22 : decode prog_2_method_6_code 22 = .ok (.if_icmp .le 5, 3) := by decide +kernel
theorem d_Ra_takeStep_25 : decode prog_2_method_6_code 25 = .ok (.iconst 0, 1) := by decide +kernel
theorem d_Ra_takeStep_26 : decode prog_2_method_6_code 26 = .ok (.ireturn, 1) := by decide +kernel
theorem d_Ra_takeStep_27 : decode prog_2_method_6_code 27 = .ok (.iload_n 1, 1) := by decide +kernel
theorem d_Ra_takeStep_28 : decode prog_2_method_6_code 28 = .ok (.iload_n 2, 1) := by decide +kernel
theorem d_Ra_takeStep_29 : decode prog_2_method_6_code 29 = .ok (.invokestatic 60, 3) := by decide +kernel
theorem d_Ra_takeStep_32 : decode prog_2_method_6_code 32 = .ok (.istore 5, 2) := by decide +kernel
theorem d_Ra_takeStep_34 : decode prog_2_method_6_code 34 = .ok (.aload_n 0, 1) := by decide +kernel
theorem d_Ra_takeStep_35 : decode prog_2_method_6_code 35 = .ok (.iload 5, 2) := by decide +kernel
theorem d_Ra_takeStep_37 : decode prog_2_method_6_code 37 = .ok (.invokevirtual 64, 3) := by decide +kernel
theorem d_Ra_takeStep_40 : decode prog_2_method_6_code 40 = .ok (.istore 6, 2) := by decide +kernel
theorem d_Ra_takeStep_42 : decode prog_2_method_6_code 42 = .ok (.iload_n 3, 1) := by decide +kernel
theorem d_Ra_takeStep_43 : decode prog_2_method_6_code 43 = .ok (.iload 6, 2) := by decide +kernel
theorem d_Ra_takeStep_45 : decode prog_2_method_6_code 45 = .ok (.if_icmp .le 12, 3) := by decide +kernel
theorem d_Ra_takeStep_48 : decode prog_2_method_6_code 48 = .ok (.aload_n 0, 1) := by decide +kernel
theorem d_Ra_takeStep_49 : decode prog_2_method_6_code 49 = .ok (.getfield 43, 3) := by decide +kernel
theorem d_Ra_takeStep_52 : decode prog_2_method_6_code 52 = .ok (.bipush 60, 2) := by decide +kernel
theorem d_Ra_takeStep_54 : decode prog_2_method_6_code 54 = .ok (.if_icmp .lt 5, 3) := by decide +kernel
theorem d_Ra_takeStep_57 : decode prog_2_method_6_code 57 = .ok (.iconst 0, 1) := by decide +kernel
theorem d_Ra_takeStep_58 : decode prog_2_method_6_code 58 = .ok (.ireturn, 1) := by decide +kernel
theorem d_Ra_takeStep_59 : decode prog_2_method_6_code 59 = .ok (.aload_n 0, 1) := by decide +kernel
theorem d_Ra_takeStep_60 : decode prog_2_method_6_code 60 = .ok (.getfield 9, 3) := by decide +kernel
theorem d_Ra_takeStep_63 : decode prog_2_method_6_code 63 = .ok (.aload_n 0, 1) := by decide +kernel
theorem d_Ra_takeStep_64 : decode prog_2_method_6_code 64 = .ok (.getfield 43, 3) := by decide +kernel
theorem d_Ra_takeStep_67 : decode prog_2_method_6_code 67 = .ok (.iload 5, 2) := by decide +kernel
theorem d_Ra_takeStep_69 : decode prog_2_method_6_code 69 = .ok (.iastore, 1) := by decide +kernel
theorem d_Ra_takeStep_70 : decode prog_2_method_6_code 70 = .ok (.aload_n 0, 1) := by decide +kernel
theorem d_Ra_takeStep_71 : decode prog_2_method_6_code 71 = .ok (.getfield 15, 3) := by decide +kernel
theorem d_Ra_takeStep_74 : decode prog_2_method_6_code 74 = .ok (.aload_n 0, 1) := by decide +kernel
theorem d_Ra_takeStep_75 : decode prog_2_method_6_code 75 = .ok (.getfield 43, 3) := by decide +kernel
theorem d_Ra_takeStep_78 : decode prog_2_method_6_code 78 = .ok (.iload 6, 2) := by decide +kernel
theorem d_Ra_takeStep_80 : decode prog_2_method_6_code 80 = .ok (.iastore, 1) := by decide +kernel
theorem d_Ra_takeStep_81 : decode prog_2_method_6_code 81 = .ok (.aload_n 0, 1) := by decide +kernel
theorem d_Ra_takeStep_82 : decode prog_2_method_6_code 82 = .ok (.getfield 18, 3) := by decide +kernel
theorem d_Ra_takeStep_85 : decode prog_2_method_6_code 85 = .ok (.aload_n 0, 1) := by decide +kernel
theorem d_Ra_takeStep_86 : decode prog_2_method_6_code 86 = .ok (.getfield 43, 3) := by decide +kernel
theorem d_Ra_takeStep_89 : decode prog_2_method_6_code 89 = .ok (.iload_n 3, 1) := by decide +kernel
theorem d_Ra_takeStep_90 : decode prog_2_method_6_code 90 = .ok (.iastore, 1) := by decide +kernel
theorem d_Ra_takeStep_91 : decode prog_2_method_6_code 91 = .ok (.aload_n 0, 1) := by decide +kernel
theorem d_Ra_takeStep_92 : decode prog_2_method_6_code 92 = .ok (.getfield 21, 3) := by decide +kernel
theorem d_Ra_takeStep_95 : decode prog_2_method_6_code 95 = .ok (.aload_n 0, 1) := by decide +kernel
theorem d_Ra_takeStep_96 : decode prog_2_method_6_code 96 = .ok (.getfield 43, 3) := by decide +kernel
theorem d_Ra_takeStep_99 : decode prog_2_method_6_code 99 = .ok (.iload 4, 2) := by decide +kernel
theorem d_Ra_takeStep_101 : decode prog_2_method_6_code 101 = .ok (.iastore, 1) := by decide +kernel
theorem d_Ra_takeStep_102 : decode prog_2_method_6_code 102 = .ok (.aload_n 0, 1) := by decide +kernel
theorem d_Ra_takeStep_103 : decode prog_2_method_6_code 103 = .ok (.dup, 1) := by decide +kernel
theorem d_Ra_takeStep_104 : decode prog_2_method_6_code 104 = .ok (.getfield 43, 3) := by decide +kernel
theorem d_Ra_takeStep_107 : decode prog_2_method_6_code 107 = .ok (.iconst 1, 1) := by decide +kernel
theorem d_Ra_takeStep_108 : decode prog_2_method_6_code 108 = .ok (.iadd, 1) := by decide +kernel
theorem d_Ra_takeStep_109 : decode prog_2_method_6_code 109 = .ok (.putfield 43, 3) := by decide +kernel
theorem d_Ra_takeStep_112 : decode prog_2_method_6_code 112 = .ok (.iconst 1, 1) := by decide +kernel
theorem d_Ra_takeStep_113 : decode prog_2_method_6_code 113 = .ok (.ireturn, 1) := by decide +kernel
theorem d_Ra_heaviest_0 : decode prog_2_method_7_code 0 = .ok (.iconst 0, 1) := by decide +kernel
theorem d_Ra_heaviest_1 : decode prog_2_method_7_code 1 = .ok (.istore_n 2, 1) := by decide +kernel
theorem d_Ra_heaviest_2 : decode prog_2_method_7_code 2 = .ok (.iconst 0, 1) := by decide +kernel
theorem d_Ra_heaviest_3 : decode prog_2_method_7_code 3 = .ok (.istore_n 3, 1) := by decide +kernel
theorem d_Ra_heaviest_4 : decode prog_2_method_7_code 4 = .ok (.iload_n 3, 1) := by decide +kernel
theorem d_Ra_heaviest_5 : decode prog_2_method_7_code 5 = .ok (.aload_n 0, 1) := by decide +kernel
theorem d_Ra_heaviest_6 : decode prog_2_method_7_code 6 = .ok (.getfield 43, 3) := by decide +kernel
theorem d_Ra_heaviest_9 : decode prog_2_method_7_code 9 = .ok (.if_icmp .ge 26, 3) := by decide +kernel
theorem d_Ra_heaviest_12 : decode prog_2_method_7_code 12 = .ok (.aload_n 0, 1) := by decide +kernel
theorem d_Ra_heaviest_13 : decode prog_2_method_7_code 13 = .ok (.getfield 9, 3) := by decide +kernel
theorem d_Ra_heaviest_16 : decode prog_2_method_7_code 16 = .ok (.iload_n 3, 1) := by decide +kernel
theorem d_Ra_heaviest_17 : decode prog_2_method_7_code 17 = .ok (.iaload, 1) := by decide +kernel
theorem d_Ra_heaviest_18 : decode prog_2_method_7_code 18 = .ok (.iload_n 1, 1) := by decide +kernel
theorem d_Ra_heaviest_19 : decode prog_2_method_7_code 19 = .ok (.if_icmp .ne 10, 3) := by decide +kernel
theorem d_Ra_heaviest_22 : decode prog_2_method_7_code 22 = .ok (.aload_n 0, 1) := by decide +kernel
theorem d_Ra_heaviest_23 : decode prog_2_method_7_code 23 = .ok (.getfield 18, 3) := by decide +kernel
theorem d_Ra_heaviest_26 : decode prog_2_method_7_code 26 = .ok (.iload_n 3, 1) := by decide +kernel
theorem d_Ra_heaviest_27 : decode prog_2_method_7_code 27 = .ok (.iaload, 1) := by decide +kernel
theorem d_Ra_heaviest_28 : decode prog_2_method_7_code 28 = .ok (.istore_n 2, 1) := by decide +kernel
theorem d_Ra_heaviest_29 : decode prog_2_method_7_code 29 = .ok (.iinc 3 1, 3) := by decide +kernel
theorem d_Ra_heaviest_32 : decode prog_2_method_7_code 32 = .ok (.goto (-28), 3) := by decide +kernel
theorem d_Ra_heaviest_35 : decode prog_2_method_7_code 35 = .ok (.iload_n 2, 1) := by decide +kernel
theorem d_Ra_heaviest_36 : decode prog_2_method_7_code 36 = .ok (.ireturn, 1) := by decide +kernel
theorem d_Ra_takeOnce_0 : decode prog_2_method_5_code 0 = .ok (.iload_n 1, 1) := by decide +kernel
theorem d_Ra_takeOnce_1 : decode prog_2_method_5_code 1 = .ok (.ifCond .lt 21, 3) := by decide +kernel
theorem d_Ra_takeOnce_4 : decode prog_2_method_5_code 4 = .ok (.iload_n 1, 1) := by decide +kernel
theorem d_Ra_takeOnce_5 : decode prog_2_method_5_code 5 = .ok (.aload_n 0, 1) := by decide +kernel
theorem d_Ra_takeOnce_6 : decode prog_2_method_5_code 6 = .ok (.arraylength, 1) := by decide +kernel
theorem d_Ra_takeOnce_7 : decode prog_2_method_5_code 7 = .ok (.if_icmp .ge 15, 3) := by decide +kernel
theorem d_Ra_takeOnce_10 : decode prog_2_method_5_code 10 = .ok (.aload_n 0, 1) := by decide +kernel
theorem d_Ra_takeOnce_11 : decode prog_2_method_5_code 11 = .ok (.iload_n 1, 1) := by decide +kernel
theorem d_Ra_takeOnce_12 : decode prog_2_method_5_code 12 = .ok (.iaload, 1) := by decide +kernel
theorem d_Ra_takeOnce_13 : decode prog_2_method_5_code 13 = .ok (.iconst (-1), 1) := by decide +kernel
theorem d_Ra_takeOnce_14 : decode prog_2_method_5_code 14 = .ok (.if_icmp .ne 8, 3) := by decide +kernel
theorem d_Ra_takeOnce_17 : decode prog_2_method_5_code 17 = .ok (.iload_n 2, 1) := by decide +kernel
theorem d_Ra_takeOnce_18 : decode prog_2_method_5_code 18 = .ok (.iload_n 3, 1) := by decide +kernel
theorem d_Ra_takeOnce_19 : decode prog_2_method_5_code 19 = .ok (.if_icmp .le 5, 3) := by decide +kernel
theorem d_Ra_takeOnce_22 : decode prog_2_method_5_code 22 = .ok (.iconst 0, 1) := by decide +kernel
theorem d_Ra_takeOnce_23 : decode prog_2_method_5_code 23 = .ok (.ireturn, 1) := by decide +kernel
theorem d_Ra_takeOnce_24 : decode prog_2_method_5_code 24 = .ok (.aload_n 0, 1) := by decide +kernel
theorem d_Ra_takeOnce_25 : decode prog_2_method_5_code 25 = .ok (.iload_n 1, 1) := by decide +kernel
theorem d_Ra_takeOnce_26 : decode prog_2_method_5_code 26 = .ok (.iload_n 2, 1) := by decide +kernel
theorem d_Ra_takeOnce_27 : decode prog_2_method_5_code 27 = .ok (.iastore, 1) := by decide +kernel
theorem d_Ra_takeOnce_28 : decode prog_2_method_5_code 28 = .ok (.iconst 1, 1) := by decide +kernel
theorem d_Ra_takeOnce_29 : decode prog_2_method_5_code 29 = .ok (.ireturn, 1) := by decide +kernel
theorem d_Ra_weightToPay_0 : decode prog_2_method_8_code 0 = .ok (.aload_n 0, 1) := by decide +kernel
theorem d_Ra_weightToPay_1 : decode prog_2_method_8_code 1 = .ok (.getfield 24, 3) := by decide +kernel
theorem d_Ra_weightToPay_4 : decode prog_2_method_8_code 4 = .ok (.iload_n 2, 1) := by decide +kernel
theorem d_Ra_weightToPay_5 : decode prog_2_method_8_code 5 = .ok (.iaload, 1) := by decide +kernel
theorem d_Ra_weightToPay_6 : decode prog_2_method_8_code 6 = .ok (.istore_n 3, 1) := by decide +kernel
theorem d_Ra_weightToPay_7 : decode prog_2_method_8_code 7 = .ok (.iload_n 3, 1) := by decide +kernel
theorem d_Ra_weightToPay_8 : decode prog_2_method_8_code 8 = .ok (.iconst (-1), 1) := by decide +kernel
theorem d_Ra_weightToPay_9 : decode prog_2_method_8_code 9 = .ok (.if_icmp .ne 8, 3) := by decide +kernel
theorem d_Ra_weightToPay_12 : decode prog_2_method_8_code 12 = .ok (.aload_n 1, 1) := by decide +kernel
theorem d_Ra_weightToPay_13 : decode prog_2_method_8_code 13 = .ok (.getfield 68, 3) := by decide +kernel
theorem d_Ra_weightToPay_16 : decode prog_2_method_8_code 16 = .ok (.ireturn, 1) := by decide +kernel
theorem d_Ra_weightToPay_17 : decode prog_2_method_8_code 17 = .ok (.aload_n 1, 1) := by decide +kernel
theorem d_Ra_weightToPay_18 : decode prog_2_method_8_code 18 = .ok (.getfield 73, 3) := by decide +kernel
theorem d_Ra_weightToPay_21 : decode prog_2_method_8_code 21 = .ok (.i2l, 1) := by decide +kernel
theorem d_Ra_weightToPay_22 : decode prog_2_method_8_code 22 = .ok (.iload_n 3, 1) := by decide +kernel
theorem d_Ra_weightToPay_23 : decode prog_2_method_8_code 23 = .ok (.i2l, 1) := by decide +kernel
theorem d_Ra_weightToPay_24 : decode prog_2_method_8_code 24 = .ok (.invokestatic 76, 3) := by decide +kernel
theorem d_Ra_weightToPay_27 : decode prog_2_method_8_code 27 = .ok (.l2i, 1) := by decide +kernel
theorem d_Ra_weightToPay_28 : decode prog_2_method_8_code 28 = .ok (.istore 4, 2) := by decide +kernel
theorem d_Ra_weightToPay_30 : decode prog_2_method_8_code 30 = .ok (.aload_n 1, 1) := by decide +kernel
theorem d_Ra_weightToPay_31 : decode prog_2_method_8_code 31 = .ok (.getfield 68, 3) := by decide +kernel
theorem d_Ra_weightToPay_34 : decode prog_2_method_8_code 34 = .ok (.iload 4, 2) := by decide +kernel
theorem d_Ra_weightToPay_36 : decode prog_2_method_8_code 36 = .ok (.invokestatic 80, 3) := by decide +kernel
theorem d_Ra_weightToPay_39 : decode prog_2_method_8_code 39 = .ok (.ireturn, 1) := by decide +kernel
theorem d_Ra_stepFor_0 : decode prog_2_method_9_code 0 = .ok (.iconst 0, 1) := by decide +kernel
theorem d_Ra_stepFor_1 : decode prog_2_method_9_code 1 = .ok (.istore_n 3, 1) := by decide +kernel
theorem d_Ra_stepFor_2 : decode prog_2_method_9_code 2 = .ok (.iload_n 3, 1) := by decide +kernel
theorem d_Ra_stepFor_3 : decode prog_2_method_9_code 3 = .ok (.aload_n 0, 1) := by decide +kernel
theorem d_Ra_stepFor_4 : decode prog_2_method_9_code 4 = .ok (.getfield 43, 3) := by decide +kernel
theorem d_Ra_stepFor_7 : decode prog_2_method_9_code 7 = .ok (.if_icmp .ge 31, 3) := by decide +kernel
theorem d_Ra_stepFor_10 : decode prog_2_method_9_code 10 = .ok (.aload_n 0, 1) := by decide +kernel
theorem d_Ra_stepFor_11 : decode prog_2_method_9_code 11 = .ok (.getfield 9, 3) := by decide +kernel
theorem d_Ra_stepFor_14 : decode prog_2_method_9_code 14 = .ok (.iload_n 3, 1) := by decide +kernel
theorem d_Ra_stepFor_15 : decode prog_2_method_9_code 15 = .ok (.iaload, 1) := by decide +kernel
theorem d_Ra_stepFor_16 : decode prog_2_method_9_code 16 = .ok (.iload_n 1, 1) := by decide +kernel
theorem d_Ra_stepFor_17 : decode prog_2_method_9_code 17 = .ok (.if_icmp .ne 15, 3) := by decide +kernel
theorem d_Ra_stepFor_20 : decode prog_2_method_9_code 20 = .ok (.aload_n 0, 1) := by decide +kernel
theorem d_Ra_stepFor_21 : decode prog_2_method_9_code 21 = .ok (.getfield 18, 3) := by decide +kernel
theorem d_Ra_stepFor_24 : decode prog_2_method_9_code 24 = .ok (.iload_n 3, 1) := by decide +kernel
theorem d_Ra_stepFor_25 : decode prog_2_method_9_code 25 = .ok (.iaload, 1) := by decide +kernel
theorem d_Ra_stepFor_26 : decode prog_2_method_9_code 26 = .ok (.iload_n 2, 1) := by decide +kernel
theorem d_Ra_stepFor_27 : decode prog_2_method_9_code 27 = .ok (.if_icmp .lt 5, 3) := by decide +kernel
theorem d_Ra_stepFor_30 : decode prog_2_method_9_code 30 = .ok (.iload_n 3, 1) := by decide +kernel
theorem d_Ra_stepFor_31 : decode prog_2_method_9_code 31 = .ok (.ireturn, 1) := by decide +kernel
theorem d_Ra_stepFor_32 : decode prog_2_method_9_code 32 = .ok (.iinc 3 1, 3) := by decide +kernel
theorem d_Ra_stepFor_35 : decode prog_2_method_9_code 35 = .ok (.goto (-33), 3) := by decide +kernel
theorem d_Ra_stepFor_38 : decode prog_2_method_9_code 38 = .ok (.iconst (-1), 1) := by decide +kernel
theorem d_Ra_stepFor_39 : decode prog_2_method_9_code 39 = .ok (.ireturn, 1) := by decide +kernel
theorem d_Ra_charged_0 : decode prog_2_method_10_code 0 = .ok (.aload_n 0, 1) := by decide +kernel
theorem d_Ra_charged_1 : decode prog_2_method_10_code 1 = .ok (.getfield 21, 3) := by decide +kernel
theorem d_Ra_charged_4 : decode prog_2_method_10_code 4 = .ok (.iload_n 1, 1) := by decide +kernel
theorem d_Ra_charged_5 : decode prog_2_method_10_code 5 = .ok (.iaload, 1) := by decide +kernel
theorem d_Ra_charged_6 : decode prog_2_method_10_code 6 = .ok (.i2l, 1) := by decide +kernel
theorem d_Ra_charged_7 : decode prog_2_method_10_code 7 = .ok (.lstore_n 3, 1) := by decide +kernel
theorem d_Ra_charged_8 : decode prog_2_method_10_code 8 = .ok (.aload_n 0, 1) := by decide +kernel
theorem d_Ra_charged_9 : decode prog_2_method_10_code 9 = .ok (.getfield 33, 3) := by decide +kernel
theorem d_Ra_charged_12 : decode prog_2_method_10_code 12 = .ok (.iload_n 2, 1) := by decide +kernel
theorem d_Ra_charged_13 : decode prog_2_method_10_code 13 = .ok (.iaload, 1) := by decide +kernel
theorem d_Ra_charged_14 : decode prog_2_method_10_code 14 = .ok (.iconst (-1), 1) := by decide +kernel
theorem d_Ra_charged_15 : decode prog_2_method_10_code 15 = .ok (.if_icmp .eq 25, 3) := by decide +kernel
theorem d_Ra_charged_18 : decode prog_2_method_10_code 18 = .ok (.lload_n 3, 1) := by decide +kernel
theorem d_Ra_charged_19 : decode prog_2_method_10_code 19 = .ok (.lload_n 3, 1) := by decide +kernel
theorem d_Ra_charged_20 : decode prog_2_method_10_code 20 = .ok (.aload_n 0, 1) := by decide +kernel
theorem d_Ra_charged_21 : decode prog_2_method_10_code 21 = .ok (.getfield 30, 3) := by decide +kernel
theorem d_Ra_charged_24 : decode prog_2_method_10_code 24 = .ok (.iload_n 2, 1) := by decide +kernel
theorem d_Ra_charged_25 : decode prog_2_method_10_code 25 = .ok (.iaload, 1) := by decide +kernel
theorem d_Ra_charged_26 : decode prog_2_method_10_code 26 = .ok (.i2l, 1) := by decide +kernel
theorem d_Ra_charged_27 : decode prog_2_method_10_code 27 = .ok (.lmul, 1) := by decide +kernel
theorem d_Ra_charged_28 : decode prog_2_method_10_code 28 = .ok (.aload_n 0, 1) := by decide +kernel
theorem d_Ra_charged_29 : decode prog_2_method_10_code 29 = .ok (.getfield 33, 3) := by decide +kernel
theorem d_Ra_charged_32 : decode prog_2_method_10_code 32 = .ok (.iload_n 2, 1) := by decide +kernel
theorem d_Ra_charged_33 : decode prog_2_method_10_code 33 = .ok (.iaload, 1) := by decide +kernel
theorem d_Ra_charged_34 : decode prog_2_method_10_code 34 = .ok (.i2l, 1) := by decide +kernel
theorem d_Ra_charged_35 : decode prog_2_method_10_code 35 = .ok (.invokestatic 76, 3) := by decide +kernel
theorem d_Ra_charged_38 : decode prog_2_method_10_code 38 = .ok (.ladd, 1) := by decide +kernel
theorem d_Ra_charged_39 : decode prog_2_method_10_code 39 = .ok (.lstore_n 3, 1) := by decide +kernel
theorem d_Ra_charged_40 : decode prog_2_method_10_code 40 = .ok (.lload_n 3, 1) := by decide +kernel
theorem d_Ra_charged_41 : decode prog_2_method_10_code 41 = .ok (.aload_n 0, 1) := by decide +kernel
theorem d_Ra_charged_42 : decode prog_2_method_10_code 42 = .ok (.getfield 27, 3) := by decide +kernel
theorem d_Ra_charged_45 : decode prog_2_method_10_code 45 = .ok (.iload_n 2, 1) := by decide +kernel
theorem d_Ra_charged_46 : decode prog_2_method_10_code 46 = .ok (.iaload, 1) := by decide +kernel
theorem d_Ra_charged_47 : decode prog_2_method_10_code 47 = .ok (.i2l, 1) := by decide +kernel
theorem d_Ra_charged_48 : decode prog_2_method_10_code 48 = .ok (.invokestatic 85, 3) := by decide +kernel
theorem d_Ra_charged_51 : decode prog_2_method_10_code 51 = .ok (.lreturn, 1) := by decide +kernel
theorem d_Ra_leastCents_0 : decode prog_2_method_11_code 0 = .ok (.iload 4, 2) := by decide +kernel
theorem d_Ra_leastCents_2 : decode prog_2_method_11_code 2 = .ok (.ifCond .gt 10, 3) := by decide +kernel
theorem d_Ra_leastCents_5 : decode prog_2_method_11_code 5 = .ok (.iload 5, 2) := by decide +kernel
theorem d_Ra_leastCents_7 : decode prog_2_method_11_code 7 = .ok (.ifCond .lt 5, 3) := by decide +kernel
theorem d_Ra_leastCents_10 : decode prog_2_method_11_code 10 = .ok (.iconst 0, 1) := by decide +kernel
theorem d_Ra_leastCents_11 : decode prog_2_method_11_code 11 = .ok (.ireturn, 1) := by decide +kernel
theorem d_Ra_leastCents_12 : decode prog_2_method_11_code 12 = .ok (.iload_n 2, 1) := by decide +kernel
theorem d_Ra_leastCents_13 : decode prog_2_method_11_code 13 = .ok (.ifCond .le 8, 3) := by decide +kernel
theorem d_Ra_leastCents_16 : decode prog_2_method_11_code 16 = .ok (.iload 5, 2) := by decide +kernel
theorem d_Ra_leastCents_18 : decode prog_2_method_11_code 18 = .ok (.ifCond .ge 5, 3) := by decide +kernel
theorem d_Ra_leastCents_21 : decode prog_2_method_11_code 21 = .ok (.iconst (-1), 1) := by decide +kernel
theorem d_Ra_leastCents_22 : decode prog_2_method_11_code 22 = .ok (.ireturn, 1) := by decide +kernel
theorem d_Ra_leastCents_23 : decode prog_2_method_11_code 23 = .ok (.iconst (-1), 1) := by decide +kernel
theorem d_Ra_leastCents_24 : decode prog_2_method_11_code 24 = .ok (.istore 6, 2) := by decide +kernel
theorem d_Ra_leastCents_26 : decode prog_2_method_11_code 26 = .ok (.iload_n 3, 1) := by decide +kernel
theorem d_Ra_leastCents_27 : decode prog_2_method_11_code 27 = .ok (.istore 7, 2) := by decide +kernel
theorem d_Ra_leastCents_29 : decode prog_2_method_11_code 29 = .ok (.iload 7, 2) := by decide +kernel
theorem d_Ra_leastCents_31 : decode prog_2_method_11_code 31 = .ok (.aload_n 0, 1) := by decide +kernel
theorem d_Ra_leastCents_32 : decode prog_2_method_11_code 32 = .ok (.getfield 43, 3) := by decide +kernel
theorem d_Ra_leastCents_35 : decode prog_2_method_11_code 35 = .ok (.if_icmp .ge 93, 3) := by decide +kernel
theorem d_Ra_leastCents_38 : decode prog_2_method_11_code 38 = .ok (.aload_n 0, 1) := by decide +kernel
theorem d_Ra_leastCents_39 : decode prog_2_method_11_code 39 = .ok (.getfield 9, 3) := by decide +kernel
theorem d_Ra_leastCents_42 : decode prog_2_method_11_code 42 = .ok (.iload 7, 2) := by decide +kernel
theorem d_Ra_leastCents_44 : decode prog_2_method_11_code 44 = .ok (.iaload, 1) := by decide +kernel
theorem d_Ra_leastCents_45 : decode prog_2_method_11_code 45 = .ok (.iload_n 1, 1) := by decide +kernel
theorem d_Ra_leastCents_46 : decode prog_2_method_11_code 46 = .ok (.if_icmp .ne 76, 3) := by decide +kernel
theorem d_Ra_leastCents_49 : decode prog_2_method_11_code 49 = .ok (.aload_n 0, 1) := by decide +kernel
theorem d_Ra_leastCents_50 : decode prog_2_method_11_code 50 = .ok (.iload_n 1, 1) := by decide +kernel
theorem d_Ra_leastCents_51 : decode prog_2_method_11_code 51 = .ok (.iload_n 2, 1) := by decide +kernel
theorem d_Ra_leastCents_52 : decode prog_2_method_11_code 52 = .ok (.iconst 1, 1) := by decide +kernel
theorem d_Ra_leastCents_53 : decode prog_2_method_11_code 53 = .ok (.isub, 1) := by decide +kernel
theorem d_Ra_leastCents_54 : decode prog_2_method_11_code 54 = .ok (.iload 7, 2) := by decide +kernel
theorem d_Ra_leastCents_56 : decode prog_2_method_11_code 56 = .ok (.iload 4, 2) := by decide +kernel
theorem d_Ra_leastCents_58 : decode prog_2_method_11_code 58 = .ok (.aload_n 0, 1) := by decide +kernel
theorem d_Ra_leastCents_59 : decode prog_2_method_11_code 59 = .ok (.getfield 18, 3) := by decide +kernel
theorem d_Ra_leastCents_62 : decode prog_2_method_11_code 62 = .ok (.iload 7, 2) := by decide +kernel
theorem d_Ra_leastCents_64 : decode prog_2_method_11_code 64 = .ok (.iaload, 1) := by decide +kernel
theorem d_Ra_leastCents_65 : decode prog_2_method_11_code 65 = .ok (.isub, 1) := by decide +kernel
theorem d_Ra_leastCents_66 : decode prog_2_method_11_code 66 = .ok (.iload 5, 2) := by decide +kernel
theorem d_Ra_leastCents_68 : decode prog_2_method_11_code 68 = .ok (.aload_n 0, 1) := by decide +kernel
theorem d_Ra_leastCents_69 : decode prog_2_method_11_code 69 = .ok (.getfield 15, 3) := by decide +kernel
theorem d_Ra_leastCents_72 : decode prog_2_method_11_code 72 = .ok (.iload 7, 2) := by decide +kernel
theorem d_Ra_leastCents_74 : decode prog_2_method_11_code 74 = .ok (.iaload, 1) := by decide +kernel
theorem d_Ra_leastCents_75 : decode prog_2_method_11_code 75 = .ok (.isub, 1) := by decide +kernel
theorem d_Ra_leastCents_76 : decode prog_2_method_11_code 76 = .ok (.iconst 1, 1) := by decide +kernel
theorem d_Ra_leastCents_77 : decode prog_2_method_11_code 77 = .ok (.isub, 1) := by decide +kernel
theorem d_Ra_leastCents_78 : decode prog_2_method_11_code 78 = .ok (.invokevirtual 87, 3) := by decide +kernel
theorem d_Ra_leastCents_81 : decode prog_2_method_11_code 81 = .ok (.istore 8, 2) := by decide +kernel
theorem d_Ra_leastCents_83 : decode prog_2_method_11_code 83 = .ok (.iload 8, 2) := by decide +kernel
theorem d_Ra_leastCents_85 : decode prog_2_method_11_code 85 = .ok (.iconst (-1), 1) := by decide +kernel
theorem d_Ra_leastCents_86 : decode prog_2_method_11_code 86 = .ok (.if_icmp .eq 36, 3) := by decide +kernel
theorem d_Ra_leastCents_89 : decode prog_2_method_11_code 89 = .ok (.iload 6, 2) := by decide +kernel
theorem d_Ra_leastCents_91 : decode prog_2_method_11_code 91 = .ok (.iconst (-1), 1) := by decide +kernel
theorem d_Ra_leastCents_92 : decode prog_2_method_11_code 92 = .ok (.if_icmp .eq 18, 3) := by decide +kernel
theorem d_Ra_leastCents_95 : decode prog_2_method_11_code 95 = .ok (.iload 8, 2) := by decide +kernel
theorem d_Ra_leastCents_97 : decode prog_2_method_11_code 97 = .ok (.aload_n 0, 1) := by decide +kernel
theorem d_Ra_leastCents_98 : decode prog_2_method_11_code 98 = .ok (.getfield 21, 3) := by decide +kernel
theorem d_Ra_leastCents_101 : decode prog_2_method_11_code 101 = .ok (.iload 7, 2) := by decide +kernel
theorem d_Ra_leastCents_103 : decode prog_2_method_11_code 103 = .ok (.iaload, 1) := by decide +kernel
theorem d_Ra_leastCents_104 : decode prog_2_method_11_code 104 = .ok (.iadd, 1) := by decide +kernel
theorem d_Ra_leastCents_105 : decode prog_2_method_11_code 105 = .ok (.iload 6, 2) := by decide +kernel
theorem d_Ra_leastCents_107 : decode prog_2_method_11_code 107 = .ok (.if_icmp .ge 15, 3) := by decide +kernel
theorem d_Ra_leastCents_110 : decode prog_2_method_11_code 110 = .ok (.iload 8, 2) := by decide +kernel
theorem d_Ra_leastCents_112 : decode prog_2_method_11_code 112 = .ok (.aload_n 0, 1) := by decide +kernel
theorem d_Ra_leastCents_113 : decode prog_2_method_11_code 113 = .ok (.getfield 21, 3) := by decide +kernel
theorem d_Ra_leastCents_116 : decode prog_2_method_11_code 116 = .ok (.iload 7, 2) := by decide +kernel
theorem d_Ra_leastCents_118 : decode prog_2_method_11_code 118 = .ok (.iaload, 1) := by decide +kernel
theorem d_Ra_leastCents_119 : decode prog_2_method_11_code 119 = .ok (.iadd, 1) := by decide +kernel
theorem d_Ra_leastCents_120 : decode prog_2_method_11_code 120 = .ok (.istore 6, 2) := by decide +kernel
theorem d_Ra_leastCents_122 : decode prog_2_method_11_code 122 = .ok (.iinc 7 1, 3) := by decide +kernel
theorem d_Ra_leastCents_125 : decode prog_2_method_11_code 125 = .ok (.goto (-96), 3) := by decide +kernel
theorem d_Ra_leastCents_128 : decode prog_2_method_11_code 128 = .ok (.iload 6, 2) := by decide +kernel
theorem d_Ra_leastCents_130 : decode prog_2_method_11_code 130 = .ok (.ireturn, 1) := by decide +kernel
end
section
theorem d_Ro_init_0 : decode prog_3_method_1_code 0 = .ok (.aload_n 0, 1) := by decide +kernel
theorem d_Ro_init_1 : decode prog_3_method_1_code 1 = .ok (.invokespecial 3, 3) := by decide +kernel
theorem d_Ro_init_4 : decode prog_3_method_1_code 4 = .ok (.aload_n 0, 1) := by decide +kernel
theorem d_Ro_init_5 : decode prog_3_method_1_code 5 = .ok (.iconst 0, 1) := by decide +kernel
theorem d_Ro_init_6 : decode prog_3_method_1_code 6 = .ok (.putfield 9, 3) := by decide +kernel
theorem d_Ro_init_9 : decode prog_3_method_1_code 9 = .ok (.iload_n 1, 1) := by decide +kernel
theorem d_Ro_init_10 : decode prog_3_method_1_code 10 = .ok (.iconst 0, 1) := by decide +kernel
theorem d_Ro_init_11 : decode prog_3_method_1_code 11 = .ok (.invokestatic 15, 3) := by decide +kernel
theorem d_Ro_init_14 : decode prog_3_method_1_code 14 = .ok (.istore_n 2, 1) := by decide +kernel
theorem d_Ro_init_15 : decode prog_3_method_1_code 15 = .ok (.aload_n 0, 1) := by decide +kernel
theorem d_Ro_init_16 : decode prog_3_method_1_code 16 = .ok (.iload_n 2, 1) := by decide +kernel
theorem d_Ro_init_17 : decode prog_3_method_1_code 17 = .ok (.newarray .int, 2) := by decide +kernel
theorem d_Ro_init_19 : decode prog_3_method_1_code 19 = .ok (.putfield 21, 3) := by decide +kernel
theorem d_Ro_init_22 : decode prog_3_method_1_code 22 = .ok (.aload_n 0, 1) := by decide +kernel
theorem d_Ro_init_23 : decode prog_3_method_1_code 23 = .ok (.iload_n 2, 1) := by decide +kernel
theorem d_Ro_init_24 : decode prog_3_method_1_code 24 = .ok (.newarray .int, 2) := by decide +kernel
theorem d_Ro_init_26 : decode prog_3_method_1_code 26 = .ok (.putfield 25, 3) := by decide +kernel
theorem d_Ro_init_29 : decode prog_3_method_1_code 29 = .ok (.aload_n 0, 1) := by decide +kernel
theorem d_Ro_init_30 : decode prog_3_method_1_code 30 = .ok (.iload_n 2, 1) := by decide +kernel
theorem d_Ro_init_31 : decode prog_3_method_1_code 31 = .ok (.newarray .int, 2) := by decide +kernel
theorem d_Ro_init_33 : decode prog_3_method_1_code 33 = .ok (.putfield 28, 3) := by decide +kernel
theorem d_Ro_init_36 : decode prog_3_method_1_code 36 = .ok (.return_, 1) := by decide +kernel
theorem d_Ro_latest_0 : decode prog_3_method_5_code 0 = .ok (.iconst (-1), 1) := by decide +kernel
theorem d_Ro_latest_1 : decode prog_3_method_5_code 1 = .ok (.istore_n 2, 1) := by decide +kernel
theorem d_Ro_latest_2 : decode prog_3_method_5_code 2 = .ok (.iconst 0, 1) := by decide +kernel
theorem d_Ro_latest_3 : decode prog_3_method_5_code 3 = .ok (.istore_n 3, 1) := by decide +kernel
theorem d_Ro_latest_4 : decode prog_3_method_5_code 4 = .ok (.iload_n 3, 1) := by decide +kernel
theorem d_Ro_latest_5 : decode prog_3_method_5_code 5 = .ok (.aload_n 0, 1) := by decide +kernel
theorem d_Ro_latest_6 : decode prog_3_method_5_code 6 = .ok (.getfield 9, 3) := by decide +kernel
theorem d_Ro_latest_9 : decode prog_3_method_5_code 9 = .ok (.if_icmp .ge 41, 3) := by decide +kernel
theorem d_Ro_latest_12 : decode prog_3_method_5_code 12 = .ok (.aload_n 0, 1) := by decide +kernel
theorem d_Ro_latest_13 : decode prog_3_method_5_code 13 = .ok (.getfield 21, 3) := by decide +kernel
theorem d_Ro_latest_16 : decode prog_3_method_5_code 16 = .ok (.iload_n 3, 1) := by decide +kernel
theorem d_Ro_latest_17 : decode prog_3_method_5_code 17 = .ok (.iaload, 1) := by decide +kernel
theorem d_Ro_latest_18 : decode prog_3_method_5_code 18 = .ok (.iload_n 1, 1) := by decide +kernel
theorem d_Ro_latest_19 : decode prog_3_method_5_code 19 = .ok (.if_icmp .gt 25, 3) := by decide +kernel
theorem d_Ro_latest_22 : decode prog_3_method_5_code 22 = .ok (.iload_n 2, 1) := by decide +kernel
theorem d_Ro_latest_23 : decode prog_3_method_5_code 23 = .ok (.iconst (-1), 1) := by decide +kernel
theorem d_Ro_latest_24 : decode prog_3_method_5_code 24 = .ok (.if_icmp .eq 18, 3) := by decide +kernel
theorem d_Ro_latest_27 : decode prog_3_method_5_code 27 = .ok (.aload_n 0, 1) := by decide +kernel
theorem d_Ro_latest_28 : decode prog_3_method_5_code 28 = .ok (.getfield 21, 3) := by decide +kernel
theorem d_Ro_latest_31 : decode prog_3_method_5_code 31 = .ok (.iload_n 3, 1) := by decide +kernel
theorem d_Ro_latest_32 : decode prog_3_method_5_code 32 = .ok (.iaload, 1) := by decide +kernel
theorem d_Ro_latest_33 : decode prog_3_method_5_code 33 = .ok (.aload_n 0, 1) := by decide +kernel
theorem d_Ro_latest_34 : decode prog_3_method_5_code 34 = .ok (.getfield 21, 3) := by decide +kernel
theorem d_Ro_latest_37 : decode prog_3_method_5_code 37 = .ok (.iload_n 2, 1) := by decide +kernel
theorem d_Ro_latest_38 : decode prog_3_method_5_code 38 = .ok (.iaload, 1) := by decide +kernel
theorem d_Ro_latest_39 : decode prog_3_method_5_code 39 = .ok (.if_icmp .le 5, 3) := by decide +kernel
theorem d_Ro_latest_42 : decode prog_3_method_5_code 42 = .ok (.iload_n 3, 1) := by decide +kernel
theorem d_Ro_latest_43 : decode prog_3_method_5_code 43 = .ok (.istore_n 2, 1) := by decide +kernel
theorem d_Ro_latest_44 : decode prog_3_method_5_code 44 = .ok (.iinc 3 1, 3) := by decide +kernel
theorem d_Ro_latest_47 : decode prog_3_method_5_code 47 = .ok (.goto (-43), 3) := by decide +kernel
theorem d_Ro_latest_50 : decode prog_3_method_5_code 50 = .ok (.iload_n 2, 1) := by decide +kernel
theorem d_Ro_latest_51 : decode prog_3_method_5_code 51 = .ok (.ireturn, 1) := by decide +kernel
theorem d_Ro_hasRoomFor_0 : decode prog_3_method_2_code 0 = .ok (.aload_n 0, 1) := by decide +kernel
theorem d_Ro_hasRoomFor_1 : decode prog_3_method_2_code 1 = .ok (.iload_n 1, 1) := by decide +kernel
theorem d_Ro_hasRoomFor_2 : decode prog_3_method_2_code 2 = .ok (.invokevirtual 31, 3) := by decide +kernel
theorem d_Ro_hasRoomFor_5 : decode prog_3_method_2_code 5 = .ok (.aload_n 0, 1) := by decide +kernel
theorem d_Ro_hasRoomFor_6 : decode prog_3_method_2_code 6 = .ok (.getfield 21, 3) := by decide +kernel
theorem d_Ro_hasRoomFor_9 : decode prog_3_method_2_code 9 = .ok (.arraylength, 1) := by decide +kernel
theorem d_Ro_hasRoomFor_10 : decode prog_3_method_2_code 10 = .ok (.if_icmp .ge 7, 3) := by decide +kernel
theorem d_Ro_hasRoomFor_13 : decode prog_3_method_2_code 13 = .ok (.iconst 1, 1) := by decide +kernel
theorem d_Ro_hasRoomFor_14 : decode prog_3_method_2_code 14 = .ok (.goto 4, 3) := by decide +kernel
theorem d_Ro_hasRoomFor_17 : decode prog_3_method_2_code 17 = .ok (.iconst 0, 1) := by decide +kernel
theorem d_Ro_hasRoomFor_18 : decode prog_3_method_2_code 18 = .ok (.ireturn, 1) := by decide +kernel
theorem d_Ro_placeFor_0 : decode prog_3_method_4_code 0 = .ok (.iconst 0, 1) := by decide +kernel
theorem d_Ro_placeFor_1 : decode prog_3_method_4_code 1 = .ok (.istore_n 2, 1) := by decide +kernel
theorem d_Ro_placeFor_2 : decode prog_3_method_4_code 2 = .ok (.iload_n 2, 1) := by decide +kernel
theorem d_Ro_placeFor_3 : decode prog_3_method_4_code 3 = .ok (.aload_n 0, 1) := by decide +kernel
theorem d_Ro_placeFor_4 : decode prog_3_method_4_code 4 = .ok (.getfield 9, 3) := by decide +kernel
theorem d_Ro_placeFor_7 : decode prog_3_method_4_code 7 = .ok (.if_icmp .ge 19, 3) := by decide +kernel
theorem d_Ro_placeFor_10 : decode prog_3_method_4_code 10 = .ok (.aload_n 0, 1) := by decide +kernel
theorem d_Ro_placeFor_11 : decode prog_3_method_4_code 11 = .ok (.getfield 21, 3) := by decide +kernel
theorem d_Ro_placeFor_14 : decode prog_3_method_4_code 14 = .ok (.iload_n 2, 1) := by decide +kernel
theorem d_Ro_placeFor_15 : decode prog_3_method_4_code 15 = .ok (.iaload, 1) := by decide +kernel
theorem d_Ro_placeFor_16 : decode prog_3_method_4_code 16 = .ok (.iload_n 1, 1) := by decide +kernel
theorem d_Ro_placeFor_17 : decode prog_3_method_4_code 17 = .ok (.if_icmp .eq 9, 3) := by decide +kernel
theorem d_Ro_placeFor_20 : decode prog_3_method_4_code 20 = .ok (.iinc 2 1, 3) := by decide +kernel
theorem d_Ro_placeFor_23 : decode prog_3_method_4_code 23 = .ok (.goto (-21), 3) := by decide +kernel
theorem d_Ro_placeFor_26 : decode prog_3_method_4_code 26 = .ok (.iload_n 2, 1) := by decide +kernel
theorem d_Ro_placeFor_27 : decode prog_3_method_4_code 27 = .ok (.ireturn, 1) := by decide +kernel
theorem d_Ro_put_0 : decode prog_3_method_3_code 0 = .ok (.aload_n 0, 1) := by decide +kernel
theorem d_Ro_put_1 : decode prog_3_method_3_code 1 = .ok (.iload_n 1, 1) := by decide +kernel
theorem d_Ro_put_2 : decode prog_3_method_3_code 2 = .ok (.invokevirtual 31, 3) := by decide +kernel
theorem d_Ro_put_5 : decode prog_3_method_3_code 5 = .ok (.istore 4, 2) := by decide +kernel
theorem d_Ro_put_7 : decode prog_3_method_3_code 7 = .ok (.iload 4, 2) := by decide +kernel
theorem d_Ro_put_9 : decode prog_3_method_3_code 9 = .ok (.aload_n 0, 1) := by decide +kernel
theorem d_Ro_put_10 : decode prog_3_method_3_code 10 = .ok (.getfield 21, 3) := by decide +kernel
theorem d_Ro_put_13 : decode prog_3_method_3_code 13 = .ok (.arraylength, 1) := by decide +kernel
theorem d_Ro_put_14 : decode prog_3_method_3_code 14 = .ok (.if_icmp .lt 4, 3) := by decide +kernel
theorem d_Ro_put_17 : decode prog_3_method_3_code 17 = .ok (.return_, 1) := by decide +kernel
theorem d_Ro_put_18 : decode prog_3_method_3_code 18 = .ok (.aload_n 0, 1) := by decide +kernel
theorem d_Ro_put_19 : decode prog_3_method_3_code 19 = .ok (.getfield 21, 3) := by decide +kernel
theorem d_Ro_put_22 : decode prog_3_method_3_code 22 = .ok (.iload 4, 2) := by decide +kernel
theorem d_Ro_put_24 : decode prog_3_method_3_code 24 = .ok (.iload_n 1, 1) := by decide +kernel
theorem d_Ro_put_25 : decode prog_3_method_3_code 25 = .ok (.iastore, 1) := by decide +kernel
theorem d_Ro_put_26 : decode prog_3_method_3_code 26 = .ok (.aload_n 0, 1) := by decide +kernel
theorem d_Ro_put_27 : decode prog_3_method_3_code 27 = .ok (.getfield 25, 3) := by decide +kernel
theorem d_Ro_put_30 : decode prog_3_method_3_code 30 = .ok (.iload 4, 2) := by decide +kernel
theorem d_Ro_put_32 : decode prog_3_method_3_code 32 = .ok (.iload_n 2, 1) := by decide +kernel
theorem d_Ro_put_33 : decode prog_3_method_3_code 33 = .ok (.iastore, 1) := by decide +kernel
theorem d_Ro_put_34 : decode prog_3_method_3_code 34 = .ok (.aload_n 0, 1) := by decide +kernel
theorem d_Ro_put_35 : decode prog_3_method_3_code 35 = .ok (.getfield 28, 3) := by decide +kernel
theorem d_Ro_put_38 : decode prog_3_method_3_code 38 = .ok (.iload 4, 2) := by decide +kernel
theorem d_Ro_put_40 : decode prog_3_method_3_code 40 = .ok (.iload_n 3, 1) := by decide +kernel
theorem d_Ro_put_41 : decode prog_3_method_3_code 41 = .ok (.iastore, 1) := by decide +kernel
theorem d_Ro_put_42 : decode prog_3_method_3_code 42 = .ok (.aload_n 0, 1) := by decide +kernel
theorem d_Ro_put_43 : decode prog_3_method_3_code 43 = .ok (.aload_n 0, 1) := by decide +kernel
theorem d_Ro_put_44 : decode prog_3_method_3_code 44 = .ok (.getfield 9, 3) := by decide +kernel
theorem d_Ro_put_47 : decode prog_3_method_3_code 47 = .ok (.iload 4, 2) := by decide +kernel
theorem d_Ro_put_49 : decode prog_3_method_3_code 49 = .ok (.iconst 1, 1) := by decide +kernel
theorem d_Ro_put_50 : decode prog_3_method_3_code 50 = .ok (.iadd, 1) := by decide +kernel
theorem d_Ro_put_51 : decode prog_3_method_3_code 51 = .ok (.invokestatic 15, 3) := by decide +kernel
theorem d_Ro_put_54 : decode prog_3_method_3_code 54 = .ok (.putfield 9, 3) := by decide +kernel
theorem d_Ro_put_57 : decode prog_3_method_3_code 57 = .ok (.return_, 1) := by decide +kernel
end
section
theorem d_Sh_isBooked_0 : decode prog_4_method_2_code 0 = .ok (.aload_n 0, 1) := by decide +kernel
theorem d_Sh_isBooked_1 : decode prog_4_method_2_code 1 = .ok (.getfield 9, 3) := by decide +kernel
theorem d_Sh_isBooked_4 : decode prog_4_method_2_code 4 = .ok (.iconst (-1), 1) := by decide +kernel
theorem d_Sh_isBooked_5 : decode prog_4_method_2_code 5 = .ok (.if_icmp .eq 7, 3) := by decide +kernel
theorem d_Sh_isBooked_8 : decode prog_4_method_2_code 8 = .ok (.iconst 1, 1) := by decide +kernel
theorem d_Sh_isBooked_9 : decode prog_4_method_2_code 9 = .ok (.goto 4, 3) := by decide +kernel
theorem d_Sh_isBooked_12 : decode prog_4_method_2_code 12 = .ok (.iconst 0, 1) := by decide +kernel
theorem d_Sh_isBooked_13 : decode prog_4_method_2_code 13 = .ok (.ireturn, 1) := by decide +kernel
theorem d_Sh_isInvoiced_0 : decode prog_4_method_3_code 0 = .ok (.aload_n 0, 1) := by decide +kernel
theorem d_Sh_isInvoiced_1 : decode prog_4_method_3_code 1 = .ok (.getfield 18, 3) := by decide +kernel
theorem d_Sh_isInvoiced_4 : decode prog_4_method_3_code 4 = .ok (.iconst (-1), 1) := by decide +kernel
theorem d_Sh_isInvoiced_5 : decode prog_4_method_3_code 5 = .ok (.if_icmp .eq 7, 3) := by decide +kernel
theorem d_Sh_isInvoiced_8 : decode prog_4_method_3_code 8 = .ok (.iconst 1, 1) := by decide +kernel
theorem d_Sh_isInvoiced_9 : decode prog_4_method_3_code 9 = .ok (.goto 4, 3) := by decide +kernel
theorem d_Sh_isInvoiced_12 : decode prog_4_method_3_code 12 = .ok (.iconst 0, 1) := by decide +kernel
theorem d_Sh_isInvoiced_13 : decode prog_4_method_3_code 13 = .ok (.ireturn, 1) := by decide +kernel
theorem d_Sh_init_0 : decode prog_4_method_1_code 0 = .ok (.aload_n 0, 1) := by decide +kernel
theorem d_Sh_init_1 : decode prog_4_method_1_code 1 = .ok (.invokespecial 3, 3) := by decide +kernel
theorem d_Sh_init_4 : decode prog_4_method_1_code 4 = .ok (.aload_n 0, 1) := by decide +kernel
theorem d_Sh_init_5 : decode prog_4_method_1_code 5 = .ok (.iconst (-1), 1) := by decide +kernel
theorem d_Sh_init_6 : decode prog_4_method_1_code 6 = .ok (.putfield 9, 3) := by decide +kernel
theorem d_Sh_init_9 : decode prog_4_method_1_code 9 = .ok (.aload_n 0, 1) := by decide +kernel
theorem d_Sh_init_10 : decode prog_4_method_1_code 10 = .ok (.iconst (-1), 1) := by decide +kernel
theorem d_Sh_init_11 : decode prog_4_method_1_code 11 = .ok (.putfield 15, 3) := by decide +kernel
theorem d_Sh_init_14 : decode prog_4_method_1_code 14 = .ok (.aload_n 0, 1) := by decide +kernel
theorem d_Sh_init_15 : decode prog_4_method_1_code 15 = .ok (.iconst (-1), 1) := by decide +kernel
theorem d_Sh_init_16 : decode prog_4_method_1_code 16 = .ok (.putfield 18, 3) := by decide +kernel
theorem d_Sh_init_19 : decode prog_4_method_1_code 19 = .ok (.aload_n 0, 1) := by decide +kernel
theorem d_Sh_init_20 : decode prog_4_method_1_code 20 = .ok (.iload_n 1, 1) := by decide +kernel
theorem d_Sh_init_21 : decode prog_4_method_1_code 21 = .ok (.putfield 21, 3) := by decide +kernel
theorem d_Sh_init_24 : decode prog_4_method_1_code 24 = .ok (.aload_n 0, 1) := by decide +kernel
theorem d_Sh_init_25 : decode prog_4_method_1_code 25 = .ok (.iload_n 2, 1) := by decide +kernel
theorem d_Sh_init_26 : decode prog_4_method_1_code 26 = .ok (.putfield 24, 3) := by decide +kernel
theorem d_Sh_init_29 : decode prog_4_method_1_code 29 = .ok (.aload_n 0, 1) := by decide +kernel
theorem d_Sh_init_30 : decode prog_4_method_1_code 30 = .ok (.iload_n 3, 1) := by decide +kernel
theorem d_Sh_init_31 : decode prog_4_method_1_code 31 = .ok (.putfield 27, 3) := by decide +kernel
theorem d_Sh_init_34 : decode prog_4_method_1_code 34 = .ok (.return_, 1) := by decide +kernel
end
section
theorem d_Mo_init_0 : decode prog_7_method_1_code 0 = .ok (.aload_n 0, 1) := by decide +kernel
theorem d_Mo_init_1 : decode prog_7_method_1_code 1 = .ok (.invokespecial 1, 3) := by decide +kernel
theorem d_Mo_init_4 : decode prog_7_method_1_code 4 = .ok (.aload_n 0, 1) := by decide +kernel
theorem d_Mo_init_5 : decode prog_7_method_1_code 5 = .ok (.iconst 0, 1) := by decide +kernel
theorem d_Mo_init_6 : decode prog_7_method_1_code 6 = .ok (.putfield 7, 3) := by decide +kernel
theorem d_Mo_init_9 : decode prog_7_method_1_code 9 = .ok (.aload_n 0, 1) := by decide +kernel
theorem d_Mo_init_10 : decode prog_7_method_1_code 10 = .ok (.sipush 600, 3) := by decide +kernel
theorem d_Mo_init_13 : decode prog_7_method_1_code 13 = .ok (.newarray .int, 2) := by decide +kernel
theorem d_Mo_init_15 : decode prog_7_method_1_code 15 = .ok (.putfield 13, 3) := by decide +kernel
theorem d_Mo_init_18 : decode prog_7_method_1_code 18 = .ok (.aload_n 0, 1) := by decide +kernel
theorem d_Mo_init_19 : decode prog_7_method_1_code 19 = .ok (.iconst 0, 1) := by decide +kernel
theorem d_Mo_init_20 : decode prog_7_method_1_code 20 = .ok (.putfield 17, 3) := by decide +kernel
theorem d_Mo_init_23 : decode prog_7_method_1_code 23 = .ok (.aload_n 0, 1) := by decide +kernel
theorem d_Mo_init_24 : decode prog_7_method_1_code 24 = .ok (.iconst 0, 1) := by decide +kernel
theorem d_Mo_init_25 : decode prog_7_method_1_code 25 = .ok (.putfield 20, 3) := by decide +kernel
theorem d_Mo_init_28 : decode prog_7_method_1_code 28 = .ok (.aload_n 0, 1) := by decide +kernel
theorem d_Mo_init_29 : decode prog_7_method_1_code 29 = .ok (.sipush 300, 3) := by decide +kernel
theorem d_Mo_init_32 : decode prog_7_method_1_code 32 = .ok (.newarray .int, 2) := by decide +kernel
theorem d_Mo_init_34 : decode prog_7_method_1_code 34 = .ok (.putfield 23, 3) := by decide +kernel
theorem d_Mo_init_37 : decode prog_7_method_1_code 37 = .ok (.aload_n 0, 1) := by decide +kernel
theorem d_Mo_init_38 : decode prog_7_method_1_code 38 = .ok (.iconst 0, 1) := by decide +kernel
theorem d_Mo_init_39 : decode prog_7_method_1_code 39 = .ok (.putfield 26, 3) := by decide +kernel
theorem d_Mo_init_42 : decode prog_7_method_1_code 42 = .ok (.aload_n 0, 1) := by decide +kernel
theorem d_Mo_init_43 : decode prog_7_method_1_code 43 = .ok (.sipush 300, 3) := by decide +kernel
theorem d_Mo_init_46 : decode prog_7_method_1_code 46 = .ok (.newarray .int, 2) := by decide +kernel
theorem d_Mo_init_48 : decode prog_7_method_1_code 48 = .ok (.putfield 29, 3) := by decide +kernel
theorem d_Mo_init_51 : decode prog_7_method_1_code 51 = .ok (.aload_n 0, 1) := by decide +kernel
theorem d_Mo_init_52 : decode prog_7_method_1_code 52 = .ok (.iconst 0, 1) := by decide +kernel
theorem d_Mo_init_53 : decode prog_7_method_1_code 53 = .ok (.putfield 32, 3) := by decide +kernel
theorem d_Mo_init_56 : decode prog_7_method_1_code 56 = .ok (.aload_n 0, 1) := by decide +kernel
theorem d_Mo_init_57 : decode prog_7_method_1_code 57 = .ok (.iconst 0, 1) := by decide +kernel
theorem d_Mo_init_58 : decode prog_7_method_1_code 58 = .ok (.putfield 35, 3) := by decide +kernel
theorem d_Mo_init_61 : decode prog_7_method_1_code 61 = .ok (.aload_n 0, 1) := by decide +kernel
theorem d_Mo_init_62 : decode prog_7_method_1_code 62 = .ok (.bipush 20, 2) := by decide +kernel
theorem d_Mo_init_64 : decode prog_7_method_1_code 64 = .ok (.newarray .boolean, 2) := by decide +kernel
theorem d_Mo_init_66 : decode prog_7_method_1_code 66 = .ok (.putfield 38, 3) := by decide +kernel
theorem d_Mo_init_69 : decode prog_7_method_1_code 69 = .ok (.aload_n 0, 1) := by decide +kernel
theorem d_Mo_init_70 : decode prog_7_method_1_code 70 = .ok (.bipush 20, 2) := by decide +kernel
theorem d_Mo_init_72 : decode prog_7_method_1_code 72 = .ok (.newarray .int, 2) := by decide +kernel
theorem d_Mo_init_74 : decode prog_7_method_1_code 74 = .ok (.putfield 42, 3) := by decide +kernel
theorem d_Mo_init_77 : decode prog_7_method_1_code 77 = .ok (.aload_n 0, 1) := by decide +kernel
theorem d_Mo_init_78 : decode prog_7_method_1_code 78 = .ok (.bipush 20, 2) := by decide +kernel
theorem d_Mo_init_80 : decode prog_7_method_1_code 80 = .ok (.newarray .int, 2) := by decide +kernel
theorem d_Mo_init_82 : decode prog_7_method_1_code 82 = .ok (.putfield 45, 3) := by decide +kernel
theorem d_Mo_init_85 : decode prog_7_method_1_code 85 = .ok (.aload_n 0, 1) := by decide +kernel
theorem d_Mo_init_86 : decode prog_7_method_1_code 86 = .ok (.bipush 20, 2) := by decide +kernel
theorem d_Mo_init_88 : decode prog_7_method_1_code 88 = .ok (.newarray .int, 2) := by decide +kernel
theorem d_Mo_init_90 : decode prog_7_method_1_code 90 = .ok (.putfield 48, 3) := by decide +kernel
theorem d_Mo_init_93 : decode prog_7_method_1_code 93 = .ok (.aload_n 0, 1) := by decide +kernel
theorem d_Mo_init_94 : decode prog_7_method_1_code 94 = .ok (.bipush 20, 2) := by decide +kernel
theorem d_Mo_init_96 : decode prog_7_method_1_code 96 = .ok (.newarray .int, 2) := by decide +kernel
theorem d_Mo_init_98 : decode prog_7_method_1_code 98 = .ok (.putfield 51, 3) := by decide +kernel
theorem d_Mo_init_101 : decode prog_7_method_1_code 101 = .ok (.aload_n 0, 1) := by decide +kernel
theorem d_Mo_init_102 : decode prog_7_method_1_code 102 = .ok (.bipush 20, 2) := by decide +kernel
theorem d_Mo_init_104 : decode prog_7_method_1_code 104 = .ok (.newarray .int, 2) := by decide +kernel
theorem d_Mo_init_106 : decode prog_7_method_1_code 106 = .ok (.putfield 54, 3) := by decide +kernel
theorem d_Mo_init_109 : decode prog_7_method_1_code 109 = .ok (.aload_n 0, 1) := by decide +kernel
theorem d_Mo_init_110 : decode prog_7_method_1_code 110 = .ok (.bipush 20, 2) := by decide +kernel
theorem d_Mo_init_112 : decode prog_7_method_1_code 112 = .ok (.newarray .int, 2) := by decide +kernel
theorem d_Mo_init_114 : decode prog_7_method_1_code 114 = .ok (.putfield 57, 3) := by decide +kernel
theorem d_Mo_init_117 : decode prog_7_method_1_code 117 = .ok (.aload_n 0, 1) := by decide +kernel
theorem d_Mo_init_118 : decode prog_7_method_1_code 118 = .ok (.bipush 10, 2) := by decide +kernel
theorem d_Mo_init_120 : decode prog_7_method_1_code 120 = .ok (.newarray .int, 2) := by decide +kernel
theorem d_Mo_init_122 : decode prog_7_method_1_code 122 = .ok (.putfield 60, 3) := by decide +kernel
theorem d_Mo_init_125 : decode prog_7_method_1_code 125 = .ok (.aload_n 0, 1) := by decide +kernel
theorem d_Mo_init_126 : decode prog_7_method_1_code 126 = .ok (.bipush 40, 2) := by decide +kernel
theorem d_Mo_init_128 : decode prog_7_method_1_code 128 = .ok (.newarray .int, 2) := by decide +kernel
theorem d_Mo_init_130 : decode prog_7_method_1_code 130 = .ok (.putfield 63, 3) := by decide +kernel
theorem d_Mo_init_133 : decode prog_7_method_1_code 133 = .ok (.aload_n 0, 1) := by decide +kernel
theorem d_Mo_init_134 : decode prog_7_method_1_code 134 = .ok (.bipush 40, 2) := by decide +kernel
theorem d_Mo_init_136 : decode prog_7_method_1_code 136 = .ok (.newarray .int, 2) := by decide +kernel
theorem d_Mo_init_138 : decode prog_7_method_1_code 138 = .ok (.putfield 66, 3) := by decide +kernel
theorem d_Mo_init_141 : decode prog_7_method_1_code 141 = .ok (.aload_n 0, 1) := by decide +kernel
theorem d_Mo_init_142 : decode prog_7_method_1_code 142 = .ok (.bipush 40, 2) := by decide +kernel
theorem d_Mo_init_144 : decode prog_7_method_1_code 144 = .ok (.newarray .int, 2) := by decide +kernel
theorem d_Mo_init_146 : decode prog_7_method_1_code 146 = .ok (.putfield 69, 3) := by decide +kernel
theorem d_Mo_init_149 : decode prog_7_method_1_code 149 = .ok (.aload_n 0, 1) := by decide +kernel
theorem d_Mo_init_150 : decode prog_7_method_1_code 150 = .ok (.iconst 0, 1) := by decide +kernel
theorem d_Mo_init_151 : decode prog_7_method_1_code 151 = .ok (.putfield 72, 3) := by decide +kernel
theorem d_Mo_init_154 : decode prog_7_method_1_code 154 = .ok (.aload_n 0, 1) := by decide +kernel
theorem d_Mo_init_155 : decode prog_7_method_1_code 155 = .ok (.bipush 8, 2) := by decide +kernel
theorem d_Mo_init_157 : decode prog_7_method_1_code 157 = .ok (.newarray .int, 2) := by decide +kernel
theorem d_Mo_init_159 : decode prog_7_method_1_code 159 = .ok (.putfield 75, 3) := by decide +kernel
theorem d_Mo_init_162 : decode prog_7_method_1_code 162 = .ok (.aload_n 0, 1) := by decide +kernel
theorem d_Mo_init_163 : decode prog_7_method_1_code 163 = .ok (.bipush 8, 2) := by decide +kernel
theorem d_Mo_init_165 : decode prog_7_method_1_code 165 = .ok (.newarray .int, 2) := by decide +kernel
theorem d_Mo_init_167 : decode prog_7_method_1_code 167 = .ok (.putfield 78, 3) := by decide +kernel
theorem d_Mo_init_170 : decode prog_7_method_1_code 170 = .ok (.aload_n 0, 1) := by decide +kernel
theorem d_Mo_init_171 : decode prog_7_method_1_code 171 = .ok (.bipush 8, 2) := by decide +kernel
theorem d_Mo_init_173 : decode prog_7_method_1_code 173 = .ok (.newarray .int, 2) := by decide +kernel
theorem d_Mo_init_175 : decode prog_7_method_1_code 175 = .ok (.putfield 81, 3) := by decide +kernel
theorem d_Mo_init_178 : decode prog_7_method_1_code 178 = .ok (.aload_n 0, 1) := by decide +kernel
theorem d_Mo_init_179 : decode prog_7_method_1_code 179 = .ok (.bipush 61, 2) := by decide +kernel
theorem d_Mo_init_181 : decode prog_7_method_1_code 181 = .ok (.newarray .int, 2) := by decide +kernel
theorem d_Mo_init_183 : decode prog_7_method_1_code 183 = .ok (.putfield 84, 3) := by decide +kernel
theorem d_Mo_init_186 : decode prog_7_method_1_code 186 = .ok (.aload_n 0, 1) := by decide +kernel
theorem d_Mo_init_187 : decode prog_7_method_1_code 187 = .ok (.bipush 61, 2) := by decide +kernel
theorem d_Mo_init_189 : decode prog_7_method_1_code 189 = .ok (.newarray .int, 2) := by decide +kernel
theorem d_Mo_init_191 : decode prog_7_method_1_code 191 = .ok (.putfield 87, 3) := by decide +kernel
theorem d_Mo_init_194 : decode prog_7_method_1_code 194 = .ok (.aload_n 0, 1) := by decide +kernel
theorem d_Mo_init_195 : decode prog_7_method_1_code 195 = .ok (.bipush 61, 2) := by decide +kernel
theorem d_Mo_init_197 : decode prog_7_method_1_code 197 = .ok (.newarray .int, 2) := by decide +kernel
theorem d_Mo_init_199 : decode prog_7_method_1_code 199 = .ok (.putfield 90, 3) := by decide +kernel
theorem d_Mo_init_202 : decode prog_7_method_1_code 202 = .ok (.return_, 1) := by decide +kernel
theorem d_Mo_thrown_0 : decode prog_7_method_13_code 0 = .ok (.aload_n 0, 1) := by decide +kernel
theorem d_Mo_thrown_1 : decode prog_7_method_13_code 1 = .ok (.getfield 7, 3) := by decide +kernel
theorem d_Mo_thrown_4 : decode prog_7_method_13_code 4 = .ok (.ireturn, 1) := by decide +kernel
theorem d_Mo_sign_0 : decode prog_7_method_15_code 0 = .ok (.aload_n 0, 1) := by decide +kernel
theorem d_Mo_sign_1 : decode prog_7_method_15_code 1 = .ok (.iload_n 1, 1) := by decide +kernel
theorem d_Mo_sign_2 : decode prog_7_method_15_code 2 = .ok (.iconst 0, 1) := by decide +kernel
theorem d_Mo_sign_3 : decode prog_7_method_15_code 3 = .ok (.sipush 255, 3) := by decide +kernel
theorem d_Mo_sign_6 : decode prog_7_method_15_code 6 = .ok (.invokestatic 124, 3) := by decide +kernel
theorem d_Mo_sign_9 : decode prog_7_method_15_code 9 = .ok (.ifCond .eq 7, 3) := by decide +kernel
theorem d_Mo_sign_12 : decode prog_7_method_15_code 12 = .ok (.iconst 1, 1) := by decide +kernel
theorem d_Mo_sign_13 : decode prog_7_method_15_code 13 = .ok (.goto 18, 3) := by decide +kernel
theorem d_Mo_sign_16 : decode prog_7_method_15_code 16 = .ok (.aload_n 0, 1) := by decide +kernel
theorem d_Mo_sign_17 : decode prog_7_method_15_code 17 = .ok (.getfield 17, 3) := by decide +kernel
theorem d_Mo_sign_20 : decode prog_7_method_15_code 20 = .ok (.sipush 600, 3) := by decide +kernel
theorem d_Mo_sign_23 : decode prog_7_method_15_code 23 = .ok (.if_icmp .ne 7, 3) := by decide +kernel
theorem d_Mo_sign_26 : decode prog_7_method_15_code 26 = .ok (.iconst 2, 1) := by decide +kernel
theorem d_Mo_sign_27 : decode prog_7_method_15_code 27 = .ok (.goto 4, 3) := by decide +kernel
theorem d_Mo_sign_30 : decode prog_7_method_15_code 30 = .ok (.iconst 0, 1) := by decide +kernel
theorem d_Mo_sign_31 : decode prog_7_method_15_code 31 = .ok (.putfield 7, 3) := by decide +kernel
theorem d_Mo_sign_34 : decode prog_7_method_15_code 34 = .ok (.aload_n 0, 1) := by decide +kernel
theorem d_Mo_sign_35 : decode prog_7_method_15_code 35 = .ok (.getfield 7, 3) := by decide +kernel
theorem d_Mo_sign_38 : decode prog_7_method_15_code 38 = .ok (.ifCond .eq 5, 3) := by decide +kernel
theorem d_Mo_sign_41 : decode prog_7_method_15_code 41 = .ok (.iconst 0, 1) := by decide +kernel
theorem d_Mo_sign_42 : decode prog_7_method_15_code 42 = .ok (.ireturn, 1) := by decide +kernel
theorem d_Mo_sign_43 : decode prog_7_method_15_code 43 = .ok (.aload_n 0, 1) := by decide +kernel
theorem d_Mo_sign_44 : decode prog_7_method_15_code 44 = .ok (.getfield 13, 3) := by decide +kernel
theorem d_Mo_sign_47 : decode prog_7_method_15_code 47 = .ok (.aload_n 0, 1) := by decide +kernel
theorem d_Mo_sign_48 : decode prog_7_method_15_code 48 = .ok (.getfield 17, 3) := by decide +kernel
theorem d_Mo_sign_51 : decode prog_7_method_15_code 51 = .ok (.iload_n 1, 1) := by decide +kernel
theorem d_Mo_sign_52 : decode prog_7_method_15_code 52 = .ok (.iastore, 1) := by decide +kernel
theorem d_Mo_sign_53 : decode prog_7_method_15_code 53 = .ok (.aload_n 0, 1) := by decide +kernel
theorem d_Mo_sign_54 : decode prog_7_method_15_code 54 = .ok (.dup, 1) := by decide +kernel
theorem d_Mo_sign_55 : decode prog_7_method_15_code 55 = .ok (.getfield 17, 3) := by decide +kernel
theorem d_Mo_sign_58 : decode prog_7_method_15_code 58 = .ok (.iconst 1, 1) := by decide +kernel
theorem d_Mo_sign_59 : decode prog_7_method_15_code 59 = .ok (.iadd, 1) := by decide +kernel
theorem d_Mo_sign_60 : decode prog_7_method_15_code 60 = .ok (.putfield 17, 3) := by decide +kernel
theorem d_Mo_sign_63 : decode prog_7_method_15_code 63 = .ok (.aload_n 0, 1) := by decide +kernel
theorem d_Mo_sign_64 : decode prog_7_method_15_code 64 = .ok (.getfield 17, 3) := by decide +kernel
theorem d_Mo_sign_67 : decode prog_7_method_15_code 67 = .ok (.ireturn, 1) := by decide +kernel
theorem d_Mo_not_0 : decode prog_7_method_2_code 0 = .ok (.iload_n 0, 1) := by decide +kernel
theorem d_Mo_not_1 : decode prog_7_method_2_code 1 = .ok (.iload_n 1, 1) := by decide +kernel
theorem d_Mo_not_2 : decode prog_7_method_2_code 2 = .ok (.if_icmp .lt 8, 3) := by decide +kernel
theorem d_Mo_not_5 : decode prog_7_method_2_code 5 = .ok (.iload_n 0, 1) := by decide +kernel
theorem d_Mo_not_6 : decode prog_7_method_2_code 6 = .ok (.iload_n 2, 1) := by decide +kernel
theorem d_Mo_not_7 : decode prog_7_method_2_code 7 = .ok (.if_icmp .le 7, 3) := by decide +kernel
theorem d_Mo_not_10 : decode prog_7_method_2_code 10 = .ok (.iconst 1, 1) := by decide +kernel
theorem d_Mo_not_11 : decode prog_7_method_2_code 11 = .ok (.goto 4, 3) := by decide +kernel
theorem d_Mo_not_14 : decode prog_7_method_2_code 14 = .ok (.iconst 0, 1) := by decide +kernel
theorem d_Mo_not_15 : decode prog_7_method_2_code 15 = .ok (.ireturn, 1) := by decide +kernel
theorem d_Mo_read_0 : decode prog_7_method_16_code 0 = .ok (.aload_n 0, 1) := by decide +kernel
theorem d_Mo_read_1 : decode prog_7_method_16_code 1 = .ok (.iconst 0, 1) := by decide +kernel
theorem d_Mo_read_2 : decode prog_7_method_16_code 2 = .ok (.putfield 7, 3) := by decide +kernel
theorem d_Mo_read_5 : decode prog_7_method_16_code 5 = .ok (.aload_n 0, 1) := by decide +kernel
theorem d_Mo_read_6 : decode prog_7_method_16_code 6 = .ok (.iconst 0, 1) := by decide +kernel
theorem d_Mo_read_7 : decode prog_7_method_16_code 7 = .ok (.putfield 26, 3) := by decide +kernel
theorem d_Mo_read_10 : decode prog_7_method_16_code 10 = .ok (.aload_n 0, 1) := by decide +kernel
theorem d_Mo_read_11 : decode prog_7_method_16_code 11 = .ok (.iconst 0, 1) := by decide +kernel
theorem d_Mo_read_12 : decode prog_7_method_16_code 12 = .ok (.putfield 32, 3) := by decide +kernel
theorem d_Mo_read_15 : decode prog_7_method_16_code 15 = .ok (.iconst 0, 1) := by decide +kernel
theorem d_Mo_read_16 : decode prog_7_method_16_code 16 = .ok (.istore_n 1, 1) := by decide +kernel
theorem d_Mo_read_17 : decode prog_7_method_16_code 17 = .ok (.iconst 1, 1) := by decide +kernel
theorem d_Mo_read_18 : decode prog_7_method_16_code 18 = .ok (.istore_n 2, 1) := by decide +kernel
theorem d_Mo_read_19 : decode prog_7_method_16_code 19 = .ok (.aload_n 0, 1) := by decide +kernel
theorem d_Mo_read_20 : decode prog_7_method_16_code 20 = .ok (.getfield 32, 3) := by decide +kernel
theorem d_Mo_read_23 : decode prog_7_method_16_code 23 = .ok (.aload_n 0, 1) := by decide +kernel
theorem d_Mo_read_24 : decode prog_7_method_16_code 24 = .ok (.getfield 17, 3) := by decide +kernel
theorem d_Mo_read_27 : decode prog_7_method_16_code 27 = .ok (.if_icmp .ge 20, 3) := by decide +kernel
theorem d_Mo_read_30 : decode prog_7_method_16_code 30 = .ok (.iload_n 2, 1) := by decide +kernel
theorem d_Mo_read_31 : decode prog_7_method_16_code 31 = .ok (.ifCond .eq 16, 3) := by decide +kernel
theorem d_Mo_read_34 : decode prog_7_method_16_code 34 = .ok (.aload_n 0, 1) := by decide +kernel
theorem d_Mo_read_35 : decode prog_7_method_16_code 35 = .ok (.getfield 32, 3) := by decide +kernel
theorem d_Mo_read_38 : decode prog_7_method_16_code 38 = .ok (.istore_n 1, 1) := by decide +kernel
theorem d_Mo_read_39 : decode prog_7_method_16_code 39 = .ok (.aload_n 0, 1) := by decide +kernel
theorem d_Mo_read_40 : decode prog_7_method_16_code 40 = .ok (.invokevirtual 128, 3) := by decide +kernel
theorem d_Mo_read_43 : decode prog_7_method_16_code 43 = .ok (.istore_n 2, 1) := by decide +kernel
theorem d_Mo_read_44 : decode prog_7_method_16_code 44 = .ok (.goto (-25), 3) := by decide +kernel
theorem d_Mo_read_47 : decode prog_7_method_16_code 47 = .ok (.aload_n 0, 1) := by decide +kernel
theorem d_Mo_read_48 : decode prog_7_method_16_code 48 = .ok (.iconst 0, 1) := by decide +kernel
theorem d_Mo_read_49 : decode prog_7_method_16_code 49 = .ok (.putfield 17, 3) := by decide +kernel
theorem d_Mo_read_52 : decode prog_7_method_16_code 52 = .ok (.iload_n 2, 1) := by decide +kernel
theorem d_Mo_read_53 : decode prog_7_method_16_code 53 = .ok (.ifCond .ne 7, 3) := by decide +kernel
theorem d_Mo_read_56 : decode prog_7_method_16_code 56 = .ok (.iconst (-1), 1) := by decide +kernel
theorem d_Mo_read_57 : decode prog_7_method_16_code 57 = .ok (.iload_n 1, 1) := by decide +kernel
theorem d_Mo_read_58 : decode prog_7_method_16_code 58 = .ok (.isub, 1) := by decide +kernel
theorem d_Mo_read_59 : decode prog_7_method_16_code 59 = .ok (.ireturn, 1) := by decide +kernel
theorem d_Mo_read_60 : decode prog_7_method_16_code 60 = .ok (.aload_n 0, 1) := by decide +kernel
theorem d_Mo_read_61 : decode prog_7_method_16_code 61 = .ok (.aload_n 0, 1) := by decide +kernel
theorem d_Mo_read_62 : decode prog_7_method_16_code 62 = .ok (.getfield 26, 3) := by decide +kernel
theorem d_Mo_read_65 : decode prog_7_method_16_code 65 = .ok (.putfield 20, 3) := by decide +kernel
theorem d_Mo_read_68 : decode prog_7_method_16_code 68 = .ok (.iconst 0, 1) := by decide +kernel
theorem d_Mo_read_69 : decode prog_7_method_16_code 69 = .ok (.istore_n 3, 1) := by decide +kernel
theorem d_Mo_read_70 : decode prog_7_method_16_code 70 = .ok (.iload_n 3, 1) := by decide +kernel
theorem d_Mo_read_71 : decode prog_7_method_16_code 71 = .ok (.iconst 5, 1) := by decide +kernel
theorem d_Mo_read_72 : decode prog_7_method_16_code 72 = .ok (.aload_n 0, 1) := by decide +kernel
theorem d_Mo_read_73 : decode prog_7_method_16_code 73 = .ok (.getfield 20, 3) := by decide +kernel
theorem d_Mo_read_76 : decode prog_7_method_16_code 76 = .ok (.imul, 1) := by decide +kernel
theorem d_Mo_read_77 : decode prog_7_method_16_code 77 = .ok (.if_icmp .ge 21, 3) := by decide +kernel
theorem d_Mo_read_80 : decode prog_7_method_16_code 80 = .ok (.aload_n 0, 1) := by decide +kernel
theorem d_Mo_read_81 : decode prog_7_method_16_code 81 = .ok (.getfield 23, 3) := by decide +kernel
theorem d_Mo_read_84 : decode prog_7_method_16_code 84 = .ok (.iload_n 3, 1) := by decide +kernel
theorem d_Mo_read_85 : decode prog_7_method_16_code 85 = .ok (.aload_n 0, 1) := by decide +kernel
theorem d_Mo_read_86 : decode prog_7_method_16_code 86 = .ok (.getfield 29, 3) := by decide +kernel
theorem d_Mo_read_89 : decode prog_7_method_16_code 89 = .ok (.iload_n 3, 1) := by decide +kernel
theorem d_Mo_read_90 : decode prog_7_method_16_code 90 = .ok (.iaload, 1) := by decide +kernel
theorem d_Mo_read_91 : decode prog_7_method_16_code 91 = .ok (.iastore, 1) := by decide +kernel
theorem d_Mo_read_92 : decode prog_7_method_16_code 92 = .ok (.iinc 3 1, 3) := by decide +kernel
theorem d_Mo_read_95 : decode prog_7_method_16_code 95 = .ok (.goto (-25), 3) := by decide +kernel
theorem d_Mo_read_98 : decode prog_7_method_16_code 98 = .ok (.aload_n 0, 1) := by decide +kernel
theorem d_Mo_read_99 : decode prog_7_method_16_code 99 = .ok (.getfield 20, 3) := by decide +kernel
theorem d_Mo_read_102 : decode prog_7_method_16_code 102 = .ok (.ireturn, 1) := by decide +kernel
theorem d_Mo_oneLine_0 : decode prog_7_method_7_code 0 = .ok (.aload_n 0, 1) := by decide +kernel
theorem d_Mo_oneLine_1 : decode prog_7_method_7_code 1 = .ok (.getfield 26, 3) := by decide +kernel
theorem d_Mo_oneLine_4 : decode prog_7_method_7_code 4 = .ok (.bipush 60, 2) := by decide +kernel
theorem d_Mo_oneLine_6 : decode prog_7_method_7_code 6 = .ok (.if_icmp .ne 5, 3) := by decide +kernel
theorem d_Mo_oneLine_9 : decode prog_7_method_7_code 9 = .ok (.iconst 0, 1) := by decide +kernel
theorem d_Mo_oneLine_10 : decode prog_7_method_7_code 10 = .ok (.ireturn, 1) := by decide +kernel
theorem d_Mo_oneLine_11 : decode prog_7_method_7_code 11 = .ok (.aload_n 0, 1) := by decide +kernel
theorem d_Mo_oneLine_12 : decode prog_7_method_7_code 12 = .ok (.invokevirtual 93, 3) := by decide +kernel
theorem d_Mo_oneLine_15 : decode prog_7_method_7_code 15 = .ok (.istore_n 1, 1) := by decide +kernel
theorem d_Mo_oneLine_16 : decode prog_7_method_7_code 16 = .ok (.iload_n 1, 1) := by decide +kernel
theorem d_Mo_oneLine_17 : decode prog_7_method_7_code 17 = .ok (.bipush 82, 2) := by decide +kernel
theorem d_Mo_oneLine_19 : decode prog_7_method_7_code 19 = .ok (.if_icmp .ne 7, 3) := by decide +kernel
theorem d_Mo_oneLine_22 : decode prog_7_method_7_code 22 = .ok (.iconst 4, 1) := by decide +kernel
theorem d_Mo_oneLine_23 : decode prog_7_method_7_code 23 = .ok (.goto 30, 3) := by decide +kernel
theorem d_Mo_oneLine_26 : decode prog_7_method_7_code 26 = .ok (.iload_n 1, 1) := by decide +kernel
theorem d_Mo_oneLine_27 : decode prog_7_method_7_code 27 = .ok (.bipush 70, 2) := by decide +kernel
theorem d_Mo_oneLine_29 : decode prog_7_method_7_code 29 = .ok (.if_icmp .ne 7, 3) := by decide +kernel
theorem d_Mo_oneLine_32 : decode prog_7_method_7_code 32 = .ok (.iconst 3, 1) := by decide +kernel
theorem d_Mo_oneLine_33 : decode prog_7_method_7_code 33 = .ok (.goto 20, 3) := by decide +kernel
theorem d_Mo_oneLine_36 : decode prog_7_method_7_code 36 = .ok (.iload_n 1, 1) := by decide +kernel
theorem d_Mo_oneLine_37 : decode prog_7_method_7_code 37 = .ok (.bipush 68, 2) := by decide +kernel
theorem d_Mo_oneLine_39 : decode prog_7_method_7_code 39 = .ok (.if_icmp .eq 9, 3) := by decide +kernel
theorem d_Mo_oneLine_42 : decode prog_7_method_7_code 42 = .ok (.iload_n 1, 1) := by decide +kernel
theorem d_Mo_oneLine_43 : decode prog_7_method_7_code 43 = .ok (.bipush 77, 2) := by decide +kernel
theorem d_Mo_oneLine_45 : decode prog_7_method_7_code 45 = .ok (.if_icmp .ne 7, 3) := by decide +kernel
theorem d_Mo_oneLine_48 : decode prog_7_method_7_code 48 = .ok (.iconst 2, 1) := by decide +kernel
theorem d_Mo_oneLine_49 : decode prog_7_method_7_code 49 = .ok (.goto 4, 3) := by decide +kernel
theorem d_Mo_oneLine_52 : decode prog_7_method_7_code 52 = .ok (.iconst 0, 1) := by decide +kernel
theorem d_Mo_oneLine_53 : decode prog_7_method_7_code 53 = .ok (.istore_n 2, 1) := by decide +kernel
theorem d_Mo_oneLine_54 : decode prog_7_method_7_code 54 = .ok (.iload_n 2, 1) := by decide +kernel
theorem d_Mo_oneLine_55 : decode prog_7_method_7_code 55 = .ok (.ifCond .ne 5, 3) := by decide +kernel
theorem d_Mo_oneLine_58 : decode prog_7_method_7_code 58 = .ok (.iconst 0, 1) := by decide +kernel
theorem d_Mo_oneLine_59 : decode prog_7_method_7_code 59 = .ok (.ireturn, 1) := by decide +kernel
theorem d_Mo_oneLine_60 : decode prog_7_method_7_code 60 = .ok (.aload_n 0, 1) := by decide +kernel
theorem d_Mo_oneLine_61 : decode prog_7_method_7_code 61 = .ok (.dup, 1) := by decide +kernel
theorem d_Mo_oneLine_62 : decode prog_7_method_7_code 62 = .ok (.getfield 32, 3) := by decide +kernel
theorem d_Mo_oneLine_65 : decode prog_7_method_7_code 65 = .ok (.iconst 1, 1) := by decide +kernel
theorem d_Mo_oneLine_66 : decode prog_7_method_7_code 66 = .ok (.iadd, 1) := by decide +kernel
theorem d_Mo_oneLine_67 : decode prog_7_method_7_code 67 = .ok (.putfield 32, 3) := by decide +kernel
theorem d_Mo_oneLine_70 : decode prog_7_method_7_code 70 = .ok (.iconst 5, 1) := by decide +kernel
theorem d_Mo_oneLine_71 : decode prog_7_method_7_code 71 = .ok (.aload_n 0, 1) := by decide +kernel
theorem d_Mo_oneLine_72 : decode prog_7_method_7_code 72 = .ok (.getfield 26, 3) := by decide +kernel
theorem d_Mo_oneLine_75 : decode prog_7_method_7_code 75 = .ok (.imul, 1) := by decide +kernel
theorem d_Mo_oneLine_76 : decode prog_7_method_7_code 76 = .ok (.istore_n 3, 1) := by decide +kernel
theorem d_Mo_oneLine_77 : decode prog_7_method_7_code 77 = .ok (.iconst 1, 1) := by decide +kernel
theorem d_Mo_oneLine_78 : decode prog_7_method_7_code 78 = .ok (.istore 4, 2) := by decide +kernel
theorem d_Mo_oneLine_80 : decode prog_7_method_7_code 80 = .ok (.iload 4, 2) := by decide +kernel
theorem d_Mo_oneLine_82 : decode prog_7_method_7_code 82 = .ok (.iload_n 2, 1) := by decide +kernel
theorem d_Mo_oneLine_83 : decode prog_7_method_7_code 83 = .ok (.if_icmp .gt 33, 3) := by decide +kernel
theorem d_Mo_oneLine_86 : decode prog_7_method_7_code 86 = .ok (.aload_n 0, 1) := by decide +kernel
theorem d_Mo_oneLine_87 : decode prog_7_method_7_code 87 = .ok (.invokevirtual 97, 3) := by decide +kernel
theorem d_Mo_oneLine_90 : decode prog_7_method_7_code 90 = .ok (.istore 5, 2) := by decide +kernel
theorem d_Mo_oneLine_92 : decode prog_7_method_7_code 92 = .ok (.iload 5, 2) := by decide +kernel
theorem d_Mo_oneLine_94 : decode prog_7_method_7_code 94 = .ok (.ifCond .ge 5, 3) := by decide +kernel
theorem d_Mo_oneLine_97 : decode prog_7_method_7_code 97 = .ok (.iconst 0, 1) := by decide +kernel
theorem d_Mo_oneLine_98 : decode prog_7_method_7_code 98 = .ok (.ireturn, 1) := by decide +kernel
theorem d_Mo_oneLine_99 : decode prog_7_method_7_code 99 = .ok (.aload_n 0, 1) := by decide +kernel
theorem d_Mo_oneLine_100 : decode prog_7_method_7_code 100 = .ok (.getfield 29, 3) := by decide +kernel
theorem d_Mo_oneLine_103 : decode prog_7_method_7_code 103 = .ok (.iload_n 3, 1) := by decide +kernel
theorem d_Mo_oneLine_104 : decode prog_7_method_7_code 104 = .ok (.iload 4, 2) := by decide +kernel
theorem d_Mo_oneLine_106 : decode prog_7_method_7_code 106 = .ok (.iadd, 1) := by decide +kernel
theorem d_Mo_oneLine_107 : decode prog_7_method_7_code 107 = .ok (.iload 5, 2) := by decide +kernel
theorem d_Mo_oneLine_109 : decode prog_7_method_7_code 109 = .ok (.iastore, 1) := by decide +kernel
theorem d_Mo_oneLine_110 : decode prog_7_method_7_code 110 = .ok (.iinc 4 1, 3) := by decide +kernel
theorem d_Mo_oneLine_113 : decode prog_7_method_7_code 113 = .ok (.goto (-33), 3) := by decide +kernel
theorem d_Mo_oneLine_116 : decode prog_7_method_7_code 116 = .ok (.aload_n 0, 1) := by decide +kernel
theorem d_Mo_oneLine_117 : decode prog_7_method_7_code 117 = .ok (.invokevirtual 93, 3) := by decide +kernel
theorem d_Mo_oneLine_120 : decode prog_7_method_7_code 120 = .ok (.bipush 10, 2) := by decide +kernel
theorem d_Mo_oneLine_122 : decode prog_7_method_7_code 122 = .ok (.if_icmp .eq 5, 3) := by decide +kernel
theorem d_Mo_oneLine_125 : decode prog_7_method_7_code 125 = .ok (.iconst 0, 1) := by decide +kernel
theorem d_Mo_oneLine_126 : decode prog_7_method_7_code 126 = .ok (.ireturn, 1) := by decide +kernel
theorem d_Mo_oneLine_127 : decode prog_7_method_7_code 127 = .ok (.aload_n 0, 1) := by decide +kernel
theorem d_Mo_oneLine_128 : decode prog_7_method_7_code 128 = .ok (.dup, 1) := by decide +kernel
theorem d_Mo_oneLine_129 : decode prog_7_method_7_code 129 = .ok (.getfield 32, 3) := by decide +kernel
theorem d_Mo_oneLine_132 : decode prog_7_method_7_code 132 = .ok (.iconst 1, 1) := by decide +kernel
theorem d_Mo_oneLine_133 : decode prog_7_method_7_code 133 = .ok (.iadd, 1) := by decide +kernel
theorem d_Mo_oneLine_134 : decode prog_7_method_7_code 134 = .ok (.putfield 32, 3) := by decide +kernel
theorem d_Mo_oneLine_137 : decode prog_7_method_7_code 137 = .ok (.aload_n 0, 1) := by decide +kernel
theorem d_Mo_oneLine_138 : decode prog_7_method_7_code 138 = .ok (.getfield 29, 3) := by decide +kernel
theorem d_Mo_oneLine_141 : decode prog_7_method_7_code 141 = .ok (.iload_n 3, 1) := by decide +kernel
theorem d_Mo_oneLine_142 : decode prog_7_method_7_code 142 = .ok (.iconst 1, 1) := by decide +kernel
theorem d_Mo_oneLine_143 : decode prog_7_method_7_code 143 = .ok (.iadd, 1) := by decide +kernel
theorem d_Mo_oneLine_144 : decode prog_7_method_7_code 144 = .ok (.iaload, 1) := by decide +kernel
theorem d_Mo_oneLine_145 : decode prog_7_method_7_code 145 = .ok (.istore 4, 2) := by decide +kernel
theorem d_Mo_oneLine_147 : decode prog_7_method_7_code 147 = .ok (.aload_n 0, 1) := by decide +kernel
theorem d_Mo_oneLine_148 : decode prog_7_method_7_code 148 = .ok (.getfield 29, 3) := by decide +kernel
theorem d_Mo_oneLine_151 : decode prog_7_method_7_code 151 = .ok (.iload_n 3, 1) := by decide +kernel
theorem d_Mo_oneLine_152 : decode prog_7_method_7_code 152 = .ok (.iconst 2, 1) := by decide +kernel
theorem d_Mo_oneLine_153 : decode prog_7_method_7_code 153 = .ok (.iadd, 1) := by decide +kernel
theorem d_Mo_oneLine_154 : decode prog_7_method_7_code 154 = .ok (.iaload, 1) := by decide +kernel
theorem d_Mo_oneLine_155 : decode prog_7_method_7_code 155 = .ok (.istore 5, 2) := by decide +kernel
theorem d_Mo_oneLine_157 : decode prog_7_method_7_code 157 = .ok (.aload_n 0, 1) := by decide +kernel
theorem d_Mo_oneLine_158 : decode prog_7_method_7_code 158 = .ok (.getfield 29, 3) := by decide +kernel
theorem d_Mo_oneLine_161 : decode prog_7_method_7_code 161 = .ok (.iload_n 3, 1) := by decide +kernel
theorem d_Mo_oneLine_162 : decode prog_7_method_7_code 162 = .ok (.iconst 3, 1) := by decide +kernel
theorem d_Mo_oneLine_163 : decode prog_7_method_7_code 163 = .ok (.iadd, 1) := by decide +kernel
theorem d_Mo_oneLine_164 : decode prog_7_method_7_code 164 = .ok (.iaload, 1) := by decide +kernel
theorem d_Mo_oneLine_165 : decode prog_7_method_7_code 165 = .ok (.istore 6, 2) := by decide +kernel
theorem d_Mo_oneLine_167 : decode prog_7_method_7_code 167 = .ok (.iload 4, 2) := by decide +kernel
theorem d_Mo_oneLine_169 : decode prog_7_method_7_code 169 = .ok (.bipush 9, 2) := by decide +kernel
theorem d_Mo_oneLine_171 : decode prog_7_method_7_code 171 = .ok (.if_icmp .le 5, 3) := by decide +kernel
theorem d_Mo_oneLine_174 : decode prog_7_method_7_code 174 = .ok (.iconst 0, 1) := by decide +kernel
theorem d_Mo_oneLine_175 : decode prog_7_method_7_code 175 = .ok (.ireturn, 1) := by decide +kernel
theorem d_Mo_oneLine_176 : decode prog_7_method_7_code 176 = .ok (.iload_n 1, 1) := by decide +kernel
theorem d_Mo_oneLine_177 : decode prog_7_method_7_code 177 = .ok (.bipush 82, 2) := by decide +kernel
theorem d_Mo_oneLine_179 : decode prog_7_method_7_code 179 = .ok (.if_icmp .ne 51, 3) := by decide +kernel
theorem d_Mo_oneLine_182 : decode prog_7_method_7_code 182 = .ok (.iload 5, 2) := by decide +kernel
theorem d_Mo_oneLine_184 : decode prog_7_method_7_code 184 = .ok (.bipush 9, 2) := by decide +kernel
theorem d_Mo_oneLine_186 : decode prog_7_method_7_code 186 = .ok (.if_icmp .gt 42, 3) := by decide +kernel
theorem d_Mo_oneLine_189 : decode prog_7_method_7_code 189 = .ok (.iload 6, 2) := by decide +kernel
theorem d_Mo_oneLine_191 : decode prog_7_method_7_code 191 = .ok (.iconst 1, 1) := by decide +kernel
theorem d_Mo_oneLine_192 : decode prog_7_method_7_code 192 = .ok (.if_icmp .lt 36, 3) := by decide +kernel
theorem d_Mo_oneLine_195 : decode prog_7_method_7_code 195 = .ok (.iload 6, 2) := by decide +kernel
theorem d_Mo_oneLine_197 : decode prog_7_method_7_code 197 = .ok (.ldc 100, 2) := by decide +kernel
theorem d_Mo_oneLine_199 : decode prog_7_method_7_code 199 = .ok (.if_icmp .gt 29, 3) := by decide +kernel
theorem d_Mo_oneLine_202 : decode prog_7_method_7_code 202 = .ok (.aload_n 0, 1) := by decide +kernel
theorem d_Mo_oneLine_203 : decode prog_7_method_7_code 203 = .ok (.getfield 29, 3) := by decide +kernel
theorem d_Mo_oneLine_206 : decode prog_7_method_7_code 206 = .ok (.iload_n 3, 1) := by decide +kernel
theorem d_Mo_oneLine_207 : decode prog_7_method_7_code 207 = .ok (.iconst 4, 1) := by decide +kernel
theorem d_Mo_oneLine_208 : decode prog_7_method_7_code 208 = .ok (.iadd, 1) := by decide +kernel
theorem d_Mo_oneLine_209 : decode prog_7_method_7_code 209 = .ok (.iaload, 1) := by decide +kernel
theorem d_Mo_oneLine_210 : decode prog_7_method_7_code 210 = .ok (.ldc 101, 2) := by decide +kernel
theorem d_Mo_oneLine_212 : decode prog_7_method_7_code 212 = .ok (.if_icmp .gt 16, 3) := by decide +kernel
theorem d_Mo_oneLine_215 : decode prog_7_method_7_code 215 = .ok (.iload 6, 2) := by decide +kernel
theorem d_Mo_oneLine_217 : decode prog_7_method_7_code 217 = .ok (.aload_n 0, 1) := by decide +kernel
theorem d_Mo_oneLine_218 : decode prog_7_method_7_code 218 = .ok (.iload 4, 2) := by decide +kernel
theorem d_Mo_oneLine_220 : decode prog_7_method_7_code 220 = .ok (.iload 5, 2) := by decide +kernel
theorem d_Mo_oneLine_222 : decode prog_7_method_7_code 222 = .ok (.invokevirtual 102, 3) := by decide +kernel
theorem d_Mo_oneLine_225 : decode prog_7_method_7_code 225 = .ok (.if_icmp .gt 74, 3) := by decide +kernel
theorem d_Mo_oneLine_228 : decode prog_7_method_7_code 228 = .ok (.iconst 0, 1) := by decide +kernel
theorem d_Mo_oneLine_229 : decode prog_7_method_7_code 229 = .ok (.ireturn, 1) := by decide +kernel
theorem d_Mo_oneLine_230 : decode prog_7_method_7_code 230 = .ok (.aload_n 0, 1) := by decide +kernel
theorem d_Mo_oneLine_231 : decode prog_7_method_7_code 231 = .ok (.iload_n 1, 1) := by decide +kernel
theorem d_Mo_oneLine_232 : decode prog_7_method_7_code 232 = .ok (.iload 4, 2) := by decide +kernel
theorem d_Mo_oneLine_234 : decode prog_7_method_7_code 234 = .ok (.invokevirtual 106, 3) := by decide +kernel
theorem d_Mo_oneLine_237 : decode prog_7_method_7_code 237 = .ok (.ifCond .eq 5, 3) := by decide +kernel
theorem d_Mo_oneLine_240 : decode prog_7_method_7_code 240 = .ok (.iconst 0, 1) := by decide +kernel
theorem d_Mo_oneLine_241 : decode prog_7_method_7_code 241 = .ok (.ireturn, 1) := by decide +kernel
theorem d_Mo_oneLine_242 : decode prog_7_method_7_code 242 = .ok (.iload_n 1, 1) := by decide +kernel
theorem d_Mo_oneLine_243 : decode prog_7_method_7_code 243 = .ok (.bipush 68, 2) := by decide +kernel
theorem d_Mo_oneLine_245 : decode prog_7_method_7_code 245 = .ok (.if_icmp .ne 10, 3) := by decide +kernel
theorem d_Mo_oneLine_248 : decode prog_7_method_7_code 248 = .ok (.iload 5, 2) := by decide +kernel
theorem d_Mo_oneLine_250 : decode prog_7_method_7_code 250 = .ok (.ldc 100, 2) := by decide +kernel
theorem d_Mo_oneLine_252 : decode prog_7_method_7_code 252 = .ok (.if_icmp .gt 16, 3) := by decide +kernel
theorem d_Mo_oneLine_255 : decode prog_7_method_7_code 255 = .ok (.iload_n 1, 1) := by decide +kernel
theorem d_Mo_oneLine_256 : decode prog_7_method_7_code 256 = .ok (.bipush 77, 2) := by decide +kernel
theorem d_Mo_oneLine_258 : decode prog_7_method_7_code 258 = .ok (.if_icmp .ne 12, 3) := by decide +kernel
theorem d_Mo_oneLine_261 : decode prog_7_method_7_code 261 = .ok (.iload 5, 2) := by decide +kernel
theorem d_Mo_oneLine_263 : decode prog_7_method_7_code 263 = .ok (.ldc 101, 2) := by decide +kernel
theorem d_Mo_oneLine_265 : decode prog_7_method_7_code 265 = .ok (.if_icmp .le 5, 3) := by decide +kernel
theorem d_Mo_oneLine_268 : decode prog_7_method_7_code 268 = .ok (.iconst 0, 1) := by decide +kernel
theorem d_Mo_oneLine_269 : decode prog_7_method_7_code 269 = .ok (.ireturn, 1) := by decide +kernel
theorem d_Mo_oneLine_270 : decode prog_7_method_7_code 270 = .ok (.iload_n 1, 1) := by decide +kernel
theorem d_Mo_oneLine_271 : decode prog_7_method_7_code 271 = .ok (.bipush 70, 2) := by decide +kernel
theorem d_Mo_oneLine_273 : decode prog_7_method_7_code 273 = .ok (.if_icmp .ne 26, 3) := by decide +kernel
theorem d_Mo_oneLine_276 : decode prog_7_method_7_code 276 = .ok (.iload 6, 2) := by decide +kernel
theorem d_Mo_oneLine_278 : decode prog_7_method_7_code 278 = .ok (.iconst 1, 1) := by decide +kernel
theorem d_Mo_oneLine_279 : decode prog_7_method_7_code 279 = .ok (.if_icmp .lt 18, 3) := by decide +kernel
theorem d_Mo_oneLine_282 : decode prog_7_method_7_code 282 = .ok (.iload 6, 2) := by decide +kernel
theorem d_Mo_oneLine_284 : decode prog_7_method_7_code 284 = .ok (.sipush 1000, 3) := by decide +kernel
theorem d_Mo_oneLine_287 : decode prog_7_method_7_code 287 = .ok (.if_icmp .gt 10, 3) := by decide +kernel
theorem d_Mo_oneLine_290 : decode prog_7_method_7_code 290 = .ok (.iload 5, 2) := by decide +kernel
theorem d_Mo_oneLine_292 : decode prog_7_method_7_code 292 = .ok (.iload 6, 2) := by decide +kernel
theorem d_Mo_oneLine_294 : decode prog_7_method_7_code 294 = .ok (.if_icmp .le 5, 3) := by decide +kernel
theorem d_Mo_oneLine_297 : decode prog_7_method_7_code 297 = .ok (.iconst 0, 1) := by decide +kernel
theorem d_Mo_oneLine_298 : decode prog_7_method_7_code 298 = .ok (.ireturn, 1) := by decide +kernel
theorem d_Mo_oneLine_299 : decode prog_7_method_7_code 299 = .ok (.aload_n 0, 1) := by decide +kernel
theorem d_Mo_oneLine_300 : decode prog_7_method_7_code 300 = .ok (.getfield 29, 3) := by decide +kernel
theorem d_Mo_oneLine_303 : decode prog_7_method_7_code 303 = .ok (.iload_n 3, 1) := by decide +kernel
theorem d_Mo_oneLine_304 : decode prog_7_method_7_code 304 = .ok (.iload_n 1, 1) := by decide +kernel
theorem d_Mo_oneLine_305 : decode prog_7_method_7_code 305 = .ok (.iastore, 1) := by decide +kernel
theorem d_Mo_oneLine_306 : decode prog_7_method_7_code 306 = .ok (.aload_n 0, 1) := by decide +kernel
theorem d_Mo_oneLine_307 : decode prog_7_method_7_code 307 = .ok (.dup, 1) := by decide +kernel
theorem d_Mo_oneLine_308 : decode prog_7_method_7_code 308 = .ok (.getfield 26, 3) := by decide +kernel
theorem d_Mo_oneLine_311 : decode prog_7_method_7_code 311 = .ok (.iconst 1, 1) := by decide +kernel
theorem d_Mo_oneLine_312 : decode prog_7_method_7_code 312 = .ok (.iadd, 1) := by decide +kernel
theorem d_Mo_oneLine_313 : decode prog_7_method_7_code 313 = .ok (.putfield 26, 3) := by decide +kernel
theorem d_Mo_oneLine_316 : decode prog_7_method_7_code 316 = .ok (.iconst 1, 1) := by decide +kernel
theorem d_Mo_oneLine_317 : decode prog_7_method_7_code 317 = .ok (.ireturn, 1) := by decide +kernel
theorem d_Mo_here_0 : decode prog_7_method_3_code 0 = .ok (.aload_n 0, 1) := by decide +kernel
theorem d_Mo_here_1 : decode prog_7_method_3_code 1 = .ok (.getfield 32, 3) := by decide +kernel
theorem d_Mo_here_4 : decode prog_7_method_3_code 4 = .ok (.aload_n 0, 1) := by decide +kernel
theorem d_Mo_here_5 : decode prog_7_method_3_code 5 = .ok (.getfield 17, 3) := by decide +kernel
theorem d_Mo_here_8 : decode prog_7_method_3_code 8 = .ok (.if_icmp .ge 15, 3) := by decide +kernel
theorem d_Mo_here_11 : decode prog_7_method_3_code 11 = .ok (.aload_n 0, 1) := by decide +kernel
theorem d_Mo_here_12 : decode prog_7_method_3_code 12 = .ok (.getfield 13, 3) := by decide +kernel
theorem d_Mo_here_15 : decode prog_7_method_3_code 15 = .ok (.aload_n 0, 1) := by decide +kernel
theorem d_Mo_here_16 : decode prog_7_method_3_code 16 = .ok (.getfield 32, 3) := by decide +kernel
theorem d_Mo_here_19 : decode prog_7_method_3_code 19 = .ok (.iaload, 1) := by decide +kernel
theorem d_Mo_here_20 : decode prog_7_method_3_code 20 = .ok (.goto 4, 3) := by decide +kernel
theorem d_Mo_here_23 : decode prog_7_method_3_code 23 = .ok (.iconst (-1), 1) := by decide +kernel
theorem d_Mo_here_24 : decode prog_7_method_3_code 24 = .ok (.ireturn, 1) := by decide +kernel
theorem d_Mo_number_0 : decode prog_7_method_4_code 0 = .ok (.aload_n 0, 1) := by decide +kernel
theorem d_Mo_number_1 : decode prog_7_method_4_code 1 = .ok (.invokevirtual 93, 3) := by decide +kernel
theorem d_Mo_number_4 : decode prog_7_method_4_code 4 = .ok (.bipush 32, 2) := by decide +kernel
theorem d_Mo_number_6 : decode prog_7_method_4_code 6 = .ok (.if_icmp .eq 5, 3) := by decide +kernel
theorem d_Mo_number_9 : decode prog_7_method_4_code 9 = .ok (.iconst (-1), 1) := by decide +kernel
theorem d_Mo_number_10 : decode prog_7_method_4_code 10 = .ok (.ireturn, 1) := by decide +kernel
theorem d_Mo_number_11 : decode prog_7_method_4_code 11 = .ok (.aload_n 0, 1) := by decide +kernel
theorem d_Mo_number_12 : decode prog_7_method_4_code 12 = .ok (.dup, 1) := by decide +kernel
theorem d_Mo_number_13 : decode prog_7_method_4_code 13 = .ok (.getfield 32, 3) := by decide +kernel
theorem d_Mo_number_16 : decode prog_7_method_4_code 16 = .ok (.iconst 1, 1) := by decide +kernel
theorem d_Mo_number_17 : decode prog_7_method_4_code 17 = .ok (.iadd, 1) := by decide +kernel
theorem d_Mo_number_18 : decode prog_7_method_4_code 18 = .ok (.putfield 32, 3) := by decide +kernel
theorem d_Mo_number_21 : decode prog_7_method_4_code 21 = .ok (.iconst 0, 1) := by decide +kernel
theorem d_Mo_number_22 : decode prog_7_method_4_code 22 = .ok (.istore_n 1, 1) := by decide +kernel
theorem d_Mo_number_23 : decode prog_7_method_4_code 23 = .ok (.iconst 0, 1) := by decide +kernel
theorem d_Mo_number_24 : decode prog_7_method_4_code 24 = .ok (.istore_n 2, 1) := by decide +kernel
theorem d_Mo_number_25 : decode prog_7_method_4_code 25 = .ok (.aload_n 0, 1) := by decide +kernel
theorem d_Mo_number_26 : decode prog_7_method_4_code 26 = .ok (.invokevirtual 93, 3) := by decide +kernel
theorem d_Mo_number_29 : decode prog_7_method_4_code 29 = .ok (.istore_n 3, 1) := by decide +kernel
theorem d_Mo_number_30 : decode prog_7_method_4_code 30 = .ok (.aload_n 0, 1) := by decide +kernel
theorem d_Mo_number_31 : decode prog_7_method_4_code 31 = .ok (.invokevirtual 93, 3) := by decide +kernel
theorem d_Mo_number_34 : decode prog_7_method_4_code 34 = .ok (.bipush 48, 2) := by decide +kernel
theorem d_Mo_number_36 : decode prog_7_method_4_code 36 = .ok (.if_icmp .lt 47, 3) := by decide +kernel
theorem d_Mo_number_39 : decode prog_7_method_4_code 39 = .ok (.aload_n 0, 1) := by decide +kernel
theorem d_Mo_number_40 : decode prog_7_method_4_code 40 = .ok (.invokevirtual 93, 3) := by decide +kernel
theorem d_Mo_number_43 : decode prog_7_method_4_code 43 = .ok (.bipush 57, 2) := by decide +kernel
theorem d_Mo_number_45 : decode prog_7_method_4_code 45 = .ok (.if_icmp .gt 38, 3) := by decide +kernel
theorem d_Mo_number_48 : decode prog_7_method_4_code 48 = .ok (.iload_n 1, 1) := by decide +kernel
theorem d_Mo_number_49 : decode prog_7_method_4_code 49 = .ok (.bipush 9, 2) := by decide +kernel
theorem d_Mo_number_51 : decode prog_7_method_4_code 51 = .ok (.if_icmp .ge 16, 3) := by decide +kernel
theorem d_Mo_number_54 : decode prog_7_method_4_code 54 = .ok (.bipush 10, 2) := by decide +kernel
theorem d_Mo_number_56 : decode prog_7_method_4_code 56 = .ok (.iload_n 2, 1) := by decide +kernel
theorem d_Mo_number_57 : decode prog_7_method_4_code 57 = .ok (.imul, 1) := by decide +kernel
theorem d_Mo_number_58 : decode prog_7_method_4_code 58 = .ok (.aload_n 0, 1) := by decide +kernel
theorem d_Mo_number_59 : decode prog_7_method_4_code 59 = .ok (.invokevirtual 93, 3) := by decide +kernel
theorem d_Mo_number_62 : decode prog_7_method_4_code 62 = .ok (.iadd, 1) := by decide +kernel
theorem d_Mo_number_63 : decode prog_7_method_4_code 63 = .ok (.bipush 48, 2) := by decide +kernel
theorem d_Mo_number_65 : decode prog_7_method_4_code 65 = .ok (.isub, 1) := by decide +kernel
theorem d_Mo_number_66 : decode prog_7_method_4_code 66 = .ok (.istore_n 2, 1) := by decide +kernel
theorem d_Mo_number_67 : decode prog_7_method_4_code 67 = .ok (.iinc 1 1, 3) := by decide +kernel
theorem d_Mo_number_70 : decode prog_7_method_4_code 70 = .ok (.aload_n 0, 1) := by decide +kernel
theorem d_Mo_number_71 : decode prog_7_method_4_code 71 = .ok (.dup, 1) := by decide +kernel
theorem d_Mo_number_72 : decode prog_7_method_4_code 72 = .ok (.getfield 32, 3) := by decide +kernel
theorem d_Mo_number_75 : decode prog_7_method_4_code 75 = .ok (.iconst 1, 1) := by decide +kernel
end
section
theorem d_Mo_number_76 : decode prog_7_method_4_code 76 = .ok (.iadd, 1) := by decide +kernel
theorem d_Mo_number_77 : decode prog_7_method_4_code 77 = .ok (.putfield 32, 3) := by decide +kernel
theorem d_Mo_number_80 : decode prog_7_method_4_code 80 = .ok (.goto (-50), 3) := by decide +kernel
theorem d_Mo_number_83 : decode prog_7_method_4_code 83 = .ok (.iload_n 1, 1) := by decide +kernel
theorem d_Mo_number_84 : decode prog_7_method_4_code 84 = .ok (.ifCond .eq 20, 3) := by decide +kernel
theorem d_Mo_number_87 : decode prog_7_method_4_code 87 = .ok (.iload_n 1, 1) := by decide +kernel
theorem d_Mo_number_88 : decode prog_7_method_4_code 88 = .ok (.bipush 9, 2) := by decide +kernel
theorem d_Mo_number_90 : decode prog_7_method_4_code 90 = .ok (.if_icmp .gt 14, 3) := by decide +kernel
theorem d_Mo_number_93 : decode prog_7_method_4_code 93 = .ok (.iload_n 1, 1) := by decide +kernel
theorem d_Mo_number_94 : decode prog_7_method_4_code 94 = .ok (.iconst 1, 1) := by decide +kernel
theorem d_Mo_number_95 : decode prog_7_method_4_code 95 = .ok (.if_icmp .le 13, 3) := by decide +kernel
theorem d_Mo_number_98 : decode prog_7_method_4_code 98 = .ok (.iload_n 3, 1) := by decide +kernel
theorem d_Mo_number_99 : decode prog_7_method_4_code 99 = .ok (.bipush 48, 2) := by decide +kernel
theorem d_Mo_number_101 : decode prog_7_method_4_code 101 = .ok (.if_icmp .ne 7, 3) := by decide +kernel
theorem d_Mo_number_104 : decode prog_7_method_4_code 104 = .ok (.iconst (-1), 1) := by decide +kernel
theorem d_Mo_number_105 : decode prog_7_method_4_code 105 = .ok (.goto 4, 3) := by decide +kernel
theorem d_Mo_number_108 : decode prog_7_method_4_code 108 = .ok (.iload_n 2, 1) := by decide +kernel
theorem d_Mo_number_109 : decode prog_7_method_4_code 109 = .ok (.ireturn, 1) := by decide +kernel
theorem d_Mo_heaviest_0 : decode prog_7_method_6_code 0 = .ok (.iconst 0, 1) := by decide +kernel
theorem d_Mo_heaviest_1 : decode prog_7_method_6_code 1 = .ok (.istore_n 3, 1) := by decide +kernel
theorem d_Mo_heaviest_2 : decode prog_7_method_6_code 2 = .ok (.iconst 0, 1) := by decide +kernel
theorem d_Mo_heaviest_3 : decode prog_7_method_6_code 3 = .ok (.istore 4, 2) := by decide +kernel
theorem d_Mo_heaviest_5 : decode prog_7_method_6_code 5 = .ok (.iload 4, 2) := by decide +kernel
theorem d_Mo_heaviest_7 : decode prog_7_method_6_code 7 = .ok (.aload_n 0, 1) := by decide +kernel
theorem d_Mo_heaviest_8 : decode prog_7_method_6_code 8 = .ok (.getfield 26, 3) := by decide +kernel
theorem d_Mo_heaviest_11 : decode prog_7_method_6_code 11 = .ok (.if_icmp .ge 65, 3) := by decide +kernel
theorem d_Mo_heaviest_14 : decode prog_7_method_6_code 14 = .ok (.aload_n 0, 1) := by decide +kernel
theorem d_Mo_heaviest_15 : decode prog_7_method_6_code 15 = .ok (.getfield 29, 3) := by decide +kernel
theorem d_Mo_heaviest_18 : decode prog_7_method_6_code 18 = .ok (.iconst 5, 1) := by decide +kernel
theorem d_Mo_heaviest_19 : decode prog_7_method_6_code 19 = .ok (.iload 4, 2) := by decide +kernel
theorem d_Mo_heaviest_21 : decode prog_7_method_6_code 21 = .ok (.imul, 1) := by decide +kernel
theorem d_Mo_heaviest_22 : decode prog_7_method_6_code 22 = .ok (.iaload, 1) := by decide +kernel
theorem d_Mo_heaviest_23 : decode prog_7_method_6_code 23 = .ok (.bipush 82, 2) := by decide +kernel
theorem d_Mo_heaviest_25 : decode prog_7_method_6_code 25 = .ok (.if_icmp .ne 45, 3) := by decide +kernel
theorem d_Mo_heaviest_28 : decode prog_7_method_6_code 28 = .ok (.aload_n 0, 1) := by decide +kernel
theorem d_Mo_heaviest_29 : decode prog_7_method_6_code 29 = .ok (.getfield 29, 3) := by decide +kernel
theorem d_Mo_heaviest_32 : decode prog_7_method_6_code 32 = .ok (.iconst 5, 1) := by decide +kernel
theorem d_Mo_heaviest_33 : decode prog_7_method_6_code 33 = .ok (.iload 4, 2) := by decide +kernel
theorem d_Mo_heaviest_35 : decode prog_7_method_6_code 35 = .ok (.imul, 1) := by decide +kernel
theorem d_Mo_heaviest_36 : decode prog_7_method_6_code 36 = .ok (.iconst 1, 1) := by decide +kernel
theorem d_Mo_heaviest_37 : decode prog_7_method_6_code 37 = .ok (.iadd, 1) := by decide +kernel
theorem d_Mo_heaviest_38 : decode prog_7_method_6_code 38 = .ok (.iaload, 1) := by decide +kernel
theorem d_Mo_heaviest_39 : decode prog_7_method_6_code 39 = .ok (.iload_n 1, 1) := by decide +kernel
theorem d_Mo_heaviest_40 : decode prog_7_method_6_code 40 = .ok (.if_icmp .ne 30, 3) := by decide +kernel
theorem d_Mo_heaviest_43 : decode prog_7_method_6_code 43 = .ok (.aload_n 0, 1) := by decide +kernel
theorem d_Mo_heaviest_44 : decode prog_7_method_6_code 44 = .ok (.getfield 29, 3) := by decide +kernel
theorem d_Mo_heaviest_47 : decode prog_7_method_6_code 47 = .ok (.iconst 5, 1) := by decide +kernel
theorem d_Mo_heaviest_48 : decode prog_7_method_6_code 48 = .ok (.iload 4, 2) := by decide +kernel
theorem d_Mo_heaviest_50 : decode prog_7_method_6_code 50 = .ok (.imul, 1) := by decide +kernel
theorem d_Mo_heaviest_51 : decode prog_7_method_6_code 51 = .ok (.iconst 2, 1) := by decide +kernel
theorem d_Mo_heaviest_52 : decode prog_7_method_6_code 52 = .ok (.iadd, 1) := by decide +kernel
theorem d_Mo_heaviest_53 : decode prog_7_method_6_code 53 = .ok (.iaload, 1) := by decide +kernel
theorem d_Mo_heaviest_54 : decode prog_7_method_6_code 54 = .ok (.iload_n 2, 1) := by decide +kernel
theorem d_Mo_heaviest_55 : decode prog_7_method_6_code 55 = .ok (.if_icmp .ne 15, 3) := by decide +kernel
theorem d_Mo_heaviest_58 : decode prog_7_method_6_code 58 = .ok (.aload_n 0, 1) := by decide +kernel
theorem d_Mo_heaviest_59 : decode prog_7_method_6_code 59 = .ok (.getfield 29, 3) := by decide +kernel
theorem d_Mo_heaviest_62 : decode prog_7_method_6_code 62 = .ok (.iconst 5, 1) := by decide +kernel
theorem d_Mo_heaviest_63 : decode prog_7_method_6_code 63 = .ok (.iload 4, 2) := by decide +kernel
theorem d_Mo_heaviest_65 : decode prog_7_method_6_code 65 = .ok (.imul, 1) := by decide +kernel
theorem d_Mo_heaviest_66 : decode prog_7_method_6_code 66 = .ok (.iconst 3, 1) := by decide +kernel
theorem d_Mo_heaviest_67 : decode prog_7_method_6_code 67 = .ok (.iadd, 1) := by decide +kernel
theorem d_Mo_heaviest_68 : decode prog_7_method_6_code 68 = .ok (.iaload, 1) := by decide +kernel
theorem d_Mo_heaviest_69 : decode prog_7_method_6_code 69 = .ok (.istore_n 3, 1) := by decide +kernel
theorem d_Mo_heaviest_70 : decode prog_7_method_6_code 70 = .ok (.iinc 4 1, 3) := by decide +kernel
theorem d_Mo_heaviest_73 : decode prog_7_method_6_code 73 = .ok (.goto (-68), 3) := by decide +kernel
theorem d_Mo_heaviest_76 : decode prog_7_method_6_code 76 = .ok (.iload_n 3, 1) := by decide +kernel
theorem d_Mo_heaviest_77 : decode prog_7_method_6_code 77 = .ok (.ireturn, 1) := by decide +kernel
theorem d_Mo_seen_0 : decode prog_7_method_5_code 0 = .ok (.iconst 0, 1) := by decide +kernel
theorem d_Mo_seen_1 : decode prog_7_method_5_code 1 = .ok (.istore_n 3, 1) := by decide +kernel
theorem d_Mo_seen_2 : decode prog_7_method_5_code 2 = .ok (.iload_n 3, 1) := by decide +kernel
theorem d_Mo_seen_3 : decode prog_7_method_5_code 3 = .ok (.aload_n 0, 1) := by decide +kernel
theorem d_Mo_seen_4 : decode prog_7_method_5_code 4 = .ok (.getfield 26, 3) := by decide +kernel
theorem d_Mo_seen_7 : decode prog_7_method_5_code 7 = .ok (.if_icmp .ge 37, 3) := by decide +kernel
theorem d_Mo_seen_10 : decode prog_7_method_5_code 10 = .ok (.aload_n 0, 1) := by decide +kernel
theorem d_Mo_seen_11 : decode prog_7_method_5_code 11 = .ok (.getfield 29, 3) := by decide +kernel
theorem d_Mo_seen_14 : decode prog_7_method_5_code 14 = .ok (.iconst 5, 1) := by decide +kernel
theorem d_Mo_seen_15 : decode prog_7_method_5_code 15 = .ok (.iload_n 3, 1) := by decide +kernel
theorem d_Mo_seen_16 : decode prog_7_method_5_code 16 = .ok (.imul, 1) := by decide +kernel
theorem d_Mo_seen_17 : decode prog_7_method_5_code 17 = .ok (.iaload, 1) := by decide +kernel
theorem d_Mo_seen_18 : decode prog_7_method_5_code 18 = .ok (.iload_n 1, 1) := by decide +kernel
theorem d_Mo_seen_19 : decode prog_7_method_5_code 19 = .ok (.if_icmp .ne 19, 3) := by decide +kernel
theorem d_Mo_seen_22 : decode prog_7_method_5_code 22 = .ok (.aload_n 0, 1) := by decide +kernel
theorem d_Mo_seen_23 : decode prog_7_method_5_code 23 = .ok (.getfield 29, 3) := by decide +kernel
theorem d_Mo_seen_26 : decode prog_7_method_5_code 26 = .ok (.iconst 5, 1) := by decide +kernel
theorem d_Mo_seen_27 : decode prog_7_method_5_code 27 = .ok (.iload_n 3, 1) := by decide +kernel
theorem d_Mo_seen_28 : decode prog_7_method_5_code 28 = .ok (.imul, 1) := by decide +kernel
theorem d_Mo_seen_29 : decode prog_7_method_5_code 29 = .ok (.iconst 1, 1) := by decide +kernel
theorem d_Mo_seen_30 : decode prog_7_method_5_code 30 = .ok (.iadd, 1) := by decide +kernel
theorem d_Mo_seen_31 : decode prog_7_method_5_code 31 = .ok (.iaload, 1) := by decide +kernel
theorem d_Mo_seen_32 : decode prog_7_method_5_code 32 = .ok (.iload_n 2, 1) := by decide +kernel
theorem d_Mo_seen_33 : decode prog_7_method_5_code 33 = .ok (.if_icmp .ne 5, 3) := by decide +kernel
theorem d_Mo_seen_36 : decode prog_7_method_5_code 36 = .ok (.iconst 1, 1) := by decide +kernel
theorem d_Mo_seen_37 : decode prog_7_method_5_code 37 = .ok (.ireturn, 1) := by decide +kernel
theorem d_Mo_seen_38 : decode prog_7_method_5_code 38 = .ok (.iinc 3 1, 3) := by decide +kernel
theorem d_Mo_seen_41 : decode prog_7_method_5_code 41 = .ok (.goto (-39), 3) := by decide +kernel
theorem d_Mo_seen_44 : decode prog_7_method_5_code 44 = .ok (.iconst 0, 1) := by decide +kernel
theorem d_Mo_seen_45 : decode prog_7_method_5_code 45 = .ok (.ireturn, 1) := by decide +kernel
theorem d_Mo_shipment_0 : decode prog_7_method_17_code 0 = .ok (.aload_n 0, 1) := by decide +kernel
theorem d_Mo_shipment_1 : decode prog_7_method_17_code 1 = .ok (.iload_n 1, 1) := by decide +kernel
theorem d_Mo_shipment_2 : decode prog_7_method_17_code 2 = .ok (.iconst 0, 1) := by decide +kernel
theorem d_Mo_shipment_3 : decode prog_7_method_17_code 3 = .ok (.bipush 9, 2) := by decide +kernel
theorem d_Mo_shipment_5 : decode prog_7_method_17_code 5 = .ok (.invokestatic 124, 3) := by decide +kernel
theorem d_Mo_shipment_8 : decode prog_7_method_17_code 8 = .ok (.ifCond .ne 23, 3) := by decide +kernel
theorem d_Mo_shipment_11 : decode prog_7_method_17_code 11 = .ok (.iload_n 2, 1) := by decide +kernel
theorem d_Mo_shipment_12 : decode prog_7_method_17_code 12 = .ok (.iconst 1, 1) := by decide +kernel
theorem d_Mo_shipment_13 : decode prog_7_method_17_code 13 = .ok (.ldc 100, 2) := by decide +kernel
theorem d_Mo_shipment_15 : decode prog_7_method_17_code 15 = .ok (.invokestatic 124, 3) := by decide +kernel
theorem d_Mo_shipment_18 : decode prog_7_method_17_code 18 = .ok (.ifCond .ne 13, 3) := by decide +kernel
theorem d_Mo_shipment_21 : decode prog_7_method_17_code 21 = .ok (.iload_n 3, 1) := by decide +kernel
theorem d_Mo_shipment_22 : decode prog_7_method_17_code 22 = .ok (.iconst 0, 1) := by decide +kernel
theorem d_Mo_shipment_23 : decode prog_7_method_17_code 23 = .ok (.ldc 132, 2) := by decide +kernel
theorem d_Mo_shipment_25 : decode prog_7_method_17_code 25 = .ok (.invokestatic 124, 3) := by decide +kernel
theorem d_Mo_shipment_28 : decode prog_7_method_17_code 28 = .ok (.ifCond .eq 7, 3) := by decide +kernel
theorem d_Mo_shipment_31 : decode prog_7_method_17_code 31 = .ok (.iconst 1, 1) := by decide +kernel
theorem d_Mo_shipment_32 : decode prog_7_method_17_code 32 = .ok (.goto 17, 3) := by decide +kernel
theorem d_Mo_shipment_35 : decode prog_7_method_17_code 35 = .ok (.aload_n 0, 1) := by decide +kernel
theorem d_Mo_shipment_36 : decode prog_7_method_17_code 36 = .ok (.getfield 35, 3) := by decide +kernel
theorem d_Mo_shipment_39 : decode prog_7_method_17_code 39 = .ok (.bipush 20, 2) := by decide +kernel
theorem d_Mo_shipment_41 : decode prog_7_method_17_code 41 = .ok (.if_icmp .ne 7, 3) := by decide +kernel
theorem d_Mo_shipment_44 : decode prog_7_method_17_code 44 = .ok (.iconst 2, 1) := by decide +kernel
theorem d_Mo_shipment_45 : decode prog_7_method_17_code 45 = .ok (.goto 4, 3) := by decide +kernel
theorem d_Mo_shipment_48 : decode prog_7_method_17_code 48 = .ok (.iconst 0, 1) := by decide +kernel
theorem d_Mo_shipment_49 : decode prog_7_method_17_code 49 = .ok (.putfield 7, 3) := by decide +kernel
theorem d_Mo_shipment_52 : decode prog_7_method_17_code 52 = .ok (.aload_n 0, 1) := by decide +kernel
theorem d_Mo_shipment_53 : decode prog_7_method_17_code 53 = .ok (.getfield 7, 3) := by decide +kernel
theorem d_Mo_shipment_56 : decode prog_7_method_17_code 56 = .ok (.ifCond .eq 5, 3) := by decide +kernel
theorem d_Mo_shipment_59 : decode prog_7_method_17_code 59 = .ok (.iconst 0, 1) := by decide +kernel
theorem d_Mo_shipment_60 : decode prog_7_method_17_code 60 = .ok (.ireturn, 1) := by decide +kernel
theorem d_Mo_shipment_61 : decode prog_7_method_17_code 61 = .ok (.aload_n 0, 1) := by decide +kernel
theorem d_Mo_shipment_62 : decode prog_7_method_17_code 62 = .ok (.getfield 42, 3) := by decide +kernel
theorem d_Mo_shipment_65 : decode prog_7_method_17_code 65 = .ok (.aload_n 0, 1) := by decide +kernel
theorem d_Mo_shipment_66 : decode prog_7_method_17_code 66 = .ok (.getfield 35, 3) := by decide +kernel
theorem d_Mo_shipment_69 : decode prog_7_method_17_code 69 = .ok (.iload_n 1, 1) := by decide +kernel
theorem d_Mo_shipment_70 : decode prog_7_method_17_code 70 = .ok (.iastore, 1) := by decide +kernel
theorem d_Mo_shipment_71 : decode prog_7_method_17_code 71 = .ok (.aload_n 0, 1) := by decide +kernel
theorem d_Mo_shipment_72 : decode prog_7_method_17_code 72 = .ok (.getfield 45, 3) := by decide +kernel
theorem d_Mo_shipment_75 : decode prog_7_method_17_code 75 = .ok (.aload_n 0, 1) := by decide +kernel
theorem d_Mo_shipment_76 : decode prog_7_method_17_code 76 = .ok (.getfield 35, 3) := by decide +kernel
theorem d_Mo_shipment_79 : decode prog_7_method_17_code 79 = .ok (.iload_n 2, 1) := by decide +kernel
theorem d_Mo_shipment_80 : decode prog_7_method_17_code 80 = .ok (.iastore, 1) := by decide +kernel
theorem d_Mo_shipment_81 : decode prog_7_method_17_code 81 = .ok (.aload_n 0, 1) := by decide +kernel
theorem d_Mo_shipment_82 : decode prog_7_method_17_code 82 = .ok (.getfield 48, 3) := by decide +kernel
theorem d_Mo_shipment_85 : decode prog_7_method_17_code 85 = .ok (.aload_n 0, 1) := by decide +kernel
theorem d_Mo_shipment_86 : decode prog_7_method_17_code 86 = .ok (.getfield 35, 3) := by decide +kernel
theorem d_Mo_shipment_89 : decode prog_7_method_17_code 89 = .ok (.iload_n 3, 1) := by decide +kernel
theorem d_Mo_shipment_90 : decode prog_7_method_17_code 90 = .ok (.iastore, 1) := by decide +kernel
theorem d_Mo_shipment_91 : decode prog_7_method_17_code 91 = .ok (.aload_n 0, 1) := by decide +kernel
theorem d_Mo_shipment_92 : decode prog_7_method_17_code 92 = .ok (.getfield 51, 3) := by decide +kernel
theorem d_Mo_shipment_95 : decode prog_7_method_17_code 95 = .ok (.aload_n 0, 1) := by decide +kernel
theorem d_Mo_shipment_96 : decode prog_7_method_17_code 96 = .ok (.getfield 35, 3) := by decide +kernel
theorem d_Mo_shipment_99 : decode prog_7_method_17_code 99 = .ok (.iconst (-1), 1) := by decide +kernel
theorem d_Mo_shipment_100 : decode prog_7_method_17_code 100 = .ok (.iastore, 1) := by decide +kernel
theorem d_Mo_shipment_101 : decode prog_7_method_17_code 101 = .ok (.aload_n 0, 1) := by decide +kernel
theorem d_Mo_shipment_102 : decode prog_7_method_17_code 102 = .ok (.getfield 54, 3) := by decide +kernel
theorem d_Mo_shipment_105 : decode prog_7_method_17_code 105 = .ok (.aload_n 0, 1) := by decide +kernel
theorem d_Mo_shipment_106 : decode prog_7_method_17_code 106 = .ok (.getfield 35, 3) := by decide +kernel
theorem d_Mo_shipment_109 : decode prog_7_method_17_code 109 = .ok (.iconst (-1), 1) := by decide +kernel
theorem d_Mo_shipment_110 : decode prog_7_method_17_code 110 = .ok (.iastore, 1) := by decide +kernel
theorem d_Mo_shipment_111 : decode prog_7_method_17_code 111 = .ok (.aload_n 0, 1) := by decide +kernel
theorem d_Mo_shipment_112 : decode prog_7_method_17_code 112 = .ok (.getfield 57, 3) := by decide +kernel
theorem d_Mo_shipment_115 : decode prog_7_method_17_code 115 = .ok (.aload_n 0, 1) := by decide +kernel
theorem d_Mo_shipment_116 : decode prog_7_method_17_code 116 = .ok (.getfield 35, 3) := by decide +kernel
theorem d_Mo_shipment_119 : decode prog_7_method_17_code 119 = .ok (.iconst (-1), 1) := by decide +kernel
theorem d_Mo_shipment_120 : decode prog_7_method_17_code 120 = .ok (.iastore, 1) := by decide +kernel
theorem d_Mo_shipment_121 : decode prog_7_method_17_code 121 = .ok (.aload_n 0, 1) := by decide +kernel
theorem d_Mo_shipment_122 : decode prog_7_method_17_code 122 = .ok (.dup, 1) := by decide +kernel
theorem d_Mo_shipment_123 : decode prog_7_method_17_code 123 = .ok (.getfield 35, 3) := by decide +kernel
theorem d_Mo_shipment_126 : decode prog_7_method_17_code 126 = .ok (.iconst 1, 1) := by decide +kernel
theorem d_Mo_shipment_127 : decode prog_7_method_17_code 127 = .ok (.iadd, 1) := by decide +kernel
theorem d_Mo_shipment_128 : decode prog_7_method_17_code 128 = .ok (.putfield 35, 3) := by decide +kernel
theorem d_Mo_shipment_131 : decode prog_7_method_17_code 131 = .ok (.aload_n 0, 1) := by decide +kernel
theorem d_Mo_shipment_132 : decode prog_7_method_17_code 132 = .ok (.getfield 35, 3) := by decide +kernel
theorem d_Mo_shipment_135 : decode prog_7_method_17_code 135 = .ok (.iconst 1, 1) := by decide +kernel
theorem d_Mo_shipment_136 : decode prog_7_method_17_code 136 = .ok (.isub, 1) := by decide +kernel
theorem d_Mo_shipment_137 : decode prog_7_method_17_code 137 = .ok (.ireturn, 1) := by decide +kernel
theorem d_Mo_weight_0 : decode prog_7_method_18_code 0 = .ok (.aload_n 0, 1) := by decide +kernel
theorem d_Mo_weight_1 : decode prog_7_method_18_code 1 = .ok (.aload_n 0, 1) := by decide +kernel
theorem d_Mo_weight_2 : decode prog_7_method_18_code 2 = .ok (.iload_n 1, 1) := by decide +kernel
theorem d_Mo_weight_3 : decode prog_7_method_18_code 3 = .ok (.invokevirtual 133, 3) := by decide +kernel
theorem d_Mo_weight_6 : decode prog_7_method_18_code 6 = .ok (.ifCond .eq 7, 3) := by decide +kernel
theorem d_Mo_weight_9 : decode prog_7_method_18_code 9 = .ok (.iconst 1, 1) := by decide +kernel
theorem d_Mo_weight_10 : decode prog_7_method_18_code 10 = .ok (.goto 31, 3) := by decide +kernel
theorem d_Mo_weight_13 : decode prog_7_method_18_code 13 = .ok (.iload_n 2, 1) := by decide +kernel
theorem d_Mo_weight_14 : decode prog_7_method_18_code 14 = .ok (.iconst 0, 1) := by decide +kernel
theorem d_Mo_weight_15 : decode prog_7_method_18_code 15 = .ok (.bipush 9, 2) := by decide +kernel
theorem d_Mo_weight_17 : decode prog_7_method_18_code 17 = .ok (.invokestatic 124, 3) := by decide +kernel
theorem d_Mo_weight_20 : decode prog_7_method_18_code 20 = .ok (.ifCond .eq 7, 3) := by decide +kernel
theorem d_Mo_weight_23 : decode prog_7_method_18_code 23 = .ok (.iconst 2, 1) := by decide +kernel
theorem d_Mo_weight_24 : decode prog_7_method_18_code 24 = .ok (.goto 17, 3) := by decide +kernel
theorem d_Mo_weight_27 : decode prog_7_method_18_code 27 = .ok (.aload_n 0, 1) := by decide +kernel
theorem d_Mo_weight_28 : decode prog_7_method_18_code 28 = .ok (.iload_n 1, 1) := by decide +kernel
theorem d_Mo_weight_29 : decode prog_7_method_18_code 29 = .ok (.iload_n 2, 1) := by decide +kernel
theorem d_Mo_weight_30 : decode prog_7_method_18_code 30 = .ok (.invokevirtual 113, 3) := by decide +kernel
theorem d_Mo_weight_33 : decode prog_7_method_18_code 33 = .ok (.ifCond .ge 7, 3) := by decide +kernel
theorem d_Mo_weight_36 : decode prog_7_method_18_code 36 = .ok (.iconst 3, 1) := by decide +kernel
theorem d_Mo_weight_37 : decode prog_7_method_18_code 37 = .ok (.goto 4, 3) := by decide +kernel
theorem d_Mo_weight_40 : decode prog_7_method_18_code 40 = .ok (.iconst 0, 1) := by decide +kernel
theorem d_Mo_weight_41 : decode prog_7_method_18_code 41 = .ok (.putfield 7, 3) := by decide +kernel
theorem d_Mo_weight_44 : decode prog_7_method_18_code 44 = .ok (.aload_n 0, 1) := by decide +kernel
theorem d_Mo_weight_45 : decode prog_7_method_18_code 45 = .ok (.getfield 7, 3) := by decide +kernel
theorem d_Mo_weight_48 : decode prog_7_method_18_code 48 = .ok (.ifCond .eq 7, 3) := by decide +kernel
theorem d_Mo_weight_51 : decode prog_7_method_18_code 51 = .ok (.iconst 0, 1) := by decide +kernel
theorem d_Mo_weight_52 : decode prog_7_method_18_code 52 = .ok (.goto 9, 3) := by decide +kernel
theorem d_Mo_weight_55 : decode prog_7_method_18_code 55 = .ok (.aload_n 0, 1) := by decide +kernel
theorem d_Mo_weight_56 : decode prog_7_method_18_code 56 = .ok (.iload_n 1, 1) := by decide +kernel
theorem d_Mo_weight_57 : decode prog_7_method_18_code 57 = .ok (.iload_n 2, 1) := by decide +kernel
theorem d_Mo_weight_58 : decode prog_7_method_18_code 58 = .ok (.invokevirtual 113, 3) := by decide +kernel
theorem d_Mo_weight_61 : decode prog_7_method_18_code 61 = .ok (.ireturn, 1) := by decide +kernel
theorem d_Mo_noShipment_0 : decode prog_7_method_14_code 0 = .ok (.iload_n 1, 1) := by decide +kernel
theorem d_Mo_noShipment_1 : decode prog_7_method_14_code 1 = .ok (.ifCond .lt 20, 3) := by decide +kernel
theorem d_Mo_noShipment_4 : decode prog_7_method_14_code 4 = .ok (.iload_n 1, 1) := by decide +kernel
theorem d_Mo_noShipment_5 : decode prog_7_method_14_code 5 = .ok (.aload_n 0, 1) := by decide +kernel
theorem d_Mo_noShipment_6 : decode prog_7_method_14_code 6 = .ok (.getfield 35, 3) := by decide +kernel
theorem d_Mo_noShipment_9 : decode prog_7_method_14_code 9 = .ok (.if_icmp .ge 12, 3) := by decide +kernel
theorem d_Mo_noShipment_12 : decode prog_7_method_14_code 12 = .ok (.aload_n 0, 1) := by decide +kernel
theorem d_Mo_noShipment_13 : decode prog_7_method_14_code 13 = .ok (.getfield 38, 3) := by decide +kernel
theorem d_Mo_noShipment_16 : decode prog_7_method_14_code 16 = .ok (.iload_n 1, 1) := by decide +kernel
theorem d_Mo_noShipment_17 : decode prog_7_method_14_code 17 = .ok (.baload, 1) := by decide +kernel
theorem d_Mo_noShipment_18 : decode prog_7_method_14_code 18 = .ok (.ifCond .eq 7, 3) := by decide +kernel
theorem d_Mo_noShipment_21 : decode prog_7_method_14_code 21 = .ok (.iconst 1, 1) := by decide +kernel
theorem d_Mo_noShipment_22 : decode prog_7_method_14_code 22 = .ok (.goto 4, 3) := by decide +kernel
theorem d_Mo_noShipment_25 : decode prog_7_method_14_code 25 = .ok (.iconst 0, 1) := by decide +kernel
theorem d_Mo_noShipment_26 : decode prog_7_method_14_code 26 = .ok (.ireturn, 1) := by decide +kernel
theorem d_Mo_toPay_0 : decode prog_7_method_10_code 0 = .ok (.aload_n 0, 1) := by decide +kernel
theorem d_Mo_toPay_1 : decode prog_7_method_10_code 1 = .ok (.bipush 68, 2) := by decide +kernel
theorem d_Mo_toPay_3 : decode prog_7_method_10_code 3 = .ok (.iload_n 2, 1) := by decide +kernel
theorem d_Mo_toPay_4 : decode prog_7_method_10_code 4 = .ok (.invokevirtual 110, 3) := by decide +kernel
theorem d_Mo_toPay_7 : decode prog_7_method_10_code 7 = .ok (.istore_n 3, 1) := by decide +kernel
theorem d_Mo_toPay_8 : decode prog_7_method_10_code 8 = .ok (.iload_n 3, 1) := by decide +kernel
theorem d_Mo_toPay_9 : decode prog_7_method_10_code 9 = .ok (.ifCond .ge 10, 3) := by decide +kernel
theorem d_Mo_toPay_12 : decode prog_7_method_10_code 12 = .ok (.aload_n 0, 1) := by decide +kernel
theorem d_Mo_toPay_13 : decode prog_7_method_10_code 13 = .ok (.getfield 45, 3) := by decide +kernel
theorem d_Mo_toPay_16 : decode prog_7_method_10_code 16 = .ok (.iload_n 1, 1) := by decide +kernel
theorem d_Mo_toPay_17 : decode prog_7_method_10_code 17 = .ok (.iaload, 1) := by decide +kernel
theorem d_Mo_toPay_18 : decode prog_7_method_10_code 18 = .ok (.ireturn, 1) := by decide +kernel
theorem d_Mo_toPay_19 : decode prog_7_method_10_code 19 = .ok (.aload_n 0, 1) := by decide +kernel
theorem d_Mo_toPay_20 : decode prog_7_method_10_code 20 = .ok (.getfield 23, 3) := by decide +kernel
theorem d_Mo_toPay_23 : decode prog_7_method_10_code 23 = .ok (.iload_n 3, 1) := by decide +kernel
theorem d_Mo_toPay_24 : decode prog_7_method_10_code 24 = .ok (.iconst 2, 1) := by decide +kernel
theorem d_Mo_toPay_25 : decode prog_7_method_10_code 25 = .ok (.iadd, 1) := by decide +kernel
theorem d_Mo_toPay_26 : decode prog_7_method_10_code 26 = .ok (.iaload, 1) := by decide +kernel
theorem d_Mo_toPay_27 : decode prog_7_method_10_code 27 = .ok (.istore 4, 2) := by decide +kernel
theorem d_Mo_toPay_29 : decode prog_7_method_10_code 29 = .ok (.iload 4, 2) := by decide +kernel
theorem d_Mo_toPay_31 : decode prog_7_method_10_code 31 = .ok (.ifCond .ne 5, 3) := by decide +kernel
theorem d_Mo_toPay_34 : decode prog_7_method_10_code 34 = .ok (.iconst (-1), 1) := by decide +kernel
theorem d_Mo_toPay_35 : decode prog_7_method_10_code 35 = .ok (.ireturn, 1) := by decide +kernel
theorem d_Mo_toPay_36 : decode prog_7_method_10_code 36 = .ok (.aload_n 0, 1) := by decide +kernel
theorem d_Mo_toPay_37 : decode prog_7_method_10_code 37 = .ok (.getfield 48, 3) := by decide +kernel
theorem d_Mo_toPay_40 : decode prog_7_method_10_code 40 = .ok (.iload_n 1, 1) := by decide +kernel
theorem d_Mo_toPay_41 : decode prog_7_method_10_code 41 = .ok (.iaload, 1) := by decide +kernel
theorem d_Mo_toPay_42 : decode prog_7_method_10_code 42 = .ok (.iload 4, 2) := by decide +kernel
theorem d_Mo_toPay_44 : decode prog_7_method_10_code 44 = .ok (.iadd, 1) := by decide +kernel
theorem d_Mo_toPay_45 : decode prog_7_method_10_code 45 = .ok (.iconst 1, 1) := by decide +kernel
theorem d_Mo_toPay_46 : decode prog_7_method_10_code 46 = .ok (.isub, 1) := by decide +kernel
theorem d_Mo_toPay_47 : decode prog_7_method_10_code 47 = .ok (.iload 4, 2) := by decide +kernel
theorem d_Mo_toPay_49 : decode prog_7_method_10_code 49 = .ok (.idiv, 1) := by decide +kernel
theorem d_Mo_toPay_50 : decode prog_7_method_10_code 50 = .ok (.istore 5, 2) := by decide +kernel
theorem d_Mo_toPay_52 : decode prog_7_method_10_code 52 = .ok (.iload 5, 2) := by decide +kernel
theorem d_Mo_toPay_54 : decode prog_7_method_10_code 54 = .ok (.aload_n 0, 1) := by decide +kernel
theorem d_Mo_toPay_55 : decode prog_7_method_10_code 55 = .ok (.getfield 45, 3) := by decide +kernel
theorem d_Mo_toPay_58 : decode prog_7_method_10_code 58 = .ok (.iload_n 1, 1) := by decide +kernel
theorem d_Mo_toPay_59 : decode prog_7_method_10_code 59 = .ok (.iaload, 1) := by decide +kernel
theorem d_Mo_toPay_60 : decode prog_7_method_10_code 60 = .ok (.if_icmp .le 8, 3) := by decide +kernel
theorem d_Mo_toPay_63 : decode prog_7_method_10_code 63 = .ok (.iload 5, 2) := by decide +kernel
theorem d_Mo_toPay_65 : decode prog_7_method_10_code 65 = .ok (.goto 9, 3) := by decide +kernel
theorem d_Mo_toPay_68 : decode prog_7_method_10_code 68 = .ok (.aload_n 0, 1) := by decide +kernel
theorem d_Mo_toPay_69 : decode prog_7_method_10_code 69 = .ok (.getfield 45, 3) := by decide +kernel
theorem d_Mo_toPay_72 : decode prog_7_method_10_code 72 = .ok (.iload_n 1, 1) := by decide +kernel
theorem d_Mo_toPay_73 : decode prog_7_method_10_code 73 = .ok (.iaload, 1) := by decide +kernel
theorem d_Mo_toPay_74 : decode prog_7_method_10_code 74 = .ok (.ireturn, 1) := by decide +kernel
theorem d_Mo_find_0 : decode prog_7_method_8_code 0 = .ok (.iconst 0, 1) := by decide +kernel
theorem d_Mo_find_1 : decode prog_7_method_8_code 1 = .ok (.istore_n 3, 1) := by decide +kernel
theorem d_Mo_find_2 : decode prog_7_method_8_code 2 = .ok (.iload_n 3, 1) := by decide +kernel
theorem d_Mo_find_3 : decode prog_7_method_8_code 3 = .ok (.aload_n 0, 1) := by decide +kernel
theorem d_Mo_find_4 : decode prog_7_method_8_code 4 = .ok (.getfield 20, 3) := by decide +kernel
theorem d_Mo_find_7 : decode prog_7_method_8_code 7 = .ok (.if_icmp .ge 39, 3) := by decide +kernel
theorem d_Mo_find_10 : decode prog_7_method_8_code 10 = .ok (.aload_n 0, 1) := by decide +kernel
theorem d_Mo_find_11 : decode prog_7_method_8_code 11 = .ok (.getfield 23, 3) := by decide +kernel
theorem d_Mo_find_14 : decode prog_7_method_8_code 14 = .ok (.iconst 5, 1) := by decide +kernel
theorem d_Mo_find_15 : decode prog_7_method_8_code 15 = .ok (.iload_n 3, 1) := by decide +kernel
theorem d_Mo_find_16 : decode prog_7_method_8_code 16 = .ok (.imul, 1) := by decide +kernel
theorem d_Mo_find_17 : decode prog_7_method_8_code 17 = .ok (.iaload, 1) := by decide +kernel
theorem d_Mo_find_18 : decode prog_7_method_8_code 18 = .ok (.iload_n 1, 1) := by decide +kernel
theorem d_Mo_find_19 : decode prog_7_method_8_code 19 = .ok (.if_icmp .ne 21, 3) := by decide +kernel
theorem d_Mo_find_22 : decode prog_7_method_8_code 22 = .ok (.aload_n 0, 1) := by decide +kernel
theorem d_Mo_find_23 : decode prog_7_method_8_code 23 = .ok (.getfield 23, 3) := by decide +kernel
theorem d_Mo_find_26 : decode prog_7_method_8_code 26 = .ok (.iconst 5, 1) := by decide +kernel
theorem d_Mo_find_27 : decode prog_7_method_8_code 27 = .ok (.iload_n 3, 1) := by decide +kernel
theorem d_Mo_find_28 : decode prog_7_method_8_code 28 = .ok (.imul, 1) := by decide +kernel
theorem d_Mo_find_29 : decode prog_7_method_8_code 29 = .ok (.iconst 1, 1) := by decide +kernel
theorem d_Mo_find_30 : decode prog_7_method_8_code 30 = .ok (.iadd, 1) := by decide +kernel
theorem d_Mo_find_31 : decode prog_7_method_8_code 31 = .ok (.iaload, 1) := by decide +kernel
theorem d_Mo_find_32 : decode prog_7_method_8_code 32 = .ok (.iload_n 2, 1) := by decide +kernel
theorem d_Mo_find_33 : decode prog_7_method_8_code 33 = .ok (.if_icmp .ne 7, 3) := by decide +kernel
theorem d_Mo_find_36 : decode prog_7_method_8_code 36 = .ok (.iconst 5, 1) := by decide +kernel
theorem d_Mo_find_37 : decode prog_7_method_8_code 37 = .ok (.iload_n 3, 1) := by decide +kernel
theorem d_Mo_find_38 : decode prog_7_method_8_code 38 = .ok (.imul, 1) := by decide +kernel
theorem d_Mo_find_39 : decode prog_7_method_8_code 39 = .ok (.ireturn, 1) := by decide +kernel
theorem d_Mo_find_40 : decode prog_7_method_8_code 40 = .ok (.iinc 3 1, 3) := by decide +kernel
theorem d_Mo_find_43 : decode prog_7_method_8_code 43 = .ok (.goto (-41), 3) := by decide +kernel
theorem d_Mo_find_46 : decode prog_7_method_8_code 46 = .ok (.iconst (-1), 1) := by decide +kernel
theorem d_Mo_find_47 : decode prog_7_method_8_code 47 = .ok (.ireturn, 1) := by decide +kernel
theorem d_Mo_price_0 : decode prog_7_method_19_code 0 = .ok (.aload_n 0, 1) := by decide +kernel
theorem d_Mo_price_1 : decode prog_7_method_19_code 1 = .ok (.aload_n 0, 1) := by decide +kernel
theorem d_Mo_price_2 : decode prog_7_method_19_code 2 = .ok (.iload_n 1, 1) := by decide +kernel
theorem d_Mo_price_3 : decode prog_7_method_19_code 3 = .ok (.invokevirtual 133, 3) := by decide +kernel
theorem d_Mo_price_6 : decode prog_7_method_19_code 6 = .ok (.ifCond .eq 7, 3) := by decide +kernel
theorem d_Mo_price_9 : decode prog_7_method_19_code 9 = .ok (.iconst 1, 1) := by decide +kernel
theorem d_Mo_price_10 : decode prog_7_method_19_code 10 = .ok (.goto 33, 3) := by decide +kernel
theorem d_Mo_price_13 : decode prog_7_method_19_code 13 = .ok (.iload_n 2, 1) := by decide +kernel
theorem d_Mo_price_14 : decode prog_7_method_19_code 14 = .ok (.iconst 0, 1) := by decide +kernel
theorem d_Mo_price_15 : decode prog_7_method_19_code 15 = .ok (.bipush 9, 2) := by decide +kernel
theorem d_Mo_price_17 : decode prog_7_method_19_code 17 = .ok (.invokestatic 124, 3) := by decide +kernel
theorem d_Mo_price_20 : decode prog_7_method_19_code 20 = .ok (.ifCond .eq 7, 3) := by decide +kernel
theorem d_Mo_price_23 : decode prog_7_method_19_code 23 = .ok (.iconst 2, 1) := by decide +kernel
theorem d_Mo_price_24 : decode prog_7_method_19_code 24 = .ok (.goto 19, 3) := by decide +kernel
theorem d_Mo_price_27 : decode prog_7_method_19_code 27 = .ok (.aload_n 0, 1) := by decide +kernel
theorem d_Mo_price_28 : decode prog_7_method_19_code 28 = .ok (.iload_n 1, 1) := by decide +kernel
theorem d_Mo_price_29 : decode prog_7_method_19_code 29 = .ok (.iload_n 2, 1) := by decide +kernel
theorem d_Mo_price_30 : decode prog_7_method_19_code 30 = .ok (.invokevirtual 137, 3) := by decide +kernel
theorem d_Mo_price_33 : decode prog_7_method_19_code 33 = .ok (.bipush (-2), 2) := by decide +kernel
theorem d_Mo_price_35 : decode prog_7_method_19_code 35 = .ok (.if_icmp .ne 7, 3) := by decide +kernel
theorem d_Mo_price_38 : decode prog_7_method_19_code 38 = .ok (.iconst 3, 1) := by decide +kernel
theorem d_Mo_price_39 : decode prog_7_method_19_code 39 = .ok (.goto 4, 3) := by decide +kernel
theorem d_Mo_price_42 : decode prog_7_method_19_code 42 = .ok (.iconst 0, 1) := by decide +kernel
theorem d_Mo_price_43 : decode prog_7_method_19_code 43 = .ok (.putfield 7, 3) := by decide +kernel
theorem d_Mo_price_46 : decode prog_7_method_19_code 46 = .ok (.aload_n 0, 1) := by decide +kernel
theorem d_Mo_price_47 : decode prog_7_method_19_code 47 = .ok (.getfield 7, 3) := by decide +kernel
theorem d_Mo_price_50 : decode prog_7_method_19_code 50 = .ok (.ifCond .eq 7, 3) := by decide +kernel
theorem d_Mo_price_53 : decode prog_7_method_19_code 53 = .ok (.iconst 0, 1) := by decide +kernel
theorem d_Mo_price_54 : decode prog_7_method_19_code 54 = .ok (.goto 9, 3) := by decide +kernel
theorem d_Mo_price_57 : decode prog_7_method_19_code 57 = .ok (.aload_n 0, 1) := by decide +kernel
theorem d_Mo_price_58 : decode prog_7_method_19_code 58 = .ok (.iload_n 1, 1) := by decide +kernel
theorem d_Mo_price_59 : decode prog_7_method_19_code 59 = .ok (.iload_n 2, 1) := by decide +kernel
theorem d_Mo_price_60 : decode prog_7_method_19_code 60 = .ok (.invokevirtual 137, 3) := by decide +kernel
theorem d_Mo_price_63 : decode prog_7_method_19_code 63 = .ok (.ireturn, 1) := by decide +kernel
theorem d_Mo_priceOf_0 : decode prog_7_method_12_code 0 = .ok (.aload_n 0, 1) := by decide +kernel
theorem d_Mo_priceOf_1 : decode prog_7_method_12_code 1 = .ok (.iload_n 1, 1) := by decide +kernel
theorem d_Mo_priceOf_2 : decode prog_7_method_12_code 2 = .ok (.iload_n 2, 1) := by decide +kernel
theorem d_Mo_priceOf_3 : decode prog_7_method_12_code 3 = .ok (.invokevirtual 113, 3) := by decide +kernel
theorem d_Mo_priceOf_6 : decode prog_7_method_12_code 6 = .ok (.istore_n 3, 1) := by decide +kernel
theorem d_Mo_priceOf_7 : decode prog_7_method_12_code 7 = .ok (.iload_n 3, 1) := by decide +kernel
theorem d_Mo_priceOf_8 : decode prog_7_method_12_code 8 = .ok (.ifCond .ge 6, 3) := by decide +kernel
theorem d_Mo_priceOf_11 : decode prog_7_method_12_code 11 = .ok (.bipush (-2), 2) := by decide +kernel
theorem d_Mo_priceOf_13 : decode prog_7_method_12_code 13 = .ok (.ireturn, 1) := by decide +kernel
theorem d_Mo_priceOf_14 : decode prog_7_method_12_code 14 = .ok (.iconst (-1), 1) := by decide +kernel
theorem d_Mo_priceOf_15 : decode prog_7_method_12_code 15 = .ok (.istore 4, 2) := by decide +kernel
theorem d_Mo_priceOf_17 : decode prog_7_method_12_code 17 = .ok (.iconst 0, 1) := by decide +kernel
theorem d_Mo_priceOf_18 : decode prog_7_method_12_code 18 = .ok (.istore 5, 2) := by decide +kernel
theorem d_Mo_priceOf_20 : decode prog_7_method_12_code 20 = .ok (.iload 5, 2) := by decide +kernel
theorem d_Mo_priceOf_22 : decode prog_7_method_12_code 22 = .ok (.aload_n 0, 1) := by decide +kernel
theorem d_Mo_priceOf_23 : decode prog_7_method_12_code 23 = .ok (.getfield 20, 3) := by decide +kernel
theorem d_Mo_priceOf_26 : decode prog_7_method_12_code 26 = .ok (.if_icmp .ge 91, 3) := by decide +kernel
theorem d_Mo_priceOf_29 : decode prog_7_method_12_code 29 = .ok (.iload 4, 2) := by decide +kernel
theorem d_Mo_priceOf_31 : decode prog_7_method_12_code 31 = .ok (.ifCond .ge 86, 3) := by decide +kernel
theorem d_Mo_priceOf_34 : decode prog_7_method_12_code 34 = .ok (.aload_n 0, 1) := by decide +kernel
theorem d_Mo_priceOf_35 : decode prog_7_method_12_code 35 = .ok (.getfield 23, 3) := by decide +kernel
theorem d_Mo_priceOf_38 : decode prog_7_method_12_code 38 = .ok (.iconst 5, 1) := by decide +kernel
theorem d_Mo_priceOf_39 : decode prog_7_method_12_code 39 = .ok (.iload 5, 2) := by decide +kernel
theorem d_Mo_priceOf_41 : decode prog_7_method_12_code 41 = .ok (.imul, 1) := by decide +kernel
theorem d_Mo_priceOf_42 : decode prog_7_method_12_code 42 = .ok (.iaload, 1) := by decide +kernel
theorem d_Mo_priceOf_43 : decode prog_7_method_12_code 43 = .ok (.bipush 82, 2) := by decide +kernel
theorem d_Mo_priceOf_45 : decode prog_7_method_12_code 45 = .ok (.if_icmp .ne 66, 3) := by decide +kernel
theorem d_Mo_priceOf_48 : decode prog_7_method_12_code 48 = .ok (.aload_n 0, 1) := by decide +kernel
theorem d_Mo_priceOf_49 : decode prog_7_method_12_code 49 = .ok (.getfield 23, 3) := by decide +kernel
theorem d_Mo_priceOf_52 : decode prog_7_method_12_code 52 = .ok (.iconst 5, 1) := by decide +kernel
theorem d_Mo_priceOf_53 : decode prog_7_method_12_code 53 = .ok (.iload 5, 2) := by decide +kernel
theorem d_Mo_priceOf_55 : decode prog_7_method_12_code 55 = .ok (.imul, 1) := by decide +kernel
theorem d_Mo_priceOf_56 : decode prog_7_method_12_code 56 = .ok (.iconst 1, 1) := by decide +kernel
theorem d_Mo_priceOf_57 : decode prog_7_method_12_code 57 = .ok (.iadd, 1) := by decide +kernel
theorem d_Mo_priceOf_58 : decode prog_7_method_12_code 58 = .ok (.iaload, 1) := by decide +kernel
theorem d_Mo_priceOf_59 : decode prog_7_method_12_code 59 = .ok (.iload_n 2, 1) := by decide +kernel
theorem d_Mo_priceOf_60 : decode prog_7_method_12_code 60 = .ok (.if_icmp .ne 51, 3) := by decide +kernel
theorem d_Mo_priceOf_63 : decode prog_7_method_12_code 63 = .ok (.aload_n 0, 1) := by decide +kernel
theorem d_Mo_priceOf_64 : decode prog_7_method_12_code 64 = .ok (.getfield 23, 3) := by decide +kernel
theorem d_Mo_priceOf_67 : decode prog_7_method_12_code 67 = .ok (.iconst 5, 1) := by decide +kernel
theorem d_Mo_priceOf_68 : decode prog_7_method_12_code 68 = .ok (.iload 5, 2) := by decide +kernel
theorem d_Mo_priceOf_70 : decode prog_7_method_12_code 70 = .ok (.imul, 1) := by decide +kernel
theorem d_Mo_priceOf_71 : decode prog_7_method_12_code 71 = .ok (.iconst 2, 1) := by decide +kernel
theorem d_Mo_priceOf_72 : decode prog_7_method_12_code 72 = .ok (.iadd, 1) := by decide +kernel
theorem d_Mo_priceOf_73 : decode prog_7_method_12_code 73 = .ok (.iaload, 1) := by decide +kernel
theorem d_Mo_priceOf_74 : decode prog_7_method_12_code 74 = .ok (.aload_n 0, 1) := by decide +kernel
theorem d_Mo_priceOf_75 : decode prog_7_method_12_code 75 = .ok (.getfield 42, 3) := by decide +kernel
theorem d_Mo_priceOf_78 : decode prog_7_method_12_code 78 = .ok (.iload_n 1, 1) := by decide +kernel
theorem d_Mo_priceOf_79 : decode prog_7_method_12_code 79 = .ok (.iaload, 1) := by decide +kernel
theorem d_Mo_priceOf_80 : decode prog_7_method_12_code 80 = .ok (.if_icmp .ne 31, 3) := by decide +kernel
theorem d_Mo_priceOf_83 : decode prog_7_method_12_code 83 = .ok (.aload_n 0, 1) := by decide +kernel
theorem d_Mo_priceOf_84 : decode prog_7_method_12_code 84 = .ok (.getfield 23, 3) := by decide +kernel
theorem d_Mo_priceOf_87 : decode prog_7_method_12_code 87 = .ok (.iconst 5, 1) := by decide +kernel
theorem d_Mo_priceOf_88 : decode prog_7_method_12_code 88 = .ok (.iload 5, 2) := by decide +kernel
theorem d_Mo_priceOf_90 : decode prog_7_method_12_code 90 = .ok (.imul, 1) := by decide +kernel
theorem d_Mo_priceOf_91 : decode prog_7_method_12_code 91 = .ok (.iconst 3, 1) := by decide +kernel
theorem d_Mo_priceOf_92 : decode prog_7_method_12_code 92 = .ok (.iadd, 1) := by decide +kernel
theorem d_Mo_priceOf_93 : decode prog_7_method_12_code 93 = .ok (.iaload, 1) := by decide +kernel
theorem d_Mo_priceOf_94 : decode prog_7_method_12_code 94 = .ok (.iload_n 3, 1) := by decide +kernel
theorem d_Mo_priceOf_95 : decode prog_7_method_12_code 95 = .ok (.if_icmp .lt 16, 3) := by decide +kernel
theorem d_Mo_priceOf_98 : decode prog_7_method_12_code 98 = .ok (.aload_n 0, 1) := by decide +kernel
theorem d_Mo_priceOf_99 : decode prog_7_method_12_code 99 = .ok (.getfield 23, 3) := by decide +kernel
theorem d_Mo_priceOf_102 : decode prog_7_method_12_code 102 = .ok (.iconst 5, 1) := by decide +kernel
theorem d_Mo_priceOf_103 : decode prog_7_method_12_code 103 = .ok (.iload 5, 2) := by decide +kernel
theorem d_Mo_priceOf_105 : decode prog_7_method_12_code 105 = .ok (.imul, 1) := by decide +kernel
theorem d_Mo_priceOf_106 : decode prog_7_method_12_code 106 = .ok (.iconst 4, 1) := by decide +kernel
theorem d_Mo_priceOf_107 : decode prog_7_method_12_code 107 = .ok (.iadd, 1) := by decide +kernel
theorem d_Mo_priceOf_108 : decode prog_7_method_12_code 108 = .ok (.iaload, 1) := by decide +kernel
theorem d_Mo_priceOf_109 : decode prog_7_method_12_code 109 = .ok (.istore 4, 2) := by decide +kernel
theorem d_Mo_priceOf_111 : decode prog_7_method_12_code 111 = .ok (.iinc 5 1, 3) := by decide +kernel
theorem d_Mo_priceOf_114 : decode prog_7_method_12_code 114 = .ok (.goto (-94), 3) := by decide +kernel
theorem d_Mo_priceOf_117 : decode prog_7_method_12_code 117 = .ok (.iload 4, 2) := by decide +kernel
theorem d_Mo_priceOf_119 : decode prog_7_method_12_code 119 = .ok (.ifCond .ge 5, 3) := by decide +kernel
theorem d_Mo_priceOf_122 : decode prog_7_method_12_code 122 = .ok (.iconst (-1), 1) := by decide +kernel
theorem d_Mo_priceOf_123 : decode prog_7_method_12_code 123 = .ok (.ireturn, 1) := by decide +kernel
theorem d_Mo_priceOf_124 : decode prog_7_method_12_code 124 = .ok (.aload_n 0, 1) := by decide +kernel
theorem d_Mo_priceOf_125 : decode prog_7_method_12_code 125 = .ok (.bipush 70, 2) := by decide +kernel
theorem d_Mo_priceOf_127 : decode prog_7_method_12_code 127 = .ok (.iload_n 2, 1) := by decide +kernel
theorem d_Mo_priceOf_128 : decode prog_7_method_12_code 128 = .ok (.invokevirtual 110, 3) := by decide +kernel
theorem d_Mo_priceOf_131 : decode prog_7_method_12_code 131 = .ok (.istore 5, 2) := by decide +kernel
theorem d_Mo_priceOf_133 : decode prog_7_method_12_code 133 = .ok (.iload 5, 2) := by decide +kernel
theorem d_Mo_priceOf_135 : decode prog_7_method_12_code 135 = .ok (.ifCond .lt 32, 3) := by decide +kernel
theorem d_Mo_priceOf_138 : decode prog_7_method_12_code 138 = .ok (.iload 4, 2) := by decide +kernel
theorem d_Mo_priceOf_140 : decode prog_7_method_12_code 140 = .ok (.iload 4, 2) := by decide +kernel
theorem d_Mo_priceOf_142 : decode prog_7_method_12_code 142 = .ok (.i2l, 1) := by decide +kernel
theorem d_Mo_priceOf_143 : decode prog_7_method_12_code 143 = .ok (.aload_n 0, 1) := by decide +kernel
theorem d_Mo_priceOf_144 : decode prog_7_method_12_code 144 = .ok (.getfield 23, 3) := by decide +kernel
theorem d_Mo_priceOf_147 : decode prog_7_method_12_code 147 = .ok (.iload 5, 2) := by decide +kernel
theorem d_Mo_priceOf_149 : decode prog_7_method_12_code 149 = .ok (.iconst 2, 1) := by decide +kernel
theorem d_Mo_priceOf_150 : decode prog_7_method_12_code 150 = .ok (.iadd, 1) := by decide +kernel
theorem d_Mo_priceOf_151 : decode prog_7_method_12_code 151 = .ok (.iaload, 1) := by decide +kernel
theorem d_Mo_priceOf_152 : decode prog_7_method_12_code 152 = .ok (.aload_n 0, 1) := by decide +kernel
theorem d_Mo_priceOf_153 : decode prog_7_method_12_code 153 = .ok (.getfield 23, 3) := by decide +kernel
theorem d_Mo_priceOf_156 : decode prog_7_method_12_code 156 = .ok (.iload 5, 2) := by decide +kernel
theorem d_Mo_priceOf_158 : decode prog_7_method_12_code 158 = .ok (.iconst 3, 1) := by decide +kernel
theorem d_Mo_priceOf_159 : decode prog_7_method_12_code 159 = .ok (.iadd, 1) := by decide +kernel
theorem d_Mo_priceOf_160 : decode prog_7_method_12_code 160 = .ok (.iaload, 1) := by decide +kernel
theorem d_Mo_priceOf_161 : decode prog_7_method_12_code 161 = .ok (.invokestatic 116, 3) := by decide +kernel
theorem d_Mo_priceOf_164 : decode prog_7_method_12_code 164 = .ok (.iadd, 1) := by decide +kernel
theorem d_Mo_priceOf_165 : decode prog_7_method_12_code 165 = .ok (.istore 4, 2) := by decide +kernel
theorem d_Mo_priceOf_167 : decode prog_7_method_12_code 167 = .ok (.aload_n 0, 1) := by decide +kernel
theorem d_Mo_priceOf_168 : decode prog_7_method_12_code 168 = .ok (.bipush 77, 2) := by decide +kernel
theorem d_Mo_priceOf_170 : decode prog_7_method_12_code 170 = .ok (.iload_n 2, 1) := by decide +kernel
theorem d_Mo_priceOf_171 : decode prog_7_method_12_code 171 = .ok (.invokevirtual 110, 3) := by decide +kernel
theorem d_Mo_priceOf_174 : decode prog_7_method_12_code 174 = .ok (.istore 5, 2) := by decide +kernel
theorem d_Mo_priceOf_176 : decode prog_7_method_12_code 176 = .ok (.iload 5, 2) := by decide +kernel
theorem d_Mo_priceOf_178 : decode prog_7_method_12_code 178 = .ok (.ifCond .lt 28, 3) := by decide +kernel
theorem d_Mo_priceOf_181 : decode prog_7_method_12_code 181 = .ok (.iload 4, 2) := by decide +kernel
theorem d_Mo_priceOf_183 : decode prog_7_method_12_code 183 = .ok (.aload_n 0, 1) := by decide +kernel
theorem d_Mo_priceOf_184 : decode prog_7_method_12_code 184 = .ok (.getfield 23, 3) := by decide +kernel
theorem d_Mo_priceOf_187 : decode prog_7_method_12_code 187 = .ok (.iload 5, 2) := by decide +kernel
theorem d_Mo_priceOf_189 : decode prog_7_method_12_code 189 = .ok (.iconst 2, 1) := by decide +kernel
theorem d_Mo_priceOf_190 : decode prog_7_method_12_code 190 = .ok (.iadd, 1) := by decide +kernel
theorem d_Mo_priceOf_191 : decode prog_7_method_12_code 191 = .ok (.iaload, 1) := by decide +kernel
end
section
theorem d_Mo_priceOf_192 : decode prog_7_method_12_code 192 = .ok (.if_icmp .ge 14, 3) := by decide +kernel
theorem d_Mo_priceOf_195 : decode prog_7_method_12_code 195 = .ok (.aload_n 0, 1) := by decide +kernel
theorem d_Mo_priceOf_196 : decode prog_7_method_12_code 196 = .ok (.getfield 23, 3) := by decide +kernel
theorem d_Mo_priceOf_199 : decode prog_7_method_12_code 199 = .ok (.iload 5, 2) := by decide +kernel
theorem d_Mo_priceOf_201 : decode prog_7_method_12_code 201 = .ok (.iconst 2, 1) := by decide +kernel
theorem d_Mo_priceOf_202 : decode prog_7_method_12_code 202 = .ok (.iadd, 1) := by decide +kernel
theorem d_Mo_priceOf_203 : decode prog_7_method_12_code 203 = .ok (.iaload, 1) := by decide +kernel
theorem d_Mo_priceOf_204 : decode prog_7_method_12_code 204 = .ok (.istore 4, 2) := by decide +kernel
theorem d_Mo_priceOf_206 : decode prog_7_method_12_code 206 = .ok (.iconst (-1), 1) := by decide +kernel
theorem d_Mo_priceOf_207 : decode prog_7_method_12_code 207 = .ok (.istore 6, 2) := by decide +kernel
theorem d_Mo_priceOf_209 : decode prog_7_method_12_code 209 = .ok (.aload_n 0, 1) := by decide +kernel
theorem d_Mo_priceOf_210 : decode prog_7_method_12_code 210 = .ok (.iload_n 2, 1) := by decide +kernel
theorem d_Mo_priceOf_211 : decode prog_7_method_12_code 211 = .ok (.invokevirtual 120, 3) := by decide +kernel
theorem d_Mo_priceOf_214 : decode prog_7_method_12_code 214 = .ok (.istore 7, 2) := by decide +kernel
theorem d_Mo_priceOf_216 : decode prog_7_method_12_code 216 = .ok (.iconst 4, 1) := by decide +kernel
theorem d_Mo_priceOf_217 : decode prog_7_method_12_code 217 = .ok (.iload_n 2, 1) := by decide +kernel
theorem d_Mo_priceOf_218 : decode prog_7_method_12_code 218 = .ok (.imul, 1) := by decide +kernel
theorem d_Mo_priceOf_219 : decode prog_7_method_12_code 219 = .ok (.istore 8, 2) := by decide +kernel
theorem d_Mo_priceOf_221 : decode prog_7_method_12_code 221 = .ok (.iload 8, 2) := by decide +kernel
theorem d_Mo_priceOf_223 : decode prog_7_method_12_code 223 = .ok (.iconst 4, 1) := by decide +kernel
theorem d_Mo_priceOf_224 : decode prog_7_method_12_code 224 = .ok (.iload_n 2, 1) := by decide +kernel
theorem d_Mo_priceOf_225 : decode prog_7_method_12_code 225 = .ok (.imul, 1) := by decide +kernel
theorem d_Mo_priceOf_226 : decode prog_7_method_12_code 226 = .ok (.aload_n 0, 1) := by decide +kernel
theorem d_Mo_priceOf_227 : decode prog_7_method_12_code 227 = .ok (.getfield 60, 3) := by decide +kernel
theorem d_Mo_priceOf_230 : decode prog_7_method_12_code 230 = .ok (.iload_n 2, 1) := by decide +kernel
theorem d_Mo_priceOf_231 : decode prog_7_method_12_code 231 = .ok (.iaload, 1) := by decide +kernel
theorem d_Mo_priceOf_232 : decode prog_7_method_12_code 232 = .ok (.iadd, 1) := by decide +kernel
theorem d_Mo_priceOf_233 : decode prog_7_method_12_code 233 = .ok (.if_icmp .ge 47, 3) := by decide +kernel
theorem d_Mo_priceOf_236 : decode prog_7_method_12_code 236 = .ok (.aload_n 0, 1) := by decide +kernel
theorem d_Mo_priceOf_237 : decode prog_7_method_12_code 237 = .ok (.getfield 63, 3) := by decide +kernel
theorem d_Mo_priceOf_240 : decode prog_7_method_12_code 240 = .ok (.iload 8, 2) := by decide +kernel
theorem d_Mo_priceOf_242 : decode prog_7_method_12_code 242 = .ok (.iaload, 1) := by decide +kernel
theorem d_Mo_priceOf_243 : decode prog_7_method_12_code 243 = .ok (.iload 7, 2) := by decide +kernel
theorem d_Mo_priceOf_245 : decode prog_7_method_12_code 245 = .ok (.if_icmp .gt 29, 3) := by decide +kernel
theorem d_Mo_priceOf_248 : decode prog_7_method_12_code 248 = .ok (.iload 6, 2) := by decide +kernel
theorem d_Mo_priceOf_250 : decode prog_7_method_12_code 250 = .ok (.ifCond .lt 20, 3) := by decide +kernel
theorem d_Mo_priceOf_253 : decode prog_7_method_12_code 253 = .ok (.aload_n 0, 1) := by decide +kernel
theorem d_Mo_priceOf_254 : decode prog_7_method_12_code 254 = .ok (.getfield 63, 3) := by decide +kernel
theorem d_Mo_priceOf_257 : decode prog_7_method_12_code 257 = .ok (.iload 8, 2) := by decide +kernel
theorem d_Mo_priceOf_259 : decode prog_7_method_12_code 259 = .ok (.iaload, 1) := by decide +kernel
theorem d_Mo_priceOf_260 : decode prog_7_method_12_code 260 = .ok (.aload_n 0, 1) := by decide +kernel
theorem d_Mo_priceOf_261 : decode prog_7_method_12_code 261 = .ok (.getfield 63, 3) := by decide +kernel
theorem d_Mo_priceOf_264 : decode prog_7_method_12_code 264 = .ok (.iload 6, 2) := by decide +kernel
theorem d_Mo_priceOf_266 : decode prog_7_method_12_code 266 = .ok (.iaload, 1) := by decide +kernel
theorem d_Mo_priceOf_267 : decode prog_7_method_12_code 267 = .ok (.if_icmp .le 7, 3) := by decide +kernel
theorem d_Mo_priceOf_270 : decode prog_7_method_12_code 270 = .ok (.iload 8, 2) := by decide +kernel
theorem d_Mo_priceOf_272 : decode prog_7_method_12_code 272 = .ok (.istore 6, 2) := by decide +kernel
theorem d_Mo_priceOf_274 : decode prog_7_method_12_code 274 = .ok (.iinc 8 1, 3) := by decide +kernel
theorem d_Mo_priceOf_277 : decode prog_7_method_12_code 277 = .ok (.goto (-56), 3) := by decide +kernel
theorem d_Mo_priceOf_280 : decode prog_7_method_12_code 280 = .ok (.iload 6, 2) := by decide +kernel
theorem d_Mo_priceOf_282 : decode prog_7_method_12_code 282 = .ok (.ifCond .ge 8, 3) := by decide +kernel
theorem d_Mo_priceOf_285 : decode prog_7_method_12_code 285 = .ok (.iload 4, 2) := by decide +kernel
theorem d_Mo_priceOf_287 : decode prog_7_method_12_code 287 = .ok (.goto 23, 3) := by decide +kernel
theorem d_Mo_priceOf_290 : decode prog_7_method_12_code 290 = .ok (.iload 4, 2) := by decide +kernel
theorem d_Mo_priceOf_292 : decode prog_7_method_12_code 292 = .ok (.i2l, 1) := by decide +kernel
theorem d_Mo_priceOf_293 : decode prog_7_method_12_code 293 = .ok (.aload_n 0, 1) := by decide +kernel
theorem d_Mo_priceOf_294 : decode prog_7_method_12_code 294 = .ok (.getfield 66, 3) := by decide +kernel
theorem d_Mo_priceOf_297 : decode prog_7_method_12_code 297 = .ok (.iload 6, 2) := by decide +kernel
theorem d_Mo_priceOf_299 : decode prog_7_method_12_code 299 = .ok (.iaload, 1) := by decide +kernel
theorem d_Mo_priceOf_300 : decode prog_7_method_12_code 300 = .ok (.aload_n 0, 1) := by decide +kernel
theorem d_Mo_priceOf_301 : decode prog_7_method_12_code 301 = .ok (.getfield 69, 3) := by decide +kernel
theorem d_Mo_priceOf_304 : decode prog_7_method_12_code 304 = .ok (.iload 6, 2) := by decide +kernel
theorem d_Mo_priceOf_306 : decode prog_7_method_12_code 306 = .ok (.iaload, 1) := by decide +kernel
theorem d_Mo_priceOf_307 : decode prog_7_method_12_code 307 = .ok (.invokestatic 116, 3) := by decide +kernel
theorem d_Mo_priceOf_310 : decode prog_7_method_12_code 310 = .ok (.ireturn, 1) := by decide +kernel
theorem d_Mo_part_0 : decode prog_7_method_9_code 0 = .ok (.lload_n 0, 1) := by decide +kernel
theorem d_Mo_part_1 : decode prog_7_method_9_code 1 = .ok (.iload_n 2, 1) := by decide +kernel
theorem d_Mo_part_2 : decode prog_7_method_9_code 2 = .ok (.i2l, 1) := by decide +kernel
theorem d_Mo_part_3 : decode prog_7_method_9_code 3 = .ok (.lmul, 1) := by decide +kernel
theorem d_Mo_part_4 : decode prog_7_method_9_code 4 = .ok (.iload_n 3, 1) := by decide +kernel
theorem d_Mo_part_5 : decode prog_7_method_9_code 5 = .ok (.i2l, 1) := by decide +kernel
theorem d_Mo_part_6 : decode prog_7_method_9_code 6 = .ok (.ladd, 1) := by decide +kernel
theorem d_Mo_part_7 : decode prog_7_method_9_code 7 = .ok (.lconst 1, 1) := by decide +kernel
theorem d_Mo_part_8 : decode prog_7_method_9_code 8 = .ok (.lsub, 1) := by decide +kernel
theorem d_Mo_part_9 : decode prog_7_method_9_code 9 = .ok (.iload_n 3, 1) := by decide +kernel
theorem d_Mo_part_10 : decode prog_7_method_9_code 10 = .ok (.i2l, 1) := by decide +kernel
theorem d_Mo_part_11 : decode prog_7_method_9_code 11 = .ok (.ldiv, 1) := by decide +kernel
theorem d_Mo_part_12 : decode prog_7_method_9_code 12 = .ok (.l2i, 1) := by decide +kernel
theorem d_Mo_part_13 : decode prog_7_method_9_code 13 = .ok (.ireturn, 1) := by decide +kernel
theorem d_Mo_booked_0 : decode prog_7_method_11_code 0 = .ok (.iconst 0, 1) := by decide +kernel
theorem d_Mo_booked_1 : decode prog_7_method_11_code 1 = .ok (.istore_n 2, 1) := by decide +kernel
theorem d_Mo_booked_2 : decode prog_7_method_11_code 2 = .ok (.iconst 0, 1) := by decide +kernel
theorem d_Mo_booked_3 : decode prog_7_method_11_code 3 = .ok (.istore_n 3, 1) := by decide +kernel
theorem d_Mo_booked_4 : decode prog_7_method_11_code 4 = .ok (.iload_n 3, 1) := by decide +kernel
theorem d_Mo_booked_5 : decode prog_7_method_11_code 5 = .ok (.aload_n 0, 1) := by decide +kernel
theorem d_Mo_booked_6 : decode prog_7_method_11_code 6 = .ok (.getfield 35, 3) := by decide +kernel
theorem d_Mo_booked_9 : decode prog_7_method_11_code 9 = .ok (.if_icmp .ge 36, 3) := by decide +kernel
theorem d_Mo_booked_12 : decode prog_7_method_11_code 12 = .ok (.iload_n 2, 1) := by decide +kernel
theorem d_Mo_booked_13 : decode prog_7_method_11_code 13 = .ok (.aload_n 0, 1) := by decide +kernel
theorem d_Mo_booked_14 : decode prog_7_method_11_code 14 = .ok (.getfield 38, 3) := by decide +kernel
theorem d_Mo_booked_17 : decode prog_7_method_11_code 17 = .ok (.iload_n 3, 1) := by decide +kernel
theorem d_Mo_booked_18 : decode prog_7_method_11_code 18 = .ok (.baload, 1) := by decide +kernel
theorem d_Mo_booked_19 : decode prog_7_method_11_code 19 = .ok (.ifCond .ne 17, 3) := by decide +kernel
theorem d_Mo_booked_22 : decode prog_7_method_11_code 22 = .ok (.aload_n 0, 1) := by decide +kernel
theorem d_Mo_booked_23 : decode prog_7_method_11_code 23 = .ok (.getfield 51, 3) := by decide +kernel
theorem d_Mo_booked_26 : decode prog_7_method_11_code 26 = .ok (.iload_n 3, 1) := by decide +kernel
theorem d_Mo_booked_27 : decode prog_7_method_11_code 27 = .ok (.iaload, 1) := by decide +kernel
theorem d_Mo_booked_28 : decode prog_7_method_11_code 28 = .ok (.iload_n 1, 1) := by decide +kernel
theorem d_Mo_booked_29 : decode prog_7_method_11_code 29 = .ok (.if_icmp .ne 7, 3) := by decide +kernel
theorem d_Mo_booked_32 : decode prog_7_method_11_code 32 = .ok (.iconst 1, 1) := by decide +kernel
theorem d_Mo_booked_33 : decode prog_7_method_11_code 33 = .ok (.goto 4, 3) := by decide +kernel
theorem d_Mo_booked_36 : decode prog_7_method_11_code 36 = .ok (.iconst 0, 1) := by decide +kernel
theorem d_Mo_booked_37 : decode prog_7_method_11_code 37 = .ok (.iadd, 1) := by decide +kernel
theorem d_Mo_booked_38 : decode prog_7_method_11_code 38 = .ok (.istore_n 2, 1) := by decide +kernel
theorem d_Mo_booked_39 : decode prog_7_method_11_code 39 = .ok (.iinc 3 1, 3) := by decide +kernel
theorem d_Mo_booked_42 : decode prog_7_method_11_code 42 = .ok (.goto (-38), 3) := by decide +kernel
theorem d_Mo_booked_45 : decode prog_7_method_11_code 45 = .ok (.iload_n 2, 1) := by decide +kernel
theorem d_Mo_booked_46 : decode prog_7_method_11_code 46 = .ok (.ireturn, 1) := by decide +kernel
theorem d_Mo_cheapest_0 : decode prog_7_method_20_code 0 = .ok (.aload_n 0, 1) := by decide +kernel
theorem d_Mo_cheapest_1 : decode prog_7_method_20_code 1 = .ok (.aload_n 0, 1) := by decide +kernel
theorem d_Mo_cheapest_2 : decode prog_7_method_20_code 2 = .ok (.iload_n 1, 1) := by decide +kernel
theorem d_Mo_cheapest_3 : decode prog_7_method_20_code 3 = .ok (.invokevirtual 133, 3) := by decide +kernel
theorem d_Mo_cheapest_6 : decode prog_7_method_20_code 6 = .ok (.ifCond .eq 7, 3) := by decide +kernel
theorem d_Mo_cheapest_9 : decode prog_7_method_20_code 9 = .ok (.iconst 1, 1) := by decide +kernel
theorem d_Mo_cheapest_10 : decode prog_7_method_20_code 10 = .ok (.goto 4, 3) := by decide +kernel
theorem d_Mo_cheapest_13 : decode prog_7_method_20_code 13 = .ok (.iconst 0, 1) := by decide +kernel
theorem d_Mo_cheapest_14 : decode prog_7_method_20_code 14 = .ok (.putfield 7, 3) := by decide +kernel
theorem d_Mo_cheapest_17 : decode prog_7_method_20_code 17 = .ok (.aload_n 0, 1) := by decide +kernel
theorem d_Mo_cheapest_18 : decode prog_7_method_20_code 18 = .ok (.getfield 7, 3) := by decide +kernel
theorem d_Mo_cheapest_21 : decode prog_7_method_20_code 21 = .ok (.ifCond .eq 5, 3) := by decide +kernel
theorem d_Mo_cheapest_24 : decode prog_7_method_20_code 24 = .ok (.iconst 0, 1) := by decide +kernel
theorem d_Mo_cheapest_25 : decode prog_7_method_20_code 25 = .ok (.ireturn, 1) := by decide +kernel
theorem d_Mo_cheapest_26 : decode prog_7_method_20_code 26 = .ok (.iconst (-1), 1) := by decide +kernel
theorem d_Mo_cheapest_27 : decode prog_7_method_20_code 27 = .ok (.istore_n 2, 1) := by decide +kernel
theorem d_Mo_cheapest_28 : decode prog_7_method_20_code 28 = .ok (.iconst 0, 1) := by decide +kernel
theorem d_Mo_cheapest_29 : decode prog_7_method_20_code 29 = .ok (.istore_n 3, 1) := by decide +kernel
theorem d_Mo_cheapest_30 : decode prog_7_method_20_code 30 = .ok (.iload_n 3, 1) := by decide +kernel
theorem d_Mo_cheapest_31 : decode prog_7_method_20_code 31 = .ok (.bipush 10, 2) := by decide +kernel
theorem d_Mo_cheapest_33 : decode prog_7_method_20_code 33 = .ok (.if_icmp .ge 39, 3) := by decide +kernel
theorem d_Mo_cheapest_36 : decode prog_7_method_20_code 36 = .ok (.aload_n 0, 1) := by decide +kernel
theorem d_Mo_cheapest_37 : decode prog_7_method_20_code 37 = .ok (.iload_n 1, 1) := by decide +kernel
theorem d_Mo_cheapest_38 : decode prog_7_method_20_code 38 = .ok (.iload_n 3, 1) := by decide +kernel
theorem d_Mo_cheapest_39 : decode prog_7_method_20_code 39 = .ok (.invokevirtual 137, 3) := by decide +kernel
theorem d_Mo_cheapest_42 : decode prog_7_method_20_code 42 = .ok (.istore 4, 2) := by decide +kernel
theorem d_Mo_cheapest_44 : decode prog_7_method_20_code 44 = .ok (.iload 4, 2) := by decide +kernel
theorem d_Mo_cheapest_46 : decode prog_7_method_20_code 46 = .ok (.ifCond .lt 20, 3) := by decide +kernel
theorem d_Mo_cheapest_49 : decode prog_7_method_20_code 49 = .ok (.iload_n 2, 1) := by decide +kernel
theorem d_Mo_cheapest_50 : decode prog_7_method_20_code 50 = .ok (.ifCond .lt 14, 3) := by decide +kernel
theorem d_Mo_cheapest_53 : decode prog_7_method_20_code 53 = .ok (.iload 4, 2) := by decide +kernel
theorem d_Mo_cheapest_55 : decode prog_7_method_20_code 55 = .ok (.aload_n 0, 1) := by decide +kernel
theorem d_Mo_cheapest_56 : decode prog_7_method_20_code 56 = .ok (.iload_n 1, 1) := by decide +kernel
theorem d_Mo_cheapest_57 : decode prog_7_method_20_code 57 = .ok (.iload_n 2, 1) := by decide +kernel
theorem d_Mo_cheapest_58 : decode prog_7_method_20_code 58 = .ok (.invokevirtual 137, 3) := by decide +kernel
theorem d_Mo_cheapest_61 : decode prog_7_method_20_code 61 = .ok (.if_icmp .ge 5, 3) := by decide +kernel
theorem d_Mo_cheapest_64 : decode prog_7_method_20_code 64 = .ok (.iload_n 3, 1) := by decide +kernel
theorem d_Mo_cheapest_65 : decode prog_7_method_20_code 65 = .ok (.istore_n 2, 1) := by decide +kernel
theorem d_Mo_cheapest_66 : decode prog_7_method_20_code 66 = .ok (.iinc 3 1, 3) := by decide +kernel
theorem d_Mo_cheapest_69 : decode prog_7_method_20_code 69 = .ok (.goto (-39), 3) := by decide +kernel
theorem d_Mo_cheapest_72 : decode prog_7_method_20_code 72 = .ok (.iload_n 2, 1) := by decide +kernel
theorem d_Mo_cheapest_73 : decode prog_7_method_20_code 73 = .ok (.ireturn, 1) := by decide +kernel
theorem d_Mo_parcels_0 : decode prog_7_method_21_code 0 = .ok (.aload_n 0, 1) := by decide +kernel
theorem d_Mo_parcels_1 : decode prog_7_method_21_code 1 = .ok (.aload_n 0, 1) := by decide +kernel
theorem d_Mo_parcels_2 : decode prog_7_method_21_code 2 = .ok (.iload_n 1, 1) := by decide +kernel
theorem d_Mo_parcels_3 : decode prog_7_method_21_code 3 = .ok (.invokevirtual 133, 3) := by decide +kernel
theorem d_Mo_parcels_6 : decode prog_7_method_21_code 6 = .ok (.ifCond .eq 7, 3) := by decide +kernel
theorem d_Mo_parcels_9 : decode prog_7_method_21_code 9 = .ok (.iconst 1, 1) := by decide +kernel
theorem d_Mo_parcels_10 : decode prog_7_method_21_code 10 = .ok (.goto 18, 3) := by decide +kernel
theorem d_Mo_parcels_13 : decode prog_7_method_21_code 13 = .ok (.iload_n 2, 1) := by decide +kernel
theorem d_Mo_parcels_14 : decode prog_7_method_21_code 14 = .ok (.iconst 0, 1) := by decide +kernel
theorem d_Mo_parcels_15 : decode prog_7_method_21_code 15 = .ok (.bipush 9, 2) := by decide +kernel
theorem d_Mo_parcels_17 : decode prog_7_method_21_code 17 = .ok (.invokestatic 124, 3) := by decide +kernel
theorem d_Mo_parcels_20 : decode prog_7_method_21_code 20 = .ok (.ifCond .eq 7, 3) := by decide +kernel
theorem d_Mo_parcels_23 : decode prog_7_method_21_code 23 = .ok (.iconst 2, 1) := by decide +kernel
theorem d_Mo_parcels_24 : decode prog_7_method_21_code 24 = .ok (.goto 4, 3) := by decide +kernel
theorem d_Mo_parcels_27 : decode prog_7_method_21_code 27 = .ok (.iconst 0, 1) := by decide +kernel
theorem d_Mo_parcels_28 : decode prog_7_method_21_code 28 = .ok (.putfield 7, 3) := by decide +kernel
theorem d_Mo_parcels_31 : decode prog_7_method_21_code 31 = .ok (.aload_n 0, 1) := by decide +kernel
theorem d_Mo_parcels_32 : decode prog_7_method_21_code 32 = .ok (.getfield 7, 3) := by decide +kernel
theorem d_Mo_parcels_35 : decode prog_7_method_21_code 35 = .ok (.ifCond .eq 5, 3) := by decide +kernel
theorem d_Mo_parcels_38 : decode prog_7_method_21_code 38 = .ok (.iconst 0, 1) := by decide +kernel
theorem d_Mo_parcels_39 : decode prog_7_method_21_code 39 = .ok (.ireturn, 1) := by decide +kernel
theorem d_Mo_parcels_40 : decode prog_7_method_21_code 40 = .ok (.iconst 1, 1) := by decide +kernel
theorem d_Mo_parcels_41 : decode prog_7_method_21_code 41 = .ok (.istore_n 3, 1) := by decide +kernel
theorem d_Mo_parcels_42 : decode prog_7_method_21_code 42 = .ok (.aload_n 0, 1) := by decide +kernel
theorem d_Mo_parcels_43 : decode prog_7_method_21_code 43 = .ok (.getfield 84, 3) := by decide +kernel
theorem d_Mo_parcels_46 : decode prog_7_method_21_code 46 = .ok (.iconst 0, 1) := by decide +kernel
theorem d_Mo_parcels_47 : decode prog_7_method_21_code 47 = .ok (.iconst 0, 1) := by decide +kernel
theorem d_Mo_parcels_48 : decode prog_7_method_21_code 48 = .ok (.iastore, 1) := by decide +kernel
theorem d_Mo_parcels_49 : decode prog_7_method_21_code 49 = .ok (.aload_n 0, 1) := by decide +kernel
theorem d_Mo_parcels_50 : decode prog_7_method_21_code 50 = .ok (.getfield 87, 3) := by decide +kernel
theorem d_Mo_parcels_53 : decode prog_7_method_21_code 53 = .ok (.iconst 0, 1) := by decide +kernel
theorem d_Mo_parcels_54 : decode prog_7_method_21_code 54 = .ok (.iconst 0, 1) := by decide +kernel
theorem d_Mo_parcels_55 : decode prog_7_method_21_code 55 = .ok (.iastore, 1) := by decide +kernel
theorem d_Mo_parcels_56 : decode prog_7_method_21_code 56 = .ok (.aload_n 0, 1) := by decide +kernel
theorem d_Mo_parcels_57 : decode prog_7_method_21_code 57 = .ok (.getfield 90, 3) := by decide +kernel
theorem d_Mo_parcels_60 : decode prog_7_method_21_code 60 = .ok (.iconst 0, 1) := by decide +kernel
theorem d_Mo_parcels_61 : decode prog_7_method_21_code 61 = .ok (.iconst 0, 1) := by decide +kernel
theorem d_Mo_parcels_62 : decode prog_7_method_21_code 62 = .ok (.iastore, 1) := by decide +kernel
theorem d_Mo_parcels_63 : decode prog_7_method_21_code 63 = .ok (.iconst 0, 1) := by decide +kernel
theorem d_Mo_parcels_64 : decode prog_7_method_21_code 64 = .ok (.istore 4, 2) := by decide +kernel
theorem d_Mo_parcels_66 : decode prog_7_method_21_code 66 = .ok (.iconst 0, 1) := by decide +kernel
theorem d_Mo_parcels_67 : decode prog_7_method_21_code 67 = .ok (.istore 5, 2) := by decide +kernel
theorem d_Mo_parcels_69 : decode prog_7_method_21_code 69 = .ok (.iload 5, 2) := by decide +kernel
theorem d_Mo_parcels_71 : decode prog_7_method_21_code 71 = .ok (.aload_n 0, 1) := by decide +kernel
theorem d_Mo_parcels_72 : decode prog_7_method_21_code 72 = .ok (.getfield 20, 3) := by decide +kernel
theorem d_Mo_parcels_75 : decode prog_7_method_21_code 75 = .ok (.if_icmp .ge 113, 3) := by decide +kernel
theorem d_Mo_parcels_78 : decode prog_7_method_21_code 78 = .ok (.aload_n 0, 1) := by decide +kernel
theorem d_Mo_parcels_79 : decode prog_7_method_21_code 79 = .ok (.getfield 23, 3) := by decide +kernel
theorem d_Mo_parcels_82 : decode prog_7_method_21_code 82 = .ok (.iconst 5, 1) := by decide +kernel
theorem d_Mo_parcels_83 : decode prog_7_method_21_code 83 = .ok (.iload 5, 2) := by decide +kernel
theorem d_Mo_parcels_85 : decode prog_7_method_21_code 85 = .ok (.imul, 1) := by decide +kernel
theorem d_Mo_parcels_86 : decode prog_7_method_21_code 86 = .ok (.iaload, 1) := by decide +kernel
theorem d_Mo_parcels_87 : decode prog_7_method_21_code 87 = .ok (.bipush 82, 2) := by decide +kernel
theorem d_Mo_parcels_89 : decode prog_7_method_21_code 89 = .ok (.if_icmp .ne 93, 3) := by decide +kernel
theorem d_Mo_parcels_92 : decode prog_7_method_21_code 92 = .ok (.aload_n 0, 1) := by decide +kernel
theorem d_Mo_parcels_93 : decode prog_7_method_21_code 93 = .ok (.getfield 23, 3) := by decide +kernel
theorem d_Mo_parcels_96 : decode prog_7_method_21_code 96 = .ok (.iconst 5, 1) := by decide +kernel
theorem d_Mo_parcels_97 : decode prog_7_method_21_code 97 = .ok (.iload 5, 2) := by decide +kernel
theorem d_Mo_parcels_99 : decode prog_7_method_21_code 99 = .ok (.imul, 1) := by decide +kernel
theorem d_Mo_parcels_100 : decode prog_7_method_21_code 100 = .ok (.iconst 1, 1) := by decide +kernel
theorem d_Mo_parcels_101 : decode prog_7_method_21_code 101 = .ok (.iadd, 1) := by decide +kernel
theorem d_Mo_parcels_102 : decode prog_7_method_21_code 102 = .ok (.iaload, 1) := by decide +kernel
theorem d_Mo_parcels_103 : decode prog_7_method_21_code 103 = .ok (.iload_n 2, 1) := by decide +kernel
theorem d_Mo_parcels_104 : decode prog_7_method_21_code 104 = .ok (.if_icmp .ne 78, 3) := by decide +kernel
theorem d_Mo_parcels_107 : decode prog_7_method_21_code 107 = .ok (.aload_n 0, 1) := by decide +kernel
theorem d_Mo_parcels_108 : decode prog_7_method_21_code 108 = .ok (.getfield 23, 3) := by decide +kernel
theorem d_Mo_parcels_111 : decode prog_7_method_21_code 111 = .ok (.iconst 5, 1) := by decide +kernel
theorem d_Mo_parcels_112 : decode prog_7_method_21_code 112 = .ok (.iload 5, 2) := by decide +kernel
theorem d_Mo_parcels_114 : decode prog_7_method_21_code 114 = .ok (.imul, 1) := by decide +kernel
theorem d_Mo_parcels_115 : decode prog_7_method_21_code 115 = .ok (.iconst 2, 1) := by decide +kernel
theorem d_Mo_parcels_116 : decode prog_7_method_21_code 116 = .ok (.iadd, 1) := by decide +kernel
theorem d_Mo_parcels_117 : decode prog_7_method_21_code 117 = .ok (.iaload, 1) := by decide +kernel
theorem d_Mo_parcels_118 : decode prog_7_method_21_code 118 = .ok (.aload_n 0, 1) := by decide +kernel
theorem d_Mo_parcels_119 : decode prog_7_method_21_code 119 = .ok (.getfield 42, 3) := by decide +kernel
theorem d_Mo_parcels_122 : decode prog_7_method_21_code 122 = .ok (.iload_n 1, 1) := by decide +kernel
theorem d_Mo_parcels_123 : decode prog_7_method_21_code 123 = .ok (.iaload, 1) := by decide +kernel
theorem d_Mo_parcels_124 : decode prog_7_method_21_code 124 = .ok (.if_icmp .ne 58, 3) := by decide +kernel
theorem d_Mo_parcels_127 : decode prog_7_method_21_code 127 = .ok (.aload_n 0, 1) := by decide +kernel
theorem d_Mo_parcels_128 : decode prog_7_method_21_code 128 = .ok (.getfield 84, 3) := by decide +kernel
theorem d_Mo_parcels_131 : decode prog_7_method_21_code 131 = .ok (.iload_n 3, 1) := by decide +kernel
theorem d_Mo_parcels_132 : decode prog_7_method_21_code 132 = .ok (.iload 4, 2) := by decide +kernel
theorem d_Mo_parcels_134 : decode prog_7_method_21_code 134 = .ok (.iconst 1, 1) := by decide +kernel
theorem d_Mo_parcels_135 : decode prog_7_method_21_code 135 = .ok (.iadd, 1) := by decide +kernel
theorem d_Mo_parcels_136 : decode prog_7_method_21_code 136 = .ok (.iastore, 1) := by decide +kernel
theorem d_Mo_parcels_137 : decode prog_7_method_21_code 137 = .ok (.aload_n 0, 1) := by decide +kernel
theorem d_Mo_parcels_138 : decode prog_7_method_21_code 138 = .ok (.getfield 87, 3) := by decide +kernel
theorem d_Mo_parcels_141 : decode prog_7_method_21_code 141 = .ok (.iload_n 3, 1) := by decide +kernel
theorem d_Mo_parcels_142 : decode prog_7_method_21_code 142 = .ok (.aload_n 0, 1) := by decide +kernel
theorem d_Mo_parcels_143 : decode prog_7_method_21_code 143 = .ok (.getfield 23, 3) := by decide +kernel
theorem d_Mo_parcels_146 : decode prog_7_method_21_code 146 = .ok (.iconst 5, 1) := by decide +kernel
theorem d_Mo_parcels_147 : decode prog_7_method_21_code 147 = .ok (.iload 5, 2) := by decide +kernel
theorem d_Mo_parcels_149 : decode prog_7_method_21_code 149 = .ok (.imul, 1) := by decide +kernel
theorem d_Mo_parcels_150 : decode prog_7_method_21_code 150 = .ok (.iconst 3, 1) := by decide +kernel
theorem d_Mo_parcels_151 : decode prog_7_method_21_code 151 = .ok (.iadd, 1) := by decide +kernel
theorem d_Mo_parcels_152 : decode prog_7_method_21_code 152 = .ok (.iaload, 1) := by decide +kernel
theorem d_Mo_parcels_153 : decode prog_7_method_21_code 153 = .ok (.iastore, 1) := by decide +kernel
theorem d_Mo_parcels_154 : decode prog_7_method_21_code 154 = .ok (.aload_n 0, 1) := by decide +kernel
theorem d_Mo_parcels_155 : decode prog_7_method_21_code 155 = .ok (.getfield 90, 3) := by decide +kernel
theorem d_Mo_parcels_158 : decode prog_7_method_21_code 158 = .ok (.iload_n 3, 1) := by decide +kernel
theorem d_Mo_parcels_159 : decode prog_7_method_21_code 159 = .ok (.aload_n 0, 1) := by decide +kernel
theorem d_Mo_parcels_160 : decode prog_7_method_21_code 160 = .ok (.getfield 23, 3) := by decide +kernel
theorem d_Mo_parcels_163 : decode prog_7_method_21_code 163 = .ok (.iconst 5, 1) := by decide +kernel
theorem d_Mo_parcels_164 : decode prog_7_method_21_code 164 = .ok (.iload 5, 2) := by decide +kernel
theorem d_Mo_parcels_166 : decode prog_7_method_21_code 166 = .ok (.imul, 1) := by decide +kernel
theorem d_Mo_parcels_167 : decode prog_7_method_21_code 167 = .ok (.iconst 4, 1) := by decide +kernel
theorem d_Mo_parcels_168 : decode prog_7_method_21_code 168 = .ok (.iadd, 1) := by decide +kernel
theorem d_Mo_parcels_169 : decode prog_7_method_21_code 169 = .ok (.iaload, 1) := by decide +kernel
theorem d_Mo_parcels_170 : decode prog_7_method_21_code 170 = .ok (.iastore, 1) := by decide +kernel
theorem d_Mo_parcels_171 : decode prog_7_method_21_code 171 = .ok (.aload_n 0, 1) := by decide +kernel
theorem d_Mo_parcels_172 : decode prog_7_method_21_code 172 = .ok (.getfield 87, 3) := by decide +kernel
theorem d_Mo_parcels_175 : decode prog_7_method_21_code 175 = .ok (.iload_n 3, 1) := by decide +kernel
theorem d_Mo_parcels_176 : decode prog_7_method_21_code 176 = .ok (.iaload, 1) := by decide +kernel
theorem d_Mo_parcels_177 : decode prog_7_method_21_code 177 = .ok (.istore 4, 2) := by decide +kernel
theorem d_Mo_parcels_179 : decode prog_7_method_21_code 179 = .ok (.iinc 3 1, 3) := by decide +kernel
theorem d_Mo_parcels_182 : decode prog_7_method_21_code 182 = .ok (.iinc 5 1, 3) := by decide +kernel
theorem d_Mo_parcels_185 : decode prog_7_method_21_code 185 = .ok (.goto (-116), 3) := by decide +kernel
theorem d_Mo_parcels_188 : decode prog_7_method_21_code 188 = .ok (.iconst (-1), 1) := by decide +kernel
theorem d_Mo_parcels_189 : decode prog_7_method_21_code 189 = .ok (.istore 5, 2) := by decide +kernel
theorem d_Mo_parcels_191 : decode prog_7_method_21_code 191 = .ok (.iconst 1, 1) := by decide +kernel
theorem d_Mo_parcels_192 : decode prog_7_method_21_code 192 = .ok (.istore 6, 2) := by decide +kernel
theorem d_Mo_parcels_194 : decode prog_7_method_21_code 194 = .ok (.iload 6, 2) := by decide +kernel
theorem d_Mo_parcels_196 : decode prog_7_method_21_code 196 = .ok (.iload_n 3, 1) := by decide +kernel
theorem d_Mo_parcels_197 : decode prog_7_method_21_code 197 = .ok (.if_icmp .ge 156, 3) := by decide +kernel
theorem d_Mo_parcels_200 : decode prog_7_method_21_code 200 = .ok (.iconst 0, 1) := by decide +kernel
theorem d_Mo_parcels_201 : decode prog_7_method_21_code 201 = .ok (.istore 7, 2) := by decide +kernel
theorem d_Mo_parcels_203 : decode prog_7_method_21_code 203 = .ok (.iload 7, 2) := by decide +kernel
theorem d_Mo_parcels_205 : decode prog_7_method_21_code 205 = .ok (.iload_n 3, 1) := by decide +kernel
theorem d_Mo_parcels_206 : decode prog_7_method_21_code 206 = .ok (.if_icmp .ge 141, 3) := by decide +kernel
theorem d_Mo_parcels_209 : decode prog_7_method_21_code 209 = .ok (.iconst 0, 1) := by decide +kernel
theorem d_Mo_parcels_210 : decode prog_7_method_21_code 210 = .ok (.istore 8, 2) := by decide +kernel
theorem d_Mo_parcels_212 : decode prog_7_method_21_code 212 = .ok (.iload 8, 2) := by decide +kernel
theorem d_Mo_parcels_214 : decode prog_7_method_21_code 214 = .ok (.iload_n 3, 1) := by decide +kernel
theorem d_Mo_parcels_215 : decode prog_7_method_21_code 215 = .ok (.if_icmp .ge 126, 3) := by decide +kernel
theorem d_Mo_parcels_218 : decode prog_7_method_21_code 218 = .ok (.aload_n 0, 1) := by decide +kernel
theorem d_Mo_parcels_219 : decode prog_7_method_21_code 219 = .ok (.getfield 84, 3) := by decide +kernel
theorem d_Mo_parcels_222 : decode prog_7_method_21_code 222 = .ok (.iload 6, 2) := by decide +kernel
theorem d_Mo_parcels_224 : decode prog_7_method_21_code 224 = .ok (.iaload, 1) := by decide +kernel
theorem d_Mo_parcels_225 : decode prog_7_method_21_code 225 = .ok (.aload_n 0, 1) := by decide +kernel
theorem d_Mo_parcels_226 : decode prog_7_method_21_code 226 = .ok (.getfield 84, 3) := by decide +kernel
theorem d_Mo_parcels_229 : decode prog_7_method_21_code 229 = .ok (.iload 7, 2) := by decide +kernel
theorem d_Mo_parcels_231 : decode prog_7_method_21_code 231 = .ok (.iaload, 1) := by decide +kernel
theorem d_Mo_parcels_232 : decode prog_7_method_21_code 232 = .ok (.iadd, 1) := by decide +kernel
theorem d_Mo_parcels_233 : decode prog_7_method_21_code 233 = .ok (.aload_n 0, 1) := by decide +kernel
theorem d_Mo_parcels_234 : decode prog_7_method_21_code 234 = .ok (.getfield 84, 3) := by decide +kernel
theorem d_Mo_parcels_237 : decode prog_7_method_21_code 237 = .ok (.iload 8, 2) := by decide +kernel
theorem d_Mo_parcels_239 : decode prog_7_method_21_code 239 = .ok (.iaload, 1) := by decide +kernel
theorem d_Mo_parcels_240 : decode prog_7_method_21_code 240 = .ok (.iadd, 1) := by decide +kernel
theorem d_Mo_parcels_241 : decode prog_7_method_21_code 241 = .ok (.aload_n 0, 1) := by decide +kernel
theorem d_Mo_parcels_242 : decode prog_7_method_21_code 242 = .ok (.getfield 45, 3) := by decide +kernel
theorem d_Mo_parcels_245 : decode prog_7_method_21_code 245 = .ok (.iload_n 1, 1) := by decide +kernel
theorem d_Mo_parcels_246 : decode prog_7_method_21_code 246 = .ok (.iaload, 1) := by decide +kernel
theorem d_Mo_parcels_247 : decode prog_7_method_21_code 247 = .ok (.if_icmp .gt 39, 3) := by decide +kernel
theorem d_Mo_parcels_250 : decode prog_7_method_21_code 250 = .ok (.aload_n 0, 1) := by decide +kernel
theorem d_Mo_parcels_251 : decode prog_7_method_21_code 251 = .ok (.getfield 45, 3) := by decide +kernel
theorem d_Mo_parcels_254 : decode prog_7_method_21_code 254 = .ok (.iload_n 1, 1) := by decide +kernel
theorem d_Mo_parcels_255 : decode prog_7_method_21_code 255 = .ok (.iaload, 1) := by decide +kernel
theorem d_Mo_parcels_256 : decode prog_7_method_21_code 256 = .ok (.aload_n 0, 1) := by decide +kernel
theorem d_Mo_parcels_257 : decode prog_7_method_21_code 257 = .ok (.getfield 87, 3) := by decide +kernel
theorem d_Mo_parcels_260 : decode prog_7_method_21_code 260 = .ok (.iload 6, 2) := by decide +kernel
theorem d_Mo_parcels_262 : decode prog_7_method_21_code 262 = .ok (.iaload, 1) := by decide +kernel
theorem d_Mo_parcels_263 : decode prog_7_method_21_code 263 = .ok (.aload_n 0, 1) := by decide +kernel
theorem d_Mo_parcels_264 : decode prog_7_method_21_code 264 = .ok (.getfield 87, 3) := by decide +kernel
theorem d_Mo_parcels_267 : decode prog_7_method_21_code 267 = .ok (.iload 7, 2) := by decide +kernel
theorem d_Mo_parcels_269 : decode prog_7_method_21_code 269 = .ok (.iaload, 1) := by decide +kernel
theorem d_Mo_parcels_270 : decode prog_7_method_21_code 270 = .ok (.iadd, 1) := by decide +kernel
theorem d_Mo_parcels_271 : decode prog_7_method_21_code 271 = .ok (.aload_n 0, 1) := by decide +kernel
theorem d_Mo_parcels_272 : decode prog_7_method_21_code 272 = .ok (.getfield 87, 3) := by decide +kernel
theorem d_Mo_parcels_275 : decode prog_7_method_21_code 275 = .ok (.iload 8, 2) := by decide +kernel
theorem d_Mo_parcels_277 : decode prog_7_method_21_code 277 = .ok (.iaload, 1) := by decide +kernel
theorem d_Mo_parcels_278 : decode prog_7_method_21_code 278 = .ok (.iadd, 1) := by decide +kernel
theorem d_Mo_parcels_279 : decode prog_7_method_21_code 279 = .ok (.if_icmp .gt 7, 3) := by decide +kernel
theorem d_Mo_parcels_282 : decode prog_7_method_21_code 282 = .ok (.iconst 1, 1) := by decide +kernel
theorem d_Mo_parcels_283 : decode prog_7_method_21_code 283 = .ok (.goto 4, 3) := by decide +kernel
theorem d_Mo_parcels_286 : decode prog_7_method_21_code 286 = .ok (.iconst 0, 1) := by decide +kernel
theorem d_Mo_parcels_287 : decode prog_7_method_21_code 287 = .ok (.istore 9, 2) := by decide +kernel
theorem d_Mo_parcels_289 : decode prog_7_method_21_code 289 = .ok (.aload_n 0, 1) := by decide +kernel
theorem d_Mo_parcels_290 : decode prog_7_method_21_code 290 = .ok (.getfield 90, 3) := by decide +kernel
theorem d_Mo_parcels_293 : decode prog_7_method_21_code 293 = .ok (.iload 6, 2) := by decide +kernel
theorem d_Mo_parcels_295 : decode prog_7_method_21_code 295 = .ok (.iaload, 1) := by decide +kernel
theorem d_Mo_parcels_296 : decode prog_7_method_21_code 296 = .ok (.aload_n 0, 1) := by decide +kernel
theorem d_Mo_parcels_297 : decode prog_7_method_21_code 297 = .ok (.getfield 90, 3) := by decide +kernel
theorem d_Mo_parcels_300 : decode prog_7_method_21_code 300 = .ok (.iload 7, 2) := by decide +kernel
theorem d_Mo_parcels_302 : decode prog_7_method_21_code 302 = .ok (.iaload, 1) := by decide +kernel
theorem d_Mo_parcels_303 : decode prog_7_method_21_code 303 = .ok (.iadd, 1) := by decide +kernel
theorem d_Mo_parcels_304 : decode prog_7_method_21_code 304 = .ok (.aload_n 0, 1) := by decide +kernel
theorem d_Mo_parcels_305 : decode prog_7_method_21_code 305 = .ok (.getfield 90, 3) := by decide +kernel
theorem d_Mo_parcels_308 : decode prog_7_method_21_code 308 = .ok (.iload 8, 2) := by decide +kernel
theorem d_Mo_parcels_310 : decode prog_7_method_21_code 310 = .ok (.iaload, 1) := by decide +kernel
theorem d_Mo_parcels_311 : decode prog_7_method_21_code 311 = .ok (.iadd, 1) := by decide +kernel
theorem d_Mo_parcels_312 : decode prog_7_method_21_code 312 = .ok (.istore 10, 2) := by decide +kernel
theorem d_Mo_parcels_314 : decode prog_7_method_21_code 314 = .ok (.iload 9, 2) := by decide +kernel
theorem d_Mo_parcels_316 : decode prog_7_method_21_code 316 = .ok (.ifCond .eq 19, 3) := by decide +kernel
theorem d_Mo_parcels_319 : decode prog_7_method_21_code 319 = .ok (.iload 5, 2) := by decide +kernel
theorem d_Mo_parcels_321 : decode prog_7_method_21_code 321 = .ok (.ifCond .lt 10, 3) := by decide +kernel
theorem d_Mo_parcels_324 : decode prog_7_method_21_code 324 = .ok (.iload 10, 2) := by decide +kernel
theorem d_Mo_parcels_326 : decode prog_7_method_21_code 326 = .ok (.iload 5, 2) := by decide +kernel
theorem d_Mo_parcels_328 : decode prog_7_method_21_code 328 = .ok (.if_icmp .ge 7, 3) := by decide +kernel
theorem d_Mo_parcels_331 : decode prog_7_method_21_code 331 = .ok (.iload 10, 2) := by decide +kernel
theorem d_Mo_parcels_333 : decode prog_7_method_21_code 333 = .ok (.istore 5, 2) := by decide +kernel
theorem d_Mo_parcels_335 : decode prog_7_method_21_code 335 = .ok (.iinc 8 1, 3) := by decide +kernel
theorem d_Mo_parcels_338 : decode prog_7_method_21_code 338 = .ok (.goto (-126), 3) := by decide +kernel
theorem d_Mo_parcels_341 : decode prog_7_method_21_code 341 = .ok (.iinc 7 1, 3) := by decide +kernel
theorem d_Mo_parcels_344 : decode prog_7_method_21_code 344 = .ok (.goto (-141), 3) := by decide +kernel
theorem d_Mo_parcels_347 : decode prog_7_method_21_code 347 = .ok (.iinc 6 1, 3) := by decide +kernel
theorem d_Mo_parcels_350 : decode prog_7_method_21_code 350 = .ok (.goto (-156), 3) := by decide +kernel
theorem d_Mo_parcels_353 : decode prog_7_method_21_code 353 = .ok (.iload 5, 2) := by decide +kernel
theorem d_Mo_parcels_355 : decode prog_7_method_21_code 355 = .ok (.ireturn, 1) := by decide +kernel
theorem d_Mo_contract_0 : decode prog_7_method_22_code 0 = .ok (.aload_n 0, 1) := by decide +kernel
theorem d_Mo_contract_1 : decode prog_7_method_22_code 1 = .ok (.iload_n 1, 1) := by decide +kernel
theorem d_Mo_contract_2 : decode prog_7_method_22_code 2 = .ok (.iconst 0, 1) := by decide +kernel
theorem d_Mo_contract_3 : decode prog_7_method_22_code 3 = .ok (.bipush 9, 2) := by decide +kernel
theorem d_Mo_contract_5 : decode prog_7_method_22_code 5 = .ok (.invokestatic 124, 3) := by decide +kernel
theorem d_Mo_contract_8 : decode prog_7_method_22_code 8 = .ok (.ifCond .ne 35, 3) := by decide +kernel
theorem d_Mo_contract_11 : decode prog_7_method_22_code 11 = .ok (.iload_n 2, 1) := by decide +kernel
theorem d_Mo_contract_12 : decode prog_7_method_22_code 12 = .ok (.iconst 0, 1) := by decide +kernel
theorem d_Mo_contract_13 : decode prog_7_method_22_code 13 = .ok (.bipush 100, 2) := by decide +kernel
theorem d_Mo_contract_15 : decode prog_7_method_22_code 15 = .ok (.invokestatic 124, 3) := by decide +kernel
theorem d_Mo_contract_18 : decode prog_7_method_22_code 18 = .ok (.ifCond .ne 25, 3) := by decide +kernel
theorem d_Mo_contract_21 : decode prog_7_method_22_code 21 = .ok (.iload 4, 2) := by decide +kernel
theorem d_Mo_contract_23 : decode prog_7_method_22_code 23 = .ok (.iconst 1, 1) := by decide +kernel
theorem d_Mo_contract_24 : decode prog_7_method_22_code 24 = .ok (.sipush 1000, 3) := by decide +kernel
theorem d_Mo_contract_27 : decode prog_7_method_22_code 27 = .ok (.invokestatic 124, 3) := by decide +kernel
theorem d_Mo_contract_30 : decode prog_7_method_22_code 30 = .ok (.ifCond .ne 13, 3) := by decide +kernel
theorem d_Mo_contract_33 : decode prog_7_method_22_code 33 = .ok (.iload_n 3, 1) := by decide +kernel
theorem d_Mo_contract_34 : decode prog_7_method_22_code 34 = .ok (.iconst 0, 1) := by decide +kernel
theorem d_Mo_contract_35 : decode prog_7_method_22_code 35 = .ok (.iload 4, 2) := by decide +kernel
theorem d_Mo_contract_37 : decode prog_7_method_22_code 37 = .ok (.invokestatic 124, 3) := by decide +kernel
theorem d_Mo_contract_40 : decode prog_7_method_22_code 40 = .ok (.ifCond .eq 7, 3) := by decide +kernel
theorem d_Mo_contract_43 : decode prog_7_method_22_code 43 = .ok (.iconst 1, 1) := by decide +kernel
theorem d_Mo_contract_44 : decode prog_7_method_22_code 44 = .ok (.goto 4, 3) := by decide +kernel
theorem d_Mo_contract_47 : decode prog_7_method_22_code 47 = .ok (.iconst 0, 1) := by decide +kernel
theorem d_Mo_contract_48 : decode prog_7_method_22_code 48 = .ok (.putfield 7, 3) := by decide +kernel
theorem d_Mo_contract_51 : decode prog_7_method_22_code 51 = .ok (.aload_n 0, 1) := by decide +kernel
theorem d_Mo_contract_52 : decode prog_7_method_22_code 52 = .ok (.getfield 7, 3) := by decide +kernel
theorem d_Mo_contract_55 : decode prog_7_method_22_code 55 = .ok (.ifCond .eq 5, 3) := by decide +kernel
theorem d_Mo_contract_58 : decode prog_7_method_22_code 58 = .ok (.iconst 0, 1) := by decide +kernel
theorem d_Mo_contract_59 : decode prog_7_method_22_code 59 = .ok (.ireturn, 1) := by decide +kernel
theorem d_Mo_contract_60 : decode prog_7_method_22_code 60 = .ok (.iconst 4, 1) := by decide +kernel
theorem d_Mo_contract_61 : decode prog_7_method_22_code 61 = .ok (.iload_n 1, 1) := by decide +kernel
theorem d_Mo_contract_62 : decode prog_7_method_22_code 62 = .ok (.imul, 1) := by decide +kernel
theorem d_Mo_contract_63 : decode prog_7_method_22_code 63 = .ok (.istore 5, 2) := by decide +kernel
theorem d_Mo_contract_65 : decode prog_7_method_22_code 65 = .ok (.iload 5, 2) := by decide +kernel
theorem d_Mo_contract_67 : decode prog_7_method_22_code 67 = .ok (.iconst 4, 1) := by decide +kernel
theorem d_Mo_contract_68 : decode prog_7_method_22_code 68 = .ok (.iload_n 1, 1) := by decide +kernel
theorem d_Mo_contract_69 : decode prog_7_method_22_code 69 = .ok (.imul, 1) := by decide +kernel
theorem d_Mo_contract_70 : decode prog_7_method_22_code 70 = .ok (.aload_n 0, 1) := by decide +kernel
theorem d_Mo_contract_71 : decode prog_7_method_22_code 71 = .ok (.getfield 60, 3) := by decide +kernel
theorem d_Mo_contract_74 : decode prog_7_method_22_code 74 = .ok (.iload_n 1, 1) := by decide +kernel
theorem d_Mo_contract_75 : decode prog_7_method_22_code 75 = .ok (.iaload, 1) := by decide +kernel
theorem d_Mo_contract_76 : decode prog_7_method_22_code 76 = .ok (.iadd, 1) := by decide +kernel
theorem d_Mo_contract_77 : decode prog_7_method_22_code 77 = .ok (.if_icmp .ge 20, 3) := by decide +kernel
theorem d_Mo_contract_80 : decode prog_7_method_22_code 80 = .ok (.aload_n 0, 1) := by decide +kernel
theorem d_Mo_contract_81 : decode prog_7_method_22_code 81 = .ok (.getfield 63, 3) := by decide +kernel
theorem d_Mo_contract_84 : decode prog_7_method_22_code 84 = .ok (.iload 5, 2) := by decide +kernel
theorem d_Mo_contract_86 : decode prog_7_method_22_code 86 = .ok (.iaload, 1) := by decide +kernel
theorem d_Mo_contract_87 : decode prog_7_method_22_code 87 = .ok (.iload_n 2, 1) := by decide +kernel
theorem d_Mo_contract_88 : decode prog_7_method_22_code 88 = .ok (.if_icmp .eq 9, 3) := by decide +kernel
theorem d_Mo_contract_91 : decode prog_7_method_22_code 91 = .ok (.iinc 5 1, 3) := by decide +kernel
theorem d_Mo_contract_94 : decode prog_7_method_22_code 94 = .ok (.goto (-29), 3) := by decide +kernel
theorem d_Mo_contract_97 : decode prog_7_method_22_code 97 = .ok (.aload_n 0, 1) := by decide +kernel
theorem d_Mo_contract_98 : decode prog_7_method_22_code 98 = .ok (.iload 5, 2) := by decide +kernel
theorem d_Mo_contract_100 : decode prog_7_method_22_code 100 = .ok (.iconst 4, 1) := by decide +kernel
theorem d_Mo_contract_101 : decode prog_7_method_22_code 101 = .ok (.iload_n 1, 1) := by decide +kernel
theorem d_Mo_contract_102 : decode prog_7_method_22_code 102 = .ok (.imul, 1) := by decide +kernel
theorem d_Mo_contract_103 : decode prog_7_method_22_code 103 = .ok (.iconst 4, 1) := by decide +kernel
theorem d_Mo_contract_104 : decode prog_7_method_22_code 104 = .ok (.iadd, 1) := by decide +kernel
theorem d_Mo_contract_105 : decode prog_7_method_22_code 105 = .ok (.if_icmp .ne 7, 3) := by decide +kernel
theorem d_Mo_contract_108 : decode prog_7_method_22_code 108 = .ok (.iconst 2, 1) := by decide +kernel
theorem d_Mo_contract_109 : decode prog_7_method_22_code 109 = .ok (.goto 4, 3) := by decide +kernel
theorem d_Mo_contract_112 : decode prog_7_method_22_code 112 = .ok (.iconst 0, 1) := by decide +kernel
theorem d_Mo_contract_113 : decode prog_7_method_22_code 113 = .ok (.putfield 7, 3) := by decide +kernel
theorem d_Mo_contract_116 : decode prog_7_method_22_code 116 = .ok (.aload_n 0, 1) := by decide +kernel
theorem d_Mo_contract_117 : decode prog_7_method_22_code 117 = .ok (.getfield 7, 3) := by decide +kernel
theorem d_Mo_contract_120 : decode prog_7_method_22_code 120 = .ok (.ifCond .eq 5, 3) := by decide +kernel
theorem d_Mo_contract_123 : decode prog_7_method_22_code 123 = .ok (.iconst 0, 1) := by decide +kernel
theorem d_Mo_contract_124 : decode prog_7_method_22_code 124 = .ok (.ireturn, 1) := by decide +kernel
theorem d_Mo_contract_125 : decode prog_7_method_22_code 125 = .ok (.iload 5, 2) := by decide +kernel
theorem d_Mo_contract_127 : decode prog_7_method_22_code 127 = .ok (.iconst 4, 1) := by decide +kernel
theorem d_Mo_contract_128 : decode prog_7_method_22_code 128 = .ok (.iload_n 1, 1) := by decide +kernel
theorem d_Mo_contract_129 : decode prog_7_method_22_code 129 = .ok (.imul, 1) := by decide +kernel
theorem d_Mo_contract_130 : decode prog_7_method_22_code 130 = .ok (.aload_n 0, 1) := by decide +kernel
theorem d_Mo_contract_131 : decode prog_7_method_22_code 131 = .ok (.getfield 60, 3) := by decide +kernel
theorem d_Mo_contract_134 : decode prog_7_method_22_code 134 = .ok (.iload_n 1, 1) := by decide +kernel
theorem d_Mo_contract_135 : decode prog_7_method_22_code 135 = .ok (.iaload, 1) := by decide +kernel
theorem d_Mo_contract_136 : decode prog_7_method_22_code 136 = .ok (.iadd, 1) := by decide +kernel
theorem d_Mo_contract_137 : decode prog_7_method_22_code 137 = .ok (.if_icmp .ne 17, 3) := by decide +kernel
theorem d_Mo_contract_140 : decode prog_7_method_22_code 140 = .ok (.aload_n 0, 1) := by decide +kernel
theorem d_Mo_contract_141 : decode prog_7_method_22_code 141 = .ok (.getfield 60, 3) := by decide +kernel
theorem d_Mo_contract_144 : decode prog_7_method_22_code 144 = .ok (.iload_n 1, 1) := by decide +kernel
theorem d_Mo_contract_145 : decode prog_7_method_22_code 145 = .ok (.aload_n 0, 1) := by decide +kernel
theorem d_Mo_contract_146 : decode prog_7_method_22_code 146 = .ok (.getfield 60, 3) := by decide +kernel
theorem d_Mo_contract_149 : decode prog_7_method_22_code 149 = .ok (.iload_n 1, 1) := by decide +kernel
theorem d_Mo_contract_150 : decode prog_7_method_22_code 150 = .ok (.iaload, 1) := by decide +kernel
theorem d_Mo_contract_151 : decode prog_7_method_22_code 151 = .ok (.iconst 1, 1) := by decide +kernel
theorem d_Mo_contract_152 : decode prog_7_method_22_code 152 = .ok (.iadd, 1) := by decide +kernel
theorem d_Mo_contract_153 : decode prog_7_method_22_code 153 = .ok (.iastore, 1) := by decide +kernel
theorem d_Mo_contract_154 : decode prog_7_method_22_code 154 = .ok (.aload_n 0, 1) := by decide +kernel
theorem d_Mo_contract_155 : decode prog_7_method_22_code 155 = .ok (.getfield 63, 3) := by decide +kernel
theorem d_Mo_contract_158 : decode prog_7_method_22_code 158 = .ok (.iload 5, 2) := by decide +kernel
theorem d_Mo_contract_160 : decode prog_7_method_22_code 160 = .ok (.iload_n 2, 1) := by decide +kernel
end
section
theorem d_Mo_contract_161 : decode prog_7_method_22_code 161 = .ok (.iastore, 1) := by decide +kernel
theorem d_Mo_contract_162 : decode prog_7_method_22_code 162 = .ok (.aload_n 0, 1) := by decide +kernel
theorem d_Mo_contract_163 : decode prog_7_method_22_code 163 = .ok (.getfield 66, 3) := by decide +kernel
theorem d_Mo_contract_166 : decode prog_7_method_22_code 166 = .ok (.iload 5, 2) := by decide +kernel
theorem d_Mo_contract_168 : decode prog_7_method_22_code 168 = .ok (.iload_n 3, 1) := by decide +kernel
theorem d_Mo_contract_169 : decode prog_7_method_22_code 169 = .ok (.iastore, 1) := by decide +kernel
theorem d_Mo_contract_170 : decode prog_7_method_22_code 170 = .ok (.aload_n 0, 1) := by decide +kernel
theorem d_Mo_contract_171 : decode prog_7_method_22_code 171 = .ok (.getfield 69, 3) := by decide +kernel
theorem d_Mo_contract_174 : decode prog_7_method_22_code 174 = .ok (.iload 5, 2) := by decide +kernel
theorem d_Mo_contract_176 : decode prog_7_method_22_code 176 = .ok (.iload 4, 2) := by decide +kernel
theorem d_Mo_contract_178 : decode prog_7_method_22_code 178 = .ok (.iastore, 1) := by decide +kernel
theorem d_Mo_contract_179 : decode prog_7_method_22_code 179 = .ok (.aload_n 0, 1) := by decide +kernel
theorem d_Mo_contract_180 : decode prog_7_method_22_code 180 = .ok (.getfield 60, 3) := by decide +kernel
theorem d_Mo_contract_183 : decode prog_7_method_22_code 183 = .ok (.iload_n 1, 1) := by decide +kernel
theorem d_Mo_contract_184 : decode prog_7_method_22_code 184 = .ok (.iaload, 1) := by decide +kernel
theorem d_Mo_contract_185 : decode prog_7_method_22_code 185 = .ok (.ireturn, 1) := by decide +kernel
theorem d_Mo_book_0 : decode prog_7_method_23_code 0 = .ok (.aload_n 0, 1) := by decide +kernel
theorem d_Mo_book_1 : decode prog_7_method_23_code 1 = .ok (.aload_n 0, 1) := by decide +kernel
theorem d_Mo_book_2 : decode prog_7_method_23_code 2 = .ok (.iload_n 1, 1) := by decide +kernel
theorem d_Mo_book_3 : decode prog_7_method_23_code 3 = .ok (.invokevirtual 133, 3) := by decide +kernel
theorem d_Mo_book_6 : decode prog_7_method_23_code 6 = .ok (.ifCond .eq 7, 3) := by decide +kernel
theorem d_Mo_book_9 : decode prog_7_method_23_code 9 = .ok (.iconst 1, 1) := by decide +kernel
theorem d_Mo_book_10 : decode prog_7_method_23_code 10 = .ok (.goto 31, 3) := by decide +kernel
theorem d_Mo_book_13 : decode prog_7_method_23_code 13 = .ok (.iload_n 2, 1) := by decide +kernel
theorem d_Mo_book_14 : decode prog_7_method_23_code 14 = .ok (.iconst 0, 1) := by decide +kernel
theorem d_Mo_book_15 : decode prog_7_method_23_code 15 = .ok (.bipush 9, 2) := by decide +kernel
theorem d_Mo_book_17 : decode prog_7_method_23_code 17 = .ok (.invokestatic 124, 3) := by decide +kernel
theorem d_Mo_book_20 : decode prog_7_method_23_code 20 = .ok (.ifCond .eq 7, 3) := by decide +kernel
theorem d_Mo_book_23 : decode prog_7_method_23_code 23 = .ok (.iconst 2, 1) := by decide +kernel
theorem d_Mo_book_24 : decode prog_7_method_23_code 24 = .ok (.goto 17, 3) := by decide +kernel
theorem d_Mo_book_27 : decode prog_7_method_23_code 27 = .ok (.aload_n 0, 1) := by decide +kernel
theorem d_Mo_book_28 : decode prog_7_method_23_code 28 = .ok (.getfield 51, 3) := by decide +kernel
theorem d_Mo_book_31 : decode prog_7_method_23_code 31 = .ok (.iload_n 1, 1) := by decide +kernel
theorem d_Mo_book_32 : decode prog_7_method_23_code 32 = .ok (.iaload, 1) := by decide +kernel
theorem d_Mo_book_33 : decode prog_7_method_23_code 33 = .ok (.ifCond .lt 7, 3) := by decide +kernel
theorem d_Mo_book_36 : decode prog_7_method_23_code 36 = .ok (.iconst 3, 1) := by decide +kernel
theorem d_Mo_book_37 : decode prog_7_method_23_code 37 = .ok (.goto 4, 3) := by decide +kernel
theorem d_Mo_book_40 : decode prog_7_method_23_code 40 = .ok (.iconst 0, 1) := by decide +kernel
theorem d_Mo_book_41 : decode prog_7_method_23_code 41 = .ok (.putfield 7, 3) := by decide +kernel
theorem d_Mo_book_44 : decode prog_7_method_23_code 44 = .ok (.aload_n 0, 1) := by decide +kernel
theorem d_Mo_book_45 : decode prog_7_method_23_code 45 = .ok (.getfield 7, 3) := by decide +kernel
theorem d_Mo_book_48 : decode prog_7_method_23_code 48 = .ok (.ifCond .eq 5, 3) := by decide +kernel
theorem d_Mo_book_51 : decode prog_7_method_23_code 51 = .ok (.iconst 0, 1) := by decide +kernel
theorem d_Mo_book_52 : decode prog_7_method_23_code 52 = .ok (.ireturn, 1) := by decide +kernel
theorem d_Mo_book_53 : decode prog_7_method_23_code 53 = .ok (.aload_n 0, 1) := by decide +kernel
theorem d_Mo_book_54 : decode prog_7_method_23_code 54 = .ok (.iload_n 1, 1) := by decide +kernel
theorem d_Mo_book_55 : decode prog_7_method_23_code 55 = .ok (.iload_n 2, 1) := by decide +kernel
theorem d_Mo_book_56 : decode prog_7_method_23_code 56 = .ok (.invokevirtual 137, 3) := by decide +kernel
theorem d_Mo_book_59 : decode prog_7_method_23_code 59 = .ok (.istore_n 3, 1) := by decide +kernel
theorem d_Mo_book_60 : decode prog_7_method_23_code 60 = .ok (.aload_n 0, 1) := by decide +kernel
theorem d_Mo_book_61 : decode prog_7_method_23_code 61 = .ok (.iload_n 3, 1) := by decide +kernel
theorem d_Mo_book_62 : decode prog_7_method_23_code 62 = .ok (.bipush (-2), 2) := by decide +kernel
theorem d_Mo_book_64 : decode prog_7_method_23_code 64 = .ok (.if_icmp .ne 7, 3) := by decide +kernel
theorem d_Mo_book_67 : decode prog_7_method_23_code 67 = .ok (.iconst 4, 1) := by decide +kernel
theorem d_Mo_book_68 : decode prog_7_method_23_code 68 = .ok (.goto 13, 3) := by decide +kernel
theorem d_Mo_book_71 : decode prog_7_method_23_code 71 = .ok (.iload_n 3, 1) := by decide +kernel
theorem d_Mo_book_72 : decode prog_7_method_23_code 72 = .ok (.iconst (-1), 1) := by decide +kernel
theorem d_Mo_book_73 : decode prog_7_method_23_code 73 = .ok (.if_icmp .ne 7, 3) := by decide +kernel
theorem d_Mo_book_76 : decode prog_7_method_23_code 76 = .ok (.iconst 3, 1) := by decide +kernel
theorem d_Mo_book_77 : decode prog_7_method_23_code 77 = .ok (.goto 4, 3) := by decide +kernel
theorem d_Mo_book_80 : decode prog_7_method_23_code 80 = .ok (.iconst 0, 1) := by decide +kernel
theorem d_Mo_book_81 : decode prog_7_method_23_code 81 = .ok (.putfield 7, 3) := by decide +kernel
theorem d_Mo_book_84 : decode prog_7_method_23_code 84 = .ok (.aload_n 0, 1) := by decide +kernel
theorem d_Mo_book_85 : decode prog_7_method_23_code 85 = .ok (.getfield 7, 3) := by decide +kernel
theorem d_Mo_book_88 : decode prog_7_method_23_code 88 = .ok (.ifCond .eq 5, 3) := by decide +kernel
theorem d_Mo_book_91 : decode prog_7_method_23_code 91 = .ok (.iconst 0, 1) := by decide +kernel
theorem d_Mo_book_92 : decode prog_7_method_23_code 92 = .ok (.ireturn, 1) := by decide +kernel
theorem d_Mo_book_93 : decode prog_7_method_23_code 93 = .ok (.aload_n 0, 1) := by decide +kernel
theorem d_Mo_book_94 : decode prog_7_method_23_code 94 = .ok (.getfield 51, 3) := by decide +kernel
theorem d_Mo_book_97 : decode prog_7_method_23_code 97 = .ok (.iload_n 1, 1) := by decide +kernel
theorem d_Mo_book_98 : decode prog_7_method_23_code 98 = .ok (.iload_n 2, 1) := by decide +kernel
theorem d_Mo_book_99 : decode prog_7_method_23_code 99 = .ok (.iastore, 1) := by decide +kernel
theorem d_Mo_book_100 : decode prog_7_method_23_code 100 = .ok (.aload_n 0, 1) := by decide +kernel
theorem d_Mo_book_101 : decode prog_7_method_23_code 101 = .ok (.getfield 54, 3) := by decide +kernel
theorem d_Mo_book_104 : decode prog_7_method_23_code 104 = .ok (.iload_n 1, 1) := by decide +kernel
theorem d_Mo_book_105 : decode prog_7_method_23_code 105 = .ok (.iload_n 3, 1) := by decide +kernel
theorem d_Mo_book_106 : decode prog_7_method_23_code 106 = .ok (.iastore, 1) := by decide +kernel
theorem d_Mo_book_107 : decode prog_7_method_23_code 107 = .ok (.iload_n 3, 1) := by decide +kernel
theorem d_Mo_book_108 : decode prog_7_method_23_code 108 = .ok (.ireturn, 1) := by decide +kernel
theorem d_Mo_combine_0 : decode prog_7_method_24_code 0 = .ok (.aload_n 0, 1) := by decide +kernel
theorem d_Mo_combine_1 : decode prog_7_method_24_code 1 = .ok (.aload_n 0, 1) := by decide +kernel
theorem d_Mo_combine_2 : decode prog_7_method_24_code 2 = .ok (.iload_n 1, 1) := by decide +kernel
theorem d_Mo_combine_3 : decode prog_7_method_24_code 3 = .ok (.invokevirtual 133, 3) := by decide +kernel
theorem d_Mo_combine_6 : decode prog_7_method_24_code 6 = .ok (.ifCond .ne 11, 3) := by decide +kernel
theorem d_Mo_combine_9 : decode prog_7_method_24_code 9 = .ok (.aload_n 0, 1) := by decide +kernel
theorem d_Mo_combine_10 : decode prog_7_method_24_code 10 = .ok (.iload_n 2, 1) := by decide +kernel
theorem d_Mo_combine_11 : decode prog_7_method_24_code 11 = .ok (.invokevirtual 133, 3) := by decide +kernel
theorem d_Mo_combine_14 : decode prog_7_method_24_code 14 = .ok (.ifCond .eq 7, 3) := by decide +kernel
theorem d_Mo_combine_17 : decode prog_7_method_24_code 17 = .ok (.iconst 1, 1) := by decide +kernel
theorem d_Mo_combine_18 : decode prog_7_method_24_code 18 = .ok (.goto 4, 3) := by decide +kernel
theorem d_Mo_combine_21 : decode prog_7_method_24_code 21 = .ok (.iconst 0, 1) := by decide +kernel
theorem d_Mo_combine_22 : decode prog_7_method_24_code 22 = .ok (.putfield 7, 3) := by decide +kernel
theorem d_Mo_combine_25 : decode prog_7_method_24_code 25 = .ok (.aload_n 0, 1) := by decide +kernel
theorem d_Mo_combine_26 : decode prog_7_method_24_code 26 = .ok (.getfield 7, 3) := by decide +kernel
theorem d_Mo_combine_29 : decode prog_7_method_24_code 29 = .ok (.ifCond .eq 5, 3) := by decide +kernel
theorem d_Mo_combine_32 : decode prog_7_method_24_code 32 = .ok (.iconst 0, 1) := by decide +kernel
theorem d_Mo_combine_33 : decode prog_7_method_24_code 33 = .ok (.ireturn, 1) := by decide +kernel
theorem d_Mo_combine_34 : decode prog_7_method_24_code 34 = .ok (.iload_n 1, 1) := by decide +kernel
theorem d_Mo_combine_35 : decode prog_7_method_24_code 35 = .ok (.iload_n 2, 1) := by decide +kernel
theorem d_Mo_combine_36 : decode prog_7_method_24_code 36 = .ok (.if_icmp .eq 72, 3) := by decide +kernel
theorem d_Mo_combine_39 : decode prog_7_method_24_code 39 = .ok (.aload_n 0, 1) := by decide +kernel
theorem d_Mo_combine_40 : decode prog_7_method_24_code 40 = .ok (.getfield 51, 3) := by decide +kernel
theorem d_Mo_combine_43 : decode prog_7_method_24_code 43 = .ok (.iload_n 1, 1) := by decide +kernel
theorem d_Mo_combine_44 : decode prog_7_method_24_code 44 = .ok (.iaload, 1) := by decide +kernel
theorem d_Mo_combine_45 : decode prog_7_method_24_code 45 = .ok (.ifCond .ge 63, 3) := by decide +kernel
theorem d_Mo_combine_48 : decode prog_7_method_24_code 48 = .ok (.aload_n 0, 1) := by decide +kernel
theorem d_Mo_combine_49 : decode prog_7_method_24_code 49 = .ok (.getfield 51, 3) := by decide +kernel
theorem d_Mo_combine_52 : decode prog_7_method_24_code 52 = .ok (.iload_n 2, 1) := by decide +kernel
theorem d_Mo_combine_53 : decode prog_7_method_24_code 53 = .ok (.iaload, 1) := by decide +kernel
theorem d_Mo_combine_54 : decode prog_7_method_24_code 54 = .ok (.ifCond .ge 54, 3) := by decide +kernel
theorem d_Mo_combine_57 : decode prog_7_method_24_code 57 = .ok (.aload_n 0, 1) := by decide +kernel
theorem d_Mo_combine_58 : decode prog_7_method_24_code 58 = .ok (.getfield 42, 3) := by decide +kernel
theorem d_Mo_combine_61 : decode prog_7_method_24_code 61 = .ok (.iload_n 1, 1) := by decide +kernel
theorem d_Mo_combine_62 : decode prog_7_method_24_code 62 = .ok (.iaload, 1) := by decide +kernel
theorem d_Mo_combine_63 : decode prog_7_method_24_code 63 = .ok (.aload_n 0, 1) := by decide +kernel
theorem d_Mo_combine_64 : decode prog_7_method_24_code 64 = .ok (.getfield 42, 3) := by decide +kernel
theorem d_Mo_combine_67 : decode prog_7_method_24_code 67 = .ok (.iload_n 2, 1) := by decide +kernel
theorem d_Mo_combine_68 : decode prog_7_method_24_code 68 = .ok (.iaload, 1) := by decide +kernel
theorem d_Mo_combine_69 : decode prog_7_method_24_code 69 = .ok (.if_icmp .ne 39, 3) := by decide +kernel
theorem d_Mo_combine_72 : decode prog_7_method_24_code 72 = .ok (.aload_n 0, 1) := by decide +kernel
theorem d_Mo_combine_73 : decode prog_7_method_24_code 73 = .ok (.getfield 45, 3) := by decide +kernel
theorem d_Mo_combine_76 : decode prog_7_method_24_code 76 = .ok (.iload_n 1, 1) := by decide +kernel
theorem d_Mo_combine_77 : decode prog_7_method_24_code 77 = .ok (.iaload, 1) := by decide +kernel
theorem d_Mo_combine_78 : decode prog_7_method_24_code 78 = .ok (.aload_n 0, 1) := by decide +kernel
theorem d_Mo_combine_79 : decode prog_7_method_24_code 79 = .ok (.getfield 45, 3) := by decide +kernel
theorem d_Mo_combine_82 : decode prog_7_method_24_code 82 = .ok (.iload_n 2, 1) := by decide +kernel
theorem d_Mo_combine_83 : decode prog_7_method_24_code 83 = .ok (.iaload, 1) := by decide +kernel
theorem d_Mo_combine_84 : decode prog_7_method_24_code 84 = .ok (.iadd, 1) := by decide +kernel
theorem d_Mo_combine_85 : decode prog_7_method_24_code 85 = .ok (.ldc 100, 2) := by decide +kernel
theorem d_Mo_combine_87 : decode prog_7_method_24_code 87 = .ok (.if_icmp .gt 21, 3) := by decide +kernel
theorem d_Mo_combine_90 : decode prog_7_method_24_code 90 = .ok (.aload_n 0, 1) := by decide +kernel
theorem d_Mo_combine_91 : decode prog_7_method_24_code 91 = .ok (.getfield 48, 3) := by decide +kernel
theorem d_Mo_combine_94 : decode prog_7_method_24_code 94 = .ok (.iload_n 1, 1) := by decide +kernel
theorem d_Mo_combine_95 : decode prog_7_method_24_code 95 = .ok (.iaload, 1) := by decide +kernel
theorem d_Mo_combine_96 : decode prog_7_method_24_code 96 = .ok (.aload_n 0, 1) := by decide +kernel
theorem d_Mo_combine_97 : decode prog_7_method_24_code 97 = .ok (.getfield 48, 3) := by decide +kernel
theorem d_Mo_combine_100 : decode prog_7_method_24_code 100 = .ok (.iload_n 2, 1) := by decide +kernel
theorem d_Mo_combine_101 : decode prog_7_method_24_code 101 = .ok (.iaload, 1) := by decide +kernel
theorem d_Mo_combine_102 : decode prog_7_method_24_code 102 = .ok (.iadd, 1) := by decide +kernel
theorem d_Mo_combine_103 : decode prog_7_method_24_code 103 = .ok (.ldc 132, 2) := by decide +kernel
theorem d_Mo_combine_105 : decode prog_7_method_24_code 105 = .ok (.if_icmp .le 7, 3) := by decide +kernel
theorem d_Mo_combine_108 : decode prog_7_method_24_code 108 = .ok (.iconst 1, 1) := by decide +kernel
theorem d_Mo_combine_109 : decode prog_7_method_24_code 109 = .ok (.goto 4, 3) := by decide +kernel
theorem d_Mo_combine_112 : decode prog_7_method_24_code 112 = .ok (.iconst 0, 1) := by decide +kernel
theorem d_Mo_combine_113 : decode prog_7_method_24_code 113 = .ok (.istore_n 3, 1) := by decide +kernel
theorem d_Mo_combine_114 : decode prog_7_method_24_code 114 = .ok (.aload_n 0, 1) := by decide +kernel
theorem d_Mo_combine_115 : decode prog_7_method_24_code 115 = .ok (.iload_n 3, 1) := by decide +kernel
theorem d_Mo_combine_116 : decode prog_7_method_24_code 116 = .ok (.ifCond .eq 7, 3) := by decide +kernel
theorem d_Mo_combine_119 : decode prog_7_method_24_code 119 = .ok (.iconst 2, 1) := by decide +kernel
theorem d_Mo_combine_120 : decode prog_7_method_24_code 120 = .ok (.goto 4, 3) := by decide +kernel
theorem d_Mo_combine_123 : decode prog_7_method_24_code 123 = .ok (.iconst 0, 1) := by decide +kernel
theorem d_Mo_combine_124 : decode prog_7_method_24_code 124 = .ok (.putfield 7, 3) := by decide +kernel
theorem d_Mo_combine_127 : decode prog_7_method_24_code 127 = .ok (.iload_n 3, 1) := by decide +kernel
theorem d_Mo_combine_128 : decode prog_7_method_24_code 128 = .ok (.ifCond .eq 5, 3) := by decide +kernel
theorem d_Mo_combine_131 : decode prog_7_method_24_code 131 = .ok (.iconst 0, 1) := by decide +kernel
theorem d_Mo_combine_132 : decode prog_7_method_24_code 132 = .ok (.ireturn, 1) := by decide +kernel
theorem d_Mo_combine_133 : decode prog_7_method_24_code 133 = .ok (.aload_n 0, 1) := by decide +kernel
theorem d_Mo_combine_134 : decode prog_7_method_24_code 134 = .ok (.getfield 45, 3) := by decide +kernel
theorem d_Mo_combine_137 : decode prog_7_method_24_code 137 = .ok (.iload_n 1, 1) := by decide +kernel
theorem d_Mo_combine_138 : decode prog_7_method_24_code 138 = .ok (.aload_n 0, 1) := by decide +kernel
theorem d_Mo_combine_139 : decode prog_7_method_24_code 139 = .ok (.getfield 45, 3) := by decide +kernel
theorem d_Mo_combine_142 : decode prog_7_method_24_code 142 = .ok (.iload_n 1, 1) := by decide +kernel
theorem d_Mo_combine_143 : decode prog_7_method_24_code 143 = .ok (.iaload, 1) := by decide +kernel
theorem d_Mo_combine_144 : decode prog_7_method_24_code 144 = .ok (.aload_n 0, 1) := by decide +kernel
theorem d_Mo_combine_145 : decode prog_7_method_24_code 145 = .ok (.getfield 45, 3) := by decide +kernel
theorem d_Mo_combine_148 : decode prog_7_method_24_code 148 = .ok (.iload_n 2, 1) := by decide +kernel
theorem d_Mo_combine_149 : decode prog_7_method_24_code 149 = .ok (.iaload, 1) := by decide +kernel
theorem d_Mo_combine_150 : decode prog_7_method_24_code 150 = .ok (.iadd, 1) := by decide +kernel
theorem d_Mo_combine_151 : decode prog_7_method_24_code 151 = .ok (.iastore, 1) := by decide +kernel
theorem d_Mo_combine_152 : decode prog_7_method_24_code 152 = .ok (.aload_n 0, 1) := by decide +kernel
theorem d_Mo_combine_153 : decode prog_7_method_24_code 153 = .ok (.getfield 48, 3) := by decide +kernel
theorem d_Mo_combine_156 : decode prog_7_method_24_code 156 = .ok (.iload_n 1, 1) := by decide +kernel
theorem d_Mo_combine_157 : decode prog_7_method_24_code 157 = .ok (.aload_n 0, 1) := by decide +kernel
theorem d_Mo_combine_158 : decode prog_7_method_24_code 158 = .ok (.getfield 48, 3) := by decide +kernel
theorem d_Mo_combine_161 : decode prog_7_method_24_code 161 = .ok (.iload_n 1, 1) := by decide +kernel
theorem d_Mo_combine_162 : decode prog_7_method_24_code 162 = .ok (.iaload, 1) := by decide +kernel
theorem d_Mo_combine_163 : decode prog_7_method_24_code 163 = .ok (.aload_n 0, 1) := by decide +kernel
theorem d_Mo_combine_164 : decode prog_7_method_24_code 164 = .ok (.getfield 48, 3) := by decide +kernel
theorem d_Mo_combine_167 : decode prog_7_method_24_code 167 = .ok (.iload_n 2, 1) := by decide +kernel
theorem d_Mo_combine_168 : decode prog_7_method_24_code 168 = .ok (.iaload, 1) := by decide +kernel
theorem d_Mo_combine_169 : decode prog_7_method_24_code 169 = .ok (.iadd, 1) := by decide +kernel
theorem d_Mo_combine_170 : decode prog_7_method_24_code 170 = .ok (.iastore, 1) := by decide +kernel
theorem d_Mo_combine_171 : decode prog_7_method_24_code 171 = .ok (.aload_n 0, 1) := by decide +kernel
theorem d_Mo_combine_172 : decode prog_7_method_24_code 172 = .ok (.getfield 38, 3) := by decide +kernel
theorem d_Mo_combine_175 : decode prog_7_method_24_code 175 = .ok (.iload_n 2, 1) := by decide +kernel
theorem d_Mo_combine_176 : decode prog_7_method_24_code 176 = .ok (.iconst 1, 1) := by decide +kernel
theorem d_Mo_combine_177 : decode prog_7_method_24_code 177 = .ok (.bastore, 1) := by decide +kernel
theorem d_Mo_combine_178 : decode prog_7_method_24_code 178 = .ok (.aload_n 0, 1) := by decide +kernel
theorem d_Mo_combine_179 : decode prog_7_method_24_code 179 = .ok (.getfield 45, 3) := by decide +kernel
theorem d_Mo_combine_182 : decode prog_7_method_24_code 182 = .ok (.iload_n 1, 1) := by decide +kernel
theorem d_Mo_combine_183 : decode prog_7_method_24_code 183 = .ok (.iaload, 1) := by decide +kernel
theorem d_Mo_combine_184 : decode prog_7_method_24_code 184 = .ok (.ireturn, 1) := by decide +kernel
theorem d_Mo_invoice_0 : decode prog_7_method_25_code 0 = .ok (.aload_n 0, 1) := by decide +kernel
theorem d_Mo_invoice_1 : decode prog_7_method_25_code 1 = .ok (.aload_n 0, 1) := by decide +kernel
theorem d_Mo_invoice_2 : decode prog_7_method_25_code 2 = .ok (.iload_n 1, 1) := by decide +kernel
theorem d_Mo_invoice_3 : decode prog_7_method_25_code 3 = .ok (.invokevirtual 133, 3) := by decide +kernel
theorem d_Mo_invoice_6 : decode prog_7_method_25_code 6 = .ok (.ifCond .eq 7, 3) := by decide +kernel
theorem d_Mo_invoice_9 : decode prog_7_method_25_code 9 = .ok (.iconst 1, 1) := by decide +kernel
theorem d_Mo_invoice_10 : decode prog_7_method_25_code 10 = .ok (.goto 40, 3) := by decide +kernel
theorem d_Mo_invoice_13 : decode prog_7_method_25_code 13 = .ok (.iload_n 2, 1) := by decide +kernel
theorem d_Mo_invoice_14 : decode prog_7_method_25_code 14 = .ok (.iconst 0, 1) := by decide +kernel
theorem d_Mo_invoice_15 : decode prog_7_method_25_code 15 = .ok (.ldc 140, 2) := by decide +kernel
theorem d_Mo_invoice_17 : decode prog_7_method_25_code 17 = .ok (.invokestatic 124, 3) := by decide +kernel
theorem d_Mo_invoice_20 : decode prog_7_method_25_code 20 = .ok (.ifCond .eq 7, 3) := by decide +kernel
theorem d_Mo_invoice_23 : decode prog_7_method_25_code 23 = .ok (.iconst 2, 1) := by decide +kernel
theorem d_Mo_invoice_24 : decode prog_7_method_25_code 24 = .ok (.goto 26, 3) := by decide +kernel
theorem d_Mo_invoice_27 : decode prog_7_method_25_code 27 = .ok (.aload_n 0, 1) := by decide +kernel
theorem d_Mo_invoice_28 : decode prog_7_method_25_code 28 = .ok (.getfield 51, 3) := by decide +kernel
theorem d_Mo_invoice_31 : decode prog_7_method_25_code 31 = .ok (.iload_n 1, 1) := by decide +kernel
theorem d_Mo_invoice_32 : decode prog_7_method_25_code 32 = .ok (.iaload, 1) := by decide +kernel
theorem d_Mo_invoice_33 : decode prog_7_method_25_code 33 = .ok (.ifCond .lt 12, 3) := by decide +kernel
theorem d_Mo_invoice_36 : decode prog_7_method_25_code 36 = .ok (.aload_n 0, 1) := by decide +kernel
theorem d_Mo_invoice_37 : decode prog_7_method_25_code 37 = .ok (.getfield 57, 3) := by decide +kernel
theorem d_Mo_invoice_40 : decode prog_7_method_25_code 40 = .ok (.iload_n 1, 1) := by decide +kernel
theorem d_Mo_invoice_41 : decode prog_7_method_25_code 41 = .ok (.iaload, 1) := by decide +kernel
theorem d_Mo_invoice_42 : decode prog_7_method_25_code 42 = .ok (.ifCond .lt 7, 3) := by decide +kernel
theorem d_Mo_invoice_45 : decode prog_7_method_25_code 45 = .ok (.iconst 3, 1) := by decide +kernel
theorem d_Mo_invoice_46 : decode prog_7_method_25_code 46 = .ok (.goto 4, 3) := by decide +kernel
theorem d_Mo_invoice_49 : decode prog_7_method_25_code 49 = .ok (.iconst 0, 1) := by decide +kernel
theorem d_Mo_invoice_50 : decode prog_7_method_25_code 50 = .ok (.putfield 7, 3) := by decide +kernel
theorem d_Mo_invoice_53 : decode prog_7_method_25_code 53 = .ok (.aload_n 0, 1) := by decide +kernel
theorem d_Mo_invoice_54 : decode prog_7_method_25_code 54 = .ok (.getfield 7, 3) := by decide +kernel
theorem d_Mo_invoice_57 : decode prog_7_method_25_code 57 = .ok (.ifCond .eq 5, 3) := by decide +kernel
theorem d_Mo_invoice_60 : decode prog_7_method_25_code 60 = .ok (.iconst 0, 1) := by decide +kernel
theorem d_Mo_invoice_61 : decode prog_7_method_25_code 61 = .ok (.ireturn, 1) := by decide +kernel
theorem d_Mo_invoice_62 : decode prog_7_method_25_code 62 = .ok (.aload_n 0, 1) := by decide +kernel
theorem d_Mo_invoice_63 : decode prog_7_method_25_code 63 = .ok (.getfield 57, 3) := by decide +kernel
theorem d_Mo_invoice_66 : decode prog_7_method_25_code 66 = .ok (.iload_n 1, 1) := by decide +kernel
theorem d_Mo_invoice_67 : decode prog_7_method_25_code 67 = .ok (.iload_n 2, 1) := by decide +kernel
theorem d_Mo_invoice_68 : decode prog_7_method_25_code 68 = .ok (.iastore, 1) := by decide +kernel
theorem d_Mo_invoice_69 : decode prog_7_method_25_code 69 = .ok (.iload_n 2, 1) := by decide +kernel
theorem d_Mo_invoice_70 : decode prog_7_method_25_code 70 = .ok (.aload_n 0, 1) := by decide +kernel
theorem d_Mo_invoice_71 : decode prog_7_method_25_code 71 = .ok (.getfield 54, 3) := by decide +kernel
theorem d_Mo_invoice_74 : decode prog_7_method_25_code 74 = .ok (.iload_n 1, 1) := by decide +kernel
theorem d_Mo_invoice_75 : decode prog_7_method_25_code 75 = .ok (.iaload, 1) := by decide +kernel
theorem d_Mo_invoice_76 : decode prog_7_method_25_code 76 = .ok (.isub, 1) := by decide +kernel
theorem d_Mo_invoice_77 : decode prog_7_method_25_code 77 = .ok (.ireturn, 1) := by decide +kernel
theorem d_Mo_refund_0 : decode prog_7_method_26_code 0 = .ok (.aload_n 0, 1) := by decide +kernel
theorem d_Mo_refund_1 : decode prog_7_method_26_code 1 = .ok (.aload_n 0, 1) := by decide +kernel
theorem d_Mo_refund_2 : decode prog_7_method_26_code 2 = .ok (.iload_n 1, 1) := by decide +kernel
theorem d_Mo_refund_3 : decode prog_7_method_26_code 3 = .ok (.invokevirtual 133, 3) := by decide +kernel
theorem d_Mo_refund_6 : decode prog_7_method_26_code 6 = .ok (.ifCond .eq 7, 3) := by decide +kernel
theorem d_Mo_refund_9 : decode prog_7_method_26_code 9 = .ok (.iconst 1, 1) := by decide +kernel
theorem d_Mo_refund_10 : decode prog_7_method_26_code 10 = .ok (.goto 32, 3) := by decide +kernel
theorem d_Mo_refund_13 : decode prog_7_method_26_code 13 = .ok (.iload_n 2, 1) := by decide +kernel
theorem d_Mo_refund_14 : decode prog_7_method_26_code 14 = .ok (.iconst 1, 1) := by decide +kernel
theorem d_Mo_refund_15 : decode prog_7_method_26_code 15 = .ok (.ldc 140, 2) := by decide +kernel
theorem d_Mo_refund_17 : decode prog_7_method_26_code 17 = .ok (.invokestatic 124, 3) := by decide +kernel
theorem d_Mo_refund_20 : decode prog_7_method_26_code 20 = .ok (.ifCond .eq 7, 3) := by decide +kernel
theorem d_Mo_refund_23 : decode prog_7_method_26_code 23 = .ok (.iconst 2, 1) := by decide +kernel
theorem d_Mo_refund_24 : decode prog_7_method_26_code 24 = .ok (.goto 18, 3) := by decide +kernel
theorem d_Mo_refund_27 : decode prog_7_method_26_code 27 = .ok (.aload_n 0, 1) := by decide +kernel
theorem d_Mo_refund_28 : decode prog_7_method_26_code 28 = .ok (.getfield 57, 3) := by decide +kernel
theorem d_Mo_refund_31 : decode prog_7_method_26_code 31 = .ok (.iload_n 1, 1) := by decide +kernel
theorem d_Mo_refund_32 : decode prog_7_method_26_code 32 = .ok (.iaload, 1) := by decide +kernel
theorem d_Mo_refund_33 : decode prog_7_method_26_code 33 = .ok (.iload_n 2, 1) := by decide +kernel
theorem d_Mo_refund_34 : decode prog_7_method_26_code 34 = .ok (.if_icmp .ge 7, 3) := by decide +kernel
theorem d_Mo_refund_37 : decode prog_7_method_26_code 37 = .ok (.iconst 3, 1) := by decide +kernel
theorem d_Mo_refund_38 : decode prog_7_method_26_code 38 = .ok (.goto 4, 3) := by decide +kernel
theorem d_Mo_refund_41 : decode prog_7_method_26_code 41 = .ok (.iconst 0, 1) := by decide +kernel
theorem d_Mo_refund_42 : decode prog_7_method_26_code 42 = .ok (.putfield 7, 3) := by decide +kernel
theorem d_Mo_refund_45 : decode prog_7_method_26_code 45 = .ok (.aload_n 0, 1) := by decide +kernel
theorem d_Mo_refund_46 : decode prog_7_method_26_code 46 = .ok (.getfield 7, 3) := by decide +kernel
theorem d_Mo_refund_49 : decode prog_7_method_26_code 49 = .ok (.ifCond .eq 5, 3) := by decide +kernel
theorem d_Mo_refund_52 : decode prog_7_method_26_code 52 = .ok (.iconst 0, 1) := by decide +kernel
theorem d_Mo_refund_53 : decode prog_7_method_26_code 53 = .ok (.ireturn, 1) := by decide +kernel
theorem d_Mo_refund_54 : decode prog_7_method_26_code 54 = .ok (.aload_n 0, 1) := by decide +kernel
theorem d_Mo_refund_55 : decode prog_7_method_26_code 55 = .ok (.getfield 57, 3) := by decide +kernel
theorem d_Mo_refund_58 : decode prog_7_method_26_code 58 = .ok (.iload_n 1, 1) := by decide +kernel
theorem d_Mo_refund_59 : decode prog_7_method_26_code 59 = .ok (.aload_n 0, 1) := by decide +kernel
theorem d_Mo_refund_60 : decode prog_7_method_26_code 60 = .ok (.getfield 57, 3) := by decide +kernel
theorem d_Mo_refund_63 : decode prog_7_method_26_code 63 = .ok (.iload_n 1, 1) := by decide +kernel
theorem d_Mo_refund_64 : decode prog_7_method_26_code 64 = .ok (.iaload, 1) := by decide +kernel
theorem d_Mo_refund_65 : decode prog_7_method_26_code 65 = .ok (.iload_n 2, 1) := by decide +kernel
theorem d_Mo_refund_66 : decode prog_7_method_26_code 66 = .ok (.isub, 1) := by decide +kernel
theorem d_Mo_refund_67 : decode prog_7_method_26_code 67 = .ok (.iastore, 1) := by decide +kernel
theorem d_Mo_refund_68 : decode prog_7_method_26_code 68 = .ok (.aload_n 0, 1) := by decide +kernel
theorem d_Mo_refund_69 : decode prog_7_method_26_code 69 = .ok (.getfield 57, 3) := by decide +kernel
theorem d_Mo_refund_72 : decode prog_7_method_26_code 72 = .ok (.iload_n 1, 1) := by decide +kernel
theorem d_Mo_refund_73 : decode prog_7_method_26_code 73 = .ok (.iaload, 1) := by decide +kernel
theorem d_Mo_refund_74 : decode prog_7_method_26_code 74 = .ok (.ireturn, 1) := by decide +kernel
theorem d_Mo_differ_0 : decode prog_7_method_27_code 0 = .ok (.aload_n 0, 1) := by decide +kernel
theorem d_Mo_differ_1 : decode prog_7_method_27_code 1 = .ok (.iload_n 1, 1) := by decide +kernel
theorem d_Mo_differ_2 : decode prog_7_method_27_code 2 = .ok (.ifCond .ge 7, 3) := by decide +kernel
theorem d_Mo_differ_5 : decode prog_7_method_27_code 5 = .ok (.iconst 1, 1) := by decide +kernel
theorem d_Mo_differ_6 : decode prog_7_method_27_code 6 = .ok (.goto 4, 3) := by decide +kernel
theorem d_Mo_differ_9 : decode prog_7_method_27_code 9 = .ok (.iconst 0, 1) := by decide +kernel
theorem d_Mo_differ_10 : decode prog_7_method_27_code 10 = .ok (.putfield 7, 3) := by decide +kernel
theorem d_Mo_differ_13 : decode prog_7_method_27_code 13 = .ok (.aload_n 0, 1) := by decide +kernel
theorem d_Mo_differ_14 : decode prog_7_method_27_code 14 = .ok (.getfield 7, 3) := by decide +kernel
theorem d_Mo_differ_17 : decode prog_7_method_27_code 17 = .ok (.ifCond .eq 5, 3) := by decide +kernel
theorem d_Mo_differ_20 : decode prog_7_method_27_code 20 = .ok (.iconst 0, 1) := by decide +kernel
theorem d_Mo_differ_21 : decode prog_7_method_27_code 21 = .ok (.ireturn, 1) := by decide +kernel
theorem d_Mo_differ_22 : decode prog_7_method_27_code 22 = .ok (.iconst 0, 1) := by decide +kernel
theorem d_Mo_differ_23 : decode prog_7_method_27_code 23 = .ok (.istore_n 2, 1) := by decide +kernel
theorem d_Mo_differ_24 : decode prog_7_method_27_code 24 = .ok (.iconst 0, 1) := by decide +kernel
theorem d_Mo_differ_25 : decode prog_7_method_27_code 25 = .ok (.istore_n 3, 1) := by decide +kernel
theorem d_Mo_differ_26 : decode prog_7_method_27_code 26 = .ok (.iload_n 3, 1) := by decide +kernel
theorem d_Mo_differ_27 : decode prog_7_method_27_code 27 = .ok (.aload_n 0, 1) := by decide +kernel
theorem d_Mo_differ_28 : decode prog_7_method_27_code 28 = .ok (.getfield 35, 3) := by decide +kernel
theorem d_Mo_differ_31 : decode prog_7_method_27_code 31 = .ok (.if_icmp .ge 52, 3) := by decide +kernel
theorem d_Mo_differ_34 : decode prog_7_method_27_code 34 = .ok (.aload_n 0, 1) := by decide +kernel
theorem d_Mo_differ_35 : decode prog_7_method_27_code 35 = .ok (.getfield 38, 3) := by decide +kernel
theorem d_Mo_differ_38 : decode prog_7_method_27_code 38 = .ok (.iload_n 3, 1) := by decide +kernel
theorem d_Mo_differ_39 : decode prog_7_method_27_code 39 = .ok (.baload, 1) := by decide +kernel
theorem d_Mo_differ_40 : decode prog_7_method_27_code 40 = .ok (.ifCond .ne 37, 3) := by decide +kernel
theorem d_Mo_differ_43 : decode prog_7_method_27_code 43 = .ok (.aload_n 0, 1) := by decide +kernel
theorem d_Mo_differ_44 : decode prog_7_method_27_code 44 = .ok (.getfield 57, 3) := by decide +kernel
theorem d_Mo_differ_47 : decode prog_7_method_27_code 47 = .ok (.iload_n 3, 1) := by decide +kernel
theorem d_Mo_differ_48 : decode prog_7_method_27_code 48 = .ok (.iaload, 1) := by decide +kernel
theorem d_Mo_differ_49 : decode prog_7_method_27_code 49 = .ok (.ifCond .lt 28, 3) := by decide +kernel
theorem d_Mo_differ_52 : decode prog_7_method_27_code 52 = .ok (.aload_n 0, 1) := by decide +kernel
theorem d_Mo_differ_53 : decode prog_7_method_27_code 53 = .ok (.getfield 57, 3) := by decide +kernel
theorem d_Mo_differ_56 : decode prog_7_method_27_code 56 = .ok (.iload_n 3, 1) := by decide +kernel
theorem d_Mo_differ_57 : decode prog_7_method_27_code 57 = .ok (.iaload, 1) := by decide +kernel
theorem d_Mo_differ_58 : decode prog_7_method_27_code 58 = .ok (.aload_n 0, 1) := by decide +kernel
theorem d_Mo_differ_59 : decode prog_7_method_27_code 59 = .ok (.getfield 54, 3) := by decide +kernel
theorem d_Mo_differ_62 : decode prog_7_method_27_code 62 = .ok (.iload_n 3, 1) := by decide +kernel
theorem d_Mo_differ_63 : decode prog_7_method_27_code 63 = .ok (.iaload, 1) := by decide +kernel
theorem d_Mo_differ_64 : decode prog_7_method_27_code 64 = .ok (.if_icmp .eq 13, 3) := by decide +kernel
theorem d_Mo_differ_67 : decode prog_7_method_27_code 67 = .ok (.iload_n 2, 1) := by decide +kernel
theorem d_Mo_differ_68 : decode prog_7_method_27_code 68 = .ok (.iload_n 1, 1) := by decide +kernel
theorem d_Mo_differ_69 : decode prog_7_method_27_code 69 = .ok (.if_icmp .ne 5, 3) := by decide +kernel
theorem d_Mo_differ_72 : decode prog_7_method_27_code 72 = .ok (.iload_n 3, 1) := by decide +kernel
theorem d_Mo_differ_73 : decode prog_7_method_27_code 73 = .ok (.ireturn, 1) := by decide +kernel
theorem d_Mo_differ_74 : decode prog_7_method_27_code 74 = .ok (.iinc 2 1, 3) := by decide +kernel
theorem d_Mo_differ_77 : decode prog_7_method_27_code 77 = .ok (.iinc 3 1, 3) := by decide +kernel
theorem d_Mo_differ_80 : decode prog_7_method_27_code 80 = .ok (.goto (-54), 3) := by decide +kernel
theorem d_Mo_differ_83 : decode prog_7_method_27_code 83 = .ok (.iconst (-1), 1) := by decide +kernel
theorem d_Mo_differ_84 : decode prog_7_method_27_code 84 = .ok (.ireturn, 1) := by decide +kernel
theorem d_Mo_currency_0 : decode prog_7_method_28_code 0 = .ok (.aload_n 0, 1) := by decide +kernel
theorem d_Mo_currency_1 : decode prog_7_method_28_code 1 = .ok (.iload_n 1, 1) := by decide +kernel
theorem d_Mo_currency_2 : decode prog_7_method_28_code 2 = .ok (.iconst 0, 1) := by decide +kernel
theorem d_Mo_currency_3 : decode prog_7_method_28_code 3 = .ok (.sipush 10000, 3) := by decide +kernel
theorem d_Mo_currency_6 : decode prog_7_method_28_code 6 = .ok (.invokestatic 124, 3) := by decide +kernel
theorem d_Mo_currency_9 : decode prog_7_method_28_code 9 = .ok (.ifCond .ne 23, 3) := by decide +kernel
theorem d_Mo_currency_12 : decode prog_7_method_28_code 12 = .ok (.iload_n 2, 1) := by decide +kernel
theorem d_Mo_currency_13 : decode prog_7_method_28_code 13 = .ok (.iconst 1, 1) := by decide +kernel
theorem d_Mo_currency_14 : decode prog_7_method_28_code 14 = .ok (.ldc 100, 2) := by decide +kernel
theorem d_Mo_currency_16 : decode prog_7_method_28_code 16 = .ok (.invokestatic 124, 3) := by decide +kernel
theorem d_Mo_currency_19 : decode prog_7_method_28_code 19 = .ok (.ifCond .ne 13, 3) := by decide +kernel
theorem d_Mo_currency_22 : decode prog_7_method_28_code 22 = .ok (.iload_n 3, 1) := by decide +kernel
theorem d_Mo_currency_23 : decode prog_7_method_28_code 23 = .ok (.iconst 1, 1) := by decide +kernel
theorem d_Mo_currency_24 : decode prog_7_method_28_code 24 = .ok (.ldc 100, 2) := by decide +kernel
theorem d_Mo_currency_26 : decode prog_7_method_28_code 26 = .ok (.invokestatic 124, 3) := by decide +kernel
theorem d_Mo_currency_29 : decode prog_7_method_28_code 29 = .ok (.ifCond .eq 7, 3) := by decide +kernel
theorem d_Mo_currency_32 : decode prog_7_method_28_code 32 = .ok (.iconst 1, 1) := by decide +kernel
theorem d_Mo_currency_33 : decode prog_7_method_28_code 33 = .ok (.goto 4, 3) := by decide +kernel
theorem d_Mo_currency_36 : decode prog_7_method_28_code 36 = .ok (.iconst 0, 1) := by decide +kernel
theorem d_Mo_currency_37 : decode prog_7_method_28_code 37 = .ok (.putfield 7, 3) := by decide +kernel
theorem d_Mo_currency_40 : decode prog_7_method_28_code 40 = .ok (.aload_n 0, 1) := by decide +kernel
theorem d_Mo_currency_41 : decode prog_7_method_28_code 41 = .ok (.getfield 7, 3) := by decide +kernel
theorem d_Mo_currency_44 : decode prog_7_method_28_code 44 = .ok (.ifCond .eq 5, 3) := by decide +kernel
theorem d_Mo_currency_47 : decode prog_7_method_28_code 47 = .ok (.iconst 0, 1) := by decide +kernel
theorem d_Mo_currency_48 : decode prog_7_method_28_code 48 = .ok (.ireturn, 1) := by decide +kernel
theorem d_Mo_currency_49 : decode prog_7_method_28_code 49 = .ok (.iconst 0, 1) := by decide +kernel
theorem d_Mo_currency_50 : decode prog_7_method_28_code 50 = .ok (.istore 4, 2) := by decide +kernel
theorem d_Mo_currency_52 : decode prog_7_method_28_code 52 = .ok (.iload 4, 2) := by decide +kernel
theorem d_Mo_currency_54 : decode prog_7_method_28_code 54 = .ok (.aload_n 0, 1) := by decide +kernel
theorem d_Mo_currency_55 : decode prog_7_method_28_code 55 = .ok (.getfield 72, 3) := by decide +kernel
theorem d_Mo_currency_58 : decode prog_7_method_28_code 58 = .ok (.if_icmp .ge 20, 3) := by decide +kernel
theorem d_Mo_currency_61 : decode prog_7_method_28_code 61 = .ok (.aload_n 0, 1) := by decide +kernel
theorem d_Mo_currency_62 : decode prog_7_method_28_code 62 = .ok (.getfield 75, 3) := by decide +kernel
theorem d_Mo_currency_65 : decode prog_7_method_28_code 65 = .ok (.iload 4, 2) := by decide +kernel
theorem d_Mo_currency_67 : decode prog_7_method_28_code 67 = .ok (.iaload, 1) := by decide +kernel
theorem d_Mo_currency_68 : decode prog_7_method_28_code 68 = .ok (.iload_n 1, 1) := by decide +kernel
theorem d_Mo_currency_69 : decode prog_7_method_28_code 69 = .ok (.if_icmp .eq 9, 3) := by decide +kernel
theorem d_Mo_currency_72 : decode prog_7_method_28_code 72 = .ok (.iinc 4 1, 3) := by decide +kernel
theorem d_Mo_currency_75 : decode prog_7_method_28_code 75 = .ok (.goto (-23), 3) := by decide +kernel
theorem d_Mo_currency_78 : decode prog_7_method_28_code 78 = .ok (.aload_n 0, 1) := by decide +kernel
theorem d_Mo_currency_79 : decode prog_7_method_28_code 79 = .ok (.iload 4, 2) := by decide +kernel
theorem d_Mo_currency_81 : decode prog_7_method_28_code 81 = .ok (.bipush 8, 2) := by decide +kernel
theorem d_Mo_currency_83 : decode prog_7_method_28_code 83 = .ok (.if_icmp .ne 7, 3) := by decide +kernel
theorem d_Mo_currency_86 : decode prog_7_method_28_code 86 = .ok (.iconst 2, 1) := by decide +kernel
theorem d_Mo_currency_87 : decode prog_7_method_28_code 87 = .ok (.goto 4, 3) := by decide +kernel
theorem d_Mo_currency_90 : decode prog_7_method_28_code 90 = .ok (.iconst 0, 1) := by decide +kernel
theorem d_Mo_currency_91 : decode prog_7_method_28_code 91 = .ok (.putfield 7, 3) := by decide +kernel
theorem d_Mo_currency_94 : decode prog_7_method_28_code 94 = .ok (.aload_n 0, 1) := by decide +kernel
theorem d_Mo_currency_95 : decode prog_7_method_28_code 95 = .ok (.getfield 7, 3) := by decide +kernel
theorem d_Mo_currency_98 : decode prog_7_method_28_code 98 = .ok (.ifCond .eq 5, 3) := by decide +kernel
theorem d_Mo_currency_101 : decode prog_7_method_28_code 101 = .ok (.iconst 0, 1) := by decide +kernel
theorem d_Mo_currency_102 : decode prog_7_method_28_code 102 = .ok (.ireturn, 1) := by decide +kernel
theorem d_Mo_currency_103 : decode prog_7_method_28_code 103 = .ok (.iload 4, 2) := by decide +kernel
theorem d_Mo_currency_105 : decode prog_7_method_28_code 105 = .ok (.aload_n 0, 1) := by decide +kernel
theorem d_Mo_currency_106 : decode prog_7_method_28_code 106 = .ok (.getfield 72, 3) := by decide +kernel
theorem d_Mo_currency_109 : decode prog_7_method_28_code 109 = .ok (.if_icmp .ne 13, 3) := by decide +kernel
theorem d_Mo_currency_112 : decode prog_7_method_28_code 112 = .ok (.aload_n 0, 1) := by decide +kernel
theorem d_Mo_currency_113 : decode prog_7_method_28_code 113 = .ok (.dup, 1) := by decide +kernel
theorem d_Mo_currency_114 : decode prog_7_method_28_code 114 = .ok (.getfield 72, 3) := by decide +kernel
theorem d_Mo_currency_117 : decode prog_7_method_28_code 117 = .ok (.iconst 1, 1) := by decide +kernel
theorem d_Mo_currency_118 : decode prog_7_method_28_code 118 = .ok (.iadd, 1) := by decide +kernel
theorem d_Mo_currency_119 : decode prog_7_method_28_code 119 = .ok (.putfield 72, 3) := by decide +kernel
theorem d_Mo_currency_122 : decode prog_7_method_28_code 122 = .ok (.aload_n 0, 1) := by decide +kernel
theorem d_Mo_currency_123 : decode prog_7_method_28_code 123 = .ok (.getfield 75, 3) := by decide +kernel
theorem d_Mo_currency_126 : decode prog_7_method_28_code 126 = .ok (.iload 4, 2) := by decide +kernel
theorem d_Mo_currency_128 : decode prog_7_method_28_code 128 = .ok (.iload_n 1, 1) := by decide +kernel
theorem d_Mo_currency_129 : decode prog_7_method_28_code 129 = .ok (.iastore, 1) := by decide +kernel
theorem d_Mo_currency_130 : decode prog_7_method_28_code 130 = .ok (.aload_n 0, 1) := by decide +kernel
theorem d_Mo_currency_131 : decode prog_7_method_28_code 131 = .ok (.getfield 78, 3) := by decide +kernel
theorem d_Mo_currency_134 : decode prog_7_method_28_code 134 = .ok (.iload 4, 2) := by decide +kernel
theorem d_Mo_currency_136 : decode prog_7_method_28_code 136 = .ok (.iload_n 2, 1) := by decide +kernel
theorem d_Mo_currency_137 : decode prog_7_method_28_code 137 = .ok (.iastore, 1) := by decide +kernel
theorem d_Mo_currency_138 : decode prog_7_method_28_code 138 = .ok (.aload_n 0, 1) := by decide +kernel
theorem d_Mo_currency_139 : decode prog_7_method_28_code 139 = .ok (.getfield 81, 3) := by decide +kernel
theorem d_Mo_currency_142 : decode prog_7_method_28_code 142 = .ok (.iload 4, 2) := by decide +kernel
theorem d_Mo_currency_144 : decode prog_7_method_28_code 144 = .ok (.iload_n 3, 1) := by decide +kernel
theorem d_Mo_currency_145 : decode prog_7_method_28_code 145 = .ok (.iastore, 1) := by decide +kernel
theorem d_Mo_currency_146 : decode prog_7_method_28_code 146 = .ok (.aload_n 0, 1) := by decide +kernel
theorem d_Mo_currency_147 : decode prog_7_method_28_code 147 = .ok (.getfield 72, 3) := by decide +kernel
theorem d_Mo_currency_150 : decode prog_7_method_28_code 150 = .ok (.ireturn, 1) := by decide +kernel
theorem d_Mo_converted_0 : decode prog_7_method_29_code 0 = .ok (.aload_n 0, 1) := by decide +kernel
theorem d_Mo_converted_1 : decode prog_7_method_29_code 1 = .ok (.iload_n 1, 1) := by decide +kernel
theorem d_Mo_converted_2 : decode prog_7_method_29_code 2 = .ok (.iconst 0, 1) := by decide +kernel
theorem d_Mo_converted_3 : decode prog_7_method_29_code 3 = .ok (.ldc 140, 2) := by decide +kernel
theorem d_Mo_converted_5 : decode prog_7_method_29_code 5 = .ok (.invokestatic 124, 3) := by decide +kernel
theorem d_Mo_converted_8 : decode prog_7_method_29_code 8 = .ok (.ifCond .ne 14, 3) := by decide +kernel
theorem d_Mo_converted_11 : decode prog_7_method_29_code 11 = .ok (.iload_n 2, 1) := by decide +kernel
theorem d_Mo_converted_12 : decode prog_7_method_29_code 12 = .ok (.iconst 0, 1) := by decide +kernel
theorem d_Mo_converted_13 : decode prog_7_method_29_code 13 = .ok (.sipush 10000, 3) := by decide +kernel
theorem d_Mo_converted_16 : decode prog_7_method_29_code 16 = .ok (.invokestatic 124, 3) := by decide +kernel
theorem d_Mo_converted_19 : decode prog_7_method_29_code 19 = .ok (.ifCond .eq 7, 3) := by decide +kernel
theorem d_Mo_converted_22 : decode prog_7_method_29_code 22 = .ok (.iconst 1, 1) := by decide +kernel
theorem d_Mo_converted_23 : decode prog_7_method_29_code 23 = .ok (.goto 4, 3) := by decide +kernel
theorem d_Mo_converted_26 : decode prog_7_method_29_code 26 = .ok (.iconst 0, 1) := by decide +kernel
theorem d_Mo_converted_27 : decode prog_7_method_29_code 27 = .ok (.putfield 7, 3) := by decide +kernel
theorem d_Mo_converted_30 : decode prog_7_method_29_code 30 = .ok (.aload_n 0, 1) := by decide +kernel
theorem d_Mo_converted_31 : decode prog_7_method_29_code 31 = .ok (.getfield 7, 3) := by decide +kernel
theorem d_Mo_converted_34 : decode prog_7_method_29_code 34 = .ok (.ifCond .eq 5, 3) := by decide +kernel
theorem d_Mo_converted_37 : decode prog_7_method_29_code 37 = .ok (.lconst 0, 1) := by decide +kernel
theorem d_Mo_converted_38 : decode prog_7_method_29_code 38 = .ok (.lreturn, 1) := by decide +kernel
theorem d_Mo_converted_39 : decode prog_7_method_29_code 39 = .ok (.iconst (-1), 1) := by decide +kernel
theorem d_Mo_converted_40 : decode prog_7_method_29_code 40 = .ok (.istore_n 3, 1) := by decide +kernel
theorem d_Mo_converted_41 : decode prog_7_method_29_code 41 = .ok (.iconst 0, 1) := by decide +kernel
theorem d_Mo_converted_42 : decode prog_7_method_29_code 42 = .ok (.istore 4, 2) := by decide +kernel
theorem d_Mo_converted_44 : decode prog_7_method_29_code 44 = .ok (.iload 4, 2) := by decide +kernel
theorem d_Mo_converted_46 : decode prog_7_method_29_code 46 = .ok (.aload_n 0, 1) := by decide +kernel
theorem d_Mo_converted_47 : decode prog_7_method_29_code 47 = .ok (.getfield 72, 3) := by decide +kernel
theorem d_Mo_converted_50 : decode prog_7_method_29_code 50 = .ok (.if_icmp .ge 43, 3) := by decide +kernel
theorem d_Mo_converted_53 : decode prog_7_method_29_code 53 = .ok (.aload_n 0, 1) := by decide +kernel
theorem d_Mo_converted_54 : decode prog_7_method_29_code 54 = .ok (.getfield 75, 3) := by decide +kernel
theorem d_Mo_converted_57 : decode prog_7_method_29_code 57 = .ok (.iload 4, 2) := by decide +kernel
theorem d_Mo_converted_59 : decode prog_7_method_29_code 59 = .ok (.iaload, 1) := by decide +kernel
theorem d_Mo_converted_60 : decode prog_7_method_29_code 60 = .ok (.iload_n 2, 1) := by decide +kernel
theorem d_Mo_converted_61 : decode prog_7_method_29_code 61 = .ok (.if_icmp .gt 26, 3) := by decide +kernel
theorem d_Mo_converted_64 : decode prog_7_method_29_code 64 = .ok (.iload_n 3, 1) := by decide +kernel
theorem d_Mo_converted_65 : decode prog_7_method_29_code 65 = .ok (.ifCond .lt 19, 3) := by decide +kernel
theorem d_Mo_converted_68 : decode prog_7_method_29_code 68 = .ok (.aload_n 0, 1) := by decide +kernel
theorem d_Mo_converted_69 : decode prog_7_method_29_code 69 = .ok (.getfield 75, 3) := by decide +kernel
theorem d_Mo_converted_72 : decode prog_7_method_29_code 72 = .ok (.iload 4, 2) := by decide +kernel
theorem d_Mo_converted_74 : decode prog_7_method_29_code 74 = .ok (.iaload, 1) := by decide +kernel
end
section
theorem d_Mo_converted_75 : decode prog_7_method_29_code 75 = .ok (.aload_n 0, 1) := by decide +kernel
theorem d_Mo_converted_76 : decode prog_7_method_29_code 76 = .ok (.getfield 75, 3) := by decide +kernel
theorem d_Mo_converted_79 : decode prog_7_method_29_code 79 = .ok (.iload_n 3, 1) := by decide +kernel
theorem d_Mo_converted_80 : decode prog_7_method_29_code 80 = .ok (.iaload, 1) := by decide +kernel
theorem d_Mo_converted_81 : decode prog_7_method_29_code 81 = .ok (.if_icmp .le 6, 3) := by decide +kernel
theorem d_Mo_converted_84 : decode prog_7_method_29_code 84 = .ok (.iload 4, 2) := by decide +kernel
theorem d_Mo_converted_86 : decode prog_7_method_29_code 86 = .ok (.istore_n 3, 1) := by decide +kernel
theorem d_Mo_converted_87 : decode prog_7_method_29_code 87 = .ok (.iinc 4 1, 3) := by decide +kernel
theorem d_Mo_converted_90 : decode prog_7_method_29_code 90 = .ok (.goto (-46), 3) := by decide +kernel
theorem d_Mo_converted_93 : decode prog_7_method_29_code 93 = .ok (.iload_n 3, 1) := by decide +kernel
theorem d_Mo_converted_94 : decode prog_7_method_29_code 94 = .ok (.ifCond .ge 9, 3) := by decide +kernel
theorem d_Mo_converted_97 : decode prog_7_method_29_code 97 = .ok (.ldc2_w 141, 3) := by decide +kernel
theorem d_Mo_converted_100 : decode prog_7_method_29_code 100 = .ok (.goto 21, 3) := by decide +kernel
theorem d_Mo_converted_103 : decode prog_7_method_29_code 103 = .ok (.iload_n 1, 1) := by decide +kernel
theorem d_Mo_converted_104 : decode prog_7_method_29_code 104 = .ok (.i2l, 1) := by decide +kernel
theorem d_Mo_converted_105 : decode prog_7_method_29_code 105 = .ok (.aload_n 0, 1) := by decide +kernel
theorem d_Mo_converted_106 : decode prog_7_method_29_code 106 = .ok (.getfield 78, 3) := by decide +kernel
theorem d_Mo_converted_109 : decode prog_7_method_29_code 109 = .ok (.iload_n 3, 1) := by decide +kernel
theorem d_Mo_converted_110 : decode prog_7_method_29_code 110 = .ok (.iaload, 1) := by decide +kernel
theorem d_Mo_converted_111 : decode prog_7_method_29_code 111 = .ok (.i2l, 1) := by decide +kernel
theorem d_Mo_converted_112 : decode prog_7_method_29_code 112 = .ok (.lmul, 1) := by decide +kernel
theorem d_Mo_converted_113 : decode prog_7_method_29_code 113 = .ok (.aload_n 0, 1) := by decide +kernel
theorem d_Mo_converted_114 : decode prog_7_method_29_code 114 = .ok (.getfield 81, 3) := by decide +kernel
theorem d_Mo_converted_117 : decode prog_7_method_29_code 117 = .ok (.iload_n 3, 1) := by decide +kernel
theorem d_Mo_converted_118 : decode prog_7_method_29_code 118 = .ok (.iaload, 1) := by decide +kernel
theorem d_Mo_converted_119 : decode prog_7_method_29_code 119 = .ok (.i2l, 1) := by decide +kernel
theorem d_Mo_converted_120 : decode prog_7_method_29_code 120 = .ok (.ldiv, 1) := by decide +kernel
theorem d_Mo_converted_121 : decode prog_7_method_29_code 121 = .ok (.lreturn, 1) := by decide +kernel
theorem d_Mo_told_0 : decode prog_7_method_30_code 0 = .ok (.aload_n 0, 1) := by decide +kernel
theorem d_Mo_told_1 : decode prog_7_method_30_code 1 = .ok (.aload_n 0, 1) := by decide +kernel
theorem d_Mo_told_2 : decode prog_7_method_30_code 2 = .ok (.iload_n 1, 1) := by decide +kernel
theorem d_Mo_told_3 : decode prog_7_method_30_code 3 = .ok (.invokevirtual 133, 3) := by decide +kernel
theorem d_Mo_told_6 : decode prog_7_method_30_code 6 = .ok (.ifCond .eq 7, 3) := by decide +kernel
theorem d_Mo_told_9 : decode prog_7_method_30_code 9 = .ok (.iconst 1, 1) := by decide +kernel
theorem d_Mo_told_10 : decode prog_7_method_30_code 10 = .ok (.goto 17, 3) := by decide +kernel
theorem d_Mo_told_13 : decode prog_7_method_30_code 13 = .ok (.iload_n 2, 1) := by decide +kernel
theorem d_Mo_told_14 : decode prog_7_method_30_code 14 = .ok (.iconst 0, 1) := by decide +kernel
theorem d_Mo_told_15 : decode prog_7_method_30_code 15 = .ok (.iconst 5, 1) := by decide +kernel
theorem d_Mo_told_16 : decode prog_7_method_30_code 16 = .ok (.invokestatic 124, 3) := by decide +kernel
theorem d_Mo_told_19 : decode prog_7_method_30_code 19 = .ok (.ifCond .eq 7, 3) := by decide +kernel
theorem d_Mo_told_22 : decode prog_7_method_30_code 22 = .ok (.iconst 2, 1) := by decide +kernel
theorem d_Mo_told_23 : decode prog_7_method_30_code 23 = .ok (.goto 4, 3) := by decide +kernel
theorem d_Mo_told_26 : decode prog_7_method_30_code 26 = .ok (.iconst 0, 1) := by decide +kernel
theorem d_Mo_told_27 : decode prog_7_method_30_code 27 = .ok (.putfield 7, 3) := by decide +kernel
theorem d_Mo_told_30 : decode prog_7_method_30_code 30 = .ok (.aload_n 0, 1) := by decide +kernel
theorem d_Mo_told_31 : decode prog_7_method_30_code 31 = .ok (.getfield 7, 3) := by decide +kernel
theorem d_Mo_told_34 : decode prog_7_method_30_code 34 = .ok (.ifCond .eq 5, 3) := by decide +kernel
theorem d_Mo_told_37 : decode prog_7_method_30_code 37 = .ok (.iconst 0, 1) := by decide +kernel
theorem d_Mo_told_38 : decode prog_7_method_30_code 38 = .ok (.ireturn, 1) := by decide +kernel
theorem d_Mo_told_39 : decode prog_7_method_30_code 39 = .ok (.iload_n 2, 1) := by decide +kernel
theorem d_Mo_told_40 : decode prog_7_method_30_code 40 = .ok (.tableswitch 71 0 4 #[36, 43, 50, 57, 64], 36) := by decide +kernel
theorem d_Mo_told_76 : decode prog_7_method_30_code 76 = .ok (.aload_n 0, 1) := by decide +kernel
theorem d_Mo_told_77 : decode prog_7_method_30_code 77 = .ok (.getfield 42, 3) := by decide +kernel
theorem d_Mo_told_80 : decode prog_7_method_30_code 80 = .ok (.iload_n 1, 1) := by decide +kernel
theorem d_Mo_told_81 : decode prog_7_method_30_code 81 = .ok (.iaload, 1) := by decide +kernel
theorem d_Mo_told_82 : decode prog_7_method_30_code 82 = .ok (.ireturn, 1) := by decide +kernel
theorem d_Mo_told_83 : decode prog_7_method_30_code 83 = .ok (.aload_n 0, 1) := by decide +kernel
theorem d_Mo_told_84 : decode prog_7_method_30_code 84 = .ok (.getfield 45, 3) := by decide +kernel
theorem d_Mo_told_87 : decode prog_7_method_30_code 87 = .ok (.iload_n 1, 1) := by decide +kernel
theorem d_Mo_told_88 : decode prog_7_method_30_code 88 = .ok (.iaload, 1) := by decide +kernel
theorem d_Mo_told_89 : decode prog_7_method_30_code 89 = .ok (.ireturn, 1) := by decide +kernel
theorem d_Mo_told_90 : decode prog_7_method_30_code 90 = .ok (.aload_n 0, 1) := by decide +kernel
theorem d_Mo_told_91 : decode prog_7_method_30_code 91 = .ok (.getfield 48, 3) := by decide +kernel
theorem d_Mo_told_94 : decode prog_7_method_30_code 94 = .ok (.iload_n 1, 1) := by decide +kernel
theorem d_Mo_told_95 : decode prog_7_method_30_code 95 = .ok (.iaload, 1) := by decide +kernel
theorem d_Mo_told_96 : decode prog_7_method_30_code 96 = .ok (.ireturn, 1) := by decide +kernel
theorem d_Mo_told_97 : decode prog_7_method_30_code 97 = .ok (.aload_n 0, 1) := by decide +kernel
theorem d_Mo_told_98 : decode prog_7_method_30_code 98 = .ok (.getfield 51, 3) := by decide +kernel
theorem d_Mo_told_101 : decode prog_7_method_30_code 101 = .ok (.iload_n 1, 1) := by decide +kernel
theorem d_Mo_told_102 : decode prog_7_method_30_code 102 = .ok (.iaload, 1) := by decide +kernel
theorem d_Mo_told_103 : decode prog_7_method_30_code 103 = .ok (.ireturn, 1) := by decide +kernel
theorem d_Mo_told_104 : decode prog_7_method_30_code 104 = .ok (.aload_n 0, 1) := by decide +kernel
theorem d_Mo_told_105 : decode prog_7_method_30_code 105 = .ok (.getfield 54, 3) := by decide +kernel
theorem d_Mo_told_108 : decode prog_7_method_30_code 108 = .ok (.iload_n 1, 1) := by decide +kernel
theorem d_Mo_told_109 : decode prog_7_method_30_code 109 = .ok (.iaload, 1) := by decide +kernel
theorem d_Mo_told_110 : decode prog_7_method_30_code 110 = .ok (.ireturn, 1) := by decide +kernel
theorem d_Mo_told_111 : decode prog_7_method_30_code 111 = .ok (.aload_n 0, 1) := by decide +kernel
theorem d_Mo_told_112 : decode prog_7_method_30_code 112 = .ok (.getfield 57, 3) := by decide +kernel
theorem d_Mo_told_115 : decode prog_7_method_30_code 115 = .ok (.iload_n 1, 1) := by decide +kernel
theorem d_Mo_told_116 : decode prog_7_method_30_code 116 = .ok (.iaload, 1) := by decide +kernel
theorem d_Mo_told_117 : decode prog_7_method_30_code 117 = .ok (.ireturn, 1) := by decide +kernel
theorem d_Mo_count_0 : decode prog_7_method_31_code 0 = .ok (.aload_n 0, 1) := by decide +kernel
theorem d_Mo_count_1 : decode prog_7_method_31_code 1 = .ok (.iconst 0, 1) := by decide +kernel
theorem d_Mo_count_2 : decode prog_7_method_31_code 2 = .ok (.putfield 7, 3) := by decide +kernel
theorem d_Mo_count_5 : decode prog_7_method_31_code 5 = .ok (.iconst 0, 1) := by decide +kernel
theorem d_Mo_count_6 : decode prog_7_method_31_code 6 = .ok (.istore_n 2, 1) := by decide +kernel
theorem d_Mo_count_7 : decode prog_7_method_31_code 7 = .ok (.iconst 0, 1) := by decide +kernel
theorem d_Mo_count_8 : decode prog_7_method_31_code 8 = .ok (.istore_n 3, 1) := by decide +kernel
theorem d_Mo_count_9 : decode prog_7_method_31_code 9 = .ok (.iconst 0, 1) := by decide +kernel
theorem d_Mo_count_10 : decode prog_7_method_31_code 10 = .ok (.istore 4, 2) := by decide +kernel
theorem d_Mo_count_12 : decode prog_7_method_31_code 12 = .ok (.iconst 0, 1) := by decide +kernel
theorem d_Mo_count_13 : decode prog_7_method_31_code 13 = .ok (.istore 5, 2) := by decide +kernel
theorem d_Mo_count_15 : decode prog_7_method_31_code 15 = .ok (.iconst 0, 1) := by decide +kernel
theorem d_Mo_count_16 : decode prog_7_method_31_code 16 = .ok (.istore 6, 2) := by decide +kernel
theorem d_Mo_count_18 : decode prog_7_method_31_code 18 = .ok (.iload 6, 2) := by decide +kernel
theorem d_Mo_count_20 : decode prog_7_method_31_code 20 = .ok (.aload_n 0, 1) := by decide +kernel
theorem d_Mo_count_21 : decode prog_7_method_31_code 21 = .ok (.getfield 35, 3) := by decide +kernel
theorem d_Mo_count_24 : decode prog_7_method_31_code 24 = .ok (.if_icmp .ge 127, 3) := by decide +kernel
theorem d_Mo_count_27 : decode prog_7_method_31_code 27 = .ok (.iload_n 2, 1) := by decide +kernel
theorem d_Mo_count_28 : decode prog_7_method_31_code 28 = .ok (.aload_n 0, 1) := by decide +kernel
theorem d_Mo_count_29 : decode prog_7_method_31_code 29 = .ok (.getfield 38, 3) := by decide +kernel
theorem d_Mo_count_32 : decode prog_7_method_31_code 32 = .ok (.iload 6, 2) := by decide +kernel
theorem d_Mo_count_34 : decode prog_7_method_31_code 34 = .ok (.baload, 1) := by decide +kernel
theorem d_Mo_count_35 : decode prog_7_method_31_code 35 = .ok (.ifCond .eq 7, 3) := by decide +kernel
theorem d_Mo_count_38 : decode prog_7_method_31_code 38 = .ok (.iconst 0, 1) := by decide +kernel
theorem d_Mo_count_39 : decode prog_7_method_31_code 39 = .ok (.goto 4, 3) := by decide +kernel
theorem d_Mo_count_42 : decode prog_7_method_31_code 42 = .ok (.iconst 1, 1) := by decide +kernel
theorem d_Mo_count_43 : decode prog_7_method_31_code 43 = .ok (.iadd, 1) := by decide +kernel
theorem d_Mo_count_44 : decode prog_7_method_31_code 44 = .ok (.istore_n 2, 1) := by decide +kernel
theorem d_Mo_count_45 : decode prog_7_method_31_code 45 = .ok (.iload_n 3, 1) := by decide +kernel
theorem d_Mo_count_46 : decode prog_7_method_31_code 46 = .ok (.aload_n 0, 1) := by decide +kernel
theorem d_Mo_count_47 : decode prog_7_method_31_code 47 = .ok (.getfield 38, 3) := by decide +kernel
theorem d_Mo_count_50 : decode prog_7_method_31_code 50 = .ok (.iload 6, 2) := by decide +kernel
theorem d_Mo_count_52 : decode prog_7_method_31_code 52 = .ok (.baload, 1) := by decide +kernel
theorem d_Mo_count_53 : decode prog_7_method_31_code 53 = .ok (.ifCond .ne 17, 3) := by decide +kernel
theorem d_Mo_count_56 : decode prog_7_method_31_code 56 = .ok (.aload_n 0, 1) := by decide +kernel
theorem d_Mo_count_57 : decode prog_7_method_31_code 57 = .ok (.getfield 51, 3) := by decide +kernel
theorem d_Mo_count_60 : decode prog_7_method_31_code 60 = .ok (.iload 6, 2) := by decide +kernel
theorem d_Mo_count_62 : decode prog_7_method_31_code 62 = .ok (.iaload, 1) := by decide +kernel
theorem d_Mo_count_63 : decode prog_7_method_31_code 63 = .ok (.ifCond .lt 7, 3) := by decide +kernel
theorem d_Mo_count_66 : decode prog_7_method_31_code 66 = .ok (.iconst 1, 1) := by decide +kernel
theorem d_Mo_count_67 : decode prog_7_method_31_code 67 = .ok (.goto 4, 3) := by decide +kernel
theorem d_Mo_count_70 : decode prog_7_method_31_code 70 = .ok (.iconst 0, 1) := by decide +kernel
theorem d_Mo_count_71 : decode prog_7_method_31_code 71 = .ok (.iadd, 1) := by decide +kernel
theorem d_Mo_count_72 : decode prog_7_method_31_code 72 = .ok (.istore_n 3, 1) := by decide +kernel
theorem d_Mo_count_73 : decode prog_7_method_31_code 73 = .ok (.iload 4, 2) := by decide +kernel
theorem d_Mo_count_75 : decode prog_7_method_31_code 75 = .ok (.aload_n 0, 1) := by decide +kernel
theorem d_Mo_count_76 : decode prog_7_method_31_code 76 = .ok (.getfield 38, 3) := by decide +kernel
theorem d_Mo_count_79 : decode prog_7_method_31_code 79 = .ok (.iload 6, 2) := by decide +kernel
theorem d_Mo_count_81 : decode prog_7_method_31_code 81 = .ok (.baload, 1) := by decide +kernel
theorem d_Mo_count_82 : decode prog_7_method_31_code 82 = .ok (.ifCond .ne 23, 3) := by decide +kernel
theorem d_Mo_count_85 : decode prog_7_method_31_code 85 = .ok (.aload_n 0, 1) := by decide +kernel
theorem d_Mo_count_86 : decode prog_7_method_31_code 86 = .ok (.getfield 51, 3) := by decide +kernel
theorem d_Mo_count_89 : decode prog_7_method_31_code 89 = .ok (.iload 6, 2) := by decide +kernel
theorem d_Mo_count_91 : decode prog_7_method_31_code 91 = .ok (.iaload, 1) := by decide +kernel
theorem d_Mo_count_92 : decode prog_7_method_31_code 92 = .ok (.ifCond .lt 13, 3) := by decide +kernel
theorem d_Mo_count_95 : decode prog_7_method_31_code 95 = .ok (.aload_n 0, 1) := by decide +kernel
theorem d_Mo_count_96 : decode prog_7_method_31_code 96 = .ok (.getfield 54, 3) := by decide +kernel
theorem d_Mo_count_99 : decode prog_7_method_31_code 99 = .ok (.iload 6, 2) := by decide +kernel
theorem d_Mo_count_101 : decode prog_7_method_31_code 101 = .ok (.iaload, 1) := by decide +kernel
theorem d_Mo_count_102 : decode prog_7_method_31_code 102 = .ok (.goto 4, 3) := by decide +kernel
theorem d_Mo_count_105 : decode prog_7_method_31_code 105 = .ok (.iconst 0, 1) := by decide +kernel
theorem d_Mo_count_106 : decode prog_7_method_31_code 106 = .ok (.iadd, 1) := by decide +kernel
theorem d_Mo_count_107 : decode prog_7_method_31_code 107 = .ok (.istore 4, 2) := by decide +kernel
theorem d_Mo_count_109 : decode prog_7_method_31_code 109 = .ok (.iload 5, 2) := by decide +kernel
theorem d_Mo_count_111 : decode prog_7_method_31_code 111 = .ok (.aload_n 0, 1) := by decide +kernel
theorem d_Mo_count_112 : decode prog_7_method_31_code 112 = .ok (.getfield 38, 3) := by decide +kernel
theorem d_Mo_count_115 : decode prog_7_method_31_code 115 = .ok (.iload 6, 2) := by decide +kernel
theorem d_Mo_count_117 : decode prog_7_method_31_code 117 = .ok (.baload, 1) := by decide +kernel
theorem d_Mo_count_118 : decode prog_7_method_31_code 118 = .ok (.ifCond .ne 23, 3) := by decide +kernel
theorem d_Mo_count_121 : decode prog_7_method_31_code 121 = .ok (.aload_n 0, 1) := by decide +kernel
theorem d_Mo_count_122 : decode prog_7_method_31_code 122 = .ok (.getfield 57, 3) := by decide +kernel
theorem d_Mo_count_125 : decode prog_7_method_31_code 125 = .ok (.iload 6, 2) := by decide +kernel
theorem d_Mo_count_127 : decode prog_7_method_31_code 127 = .ok (.iaload, 1) := by decide +kernel
theorem d_Mo_count_128 : decode prog_7_method_31_code 128 = .ok (.ifCond .lt 13, 3) := by decide +kernel
theorem d_Mo_count_131 : decode prog_7_method_31_code 131 = .ok (.aload_n 0, 1) := by decide +kernel
theorem d_Mo_count_132 : decode prog_7_method_31_code 132 = .ok (.getfield 57, 3) := by decide +kernel
theorem d_Mo_count_135 : decode prog_7_method_31_code 135 = .ok (.iload 6, 2) := by decide +kernel
theorem d_Mo_count_137 : decode prog_7_method_31_code 137 = .ok (.iaload, 1) := by decide +kernel
theorem d_Mo_count_138 : decode prog_7_method_31_code 138 = .ok (.goto 4, 3) := by decide +kernel
theorem d_Mo_count_141 : decode prog_7_method_31_code 141 = .ok (.iconst 0, 1) := by decide +kernel
theorem d_Mo_count_142 : decode prog_7_method_31_code 142 = .ok (.iadd, 1) := by decide +kernel
theorem d_Mo_count_143 : decode prog_7_method_31_code 143 = .ok (.istore 5, 2) := by decide +kernel
theorem d_Mo_count_145 : decode prog_7_method_31_code 145 = .ok (.iinc 6 1, 3) := by decide +kernel
theorem d_Mo_count_148 : decode prog_7_method_31_code 148 = .ok (.goto (-130), 3) := by decide +kernel
theorem d_Mo_count_151 : decode prog_7_method_31_code 151 = .ok (.iload_n 1, 1) := by decide +kernel
theorem d_Mo_count_152 : decode prog_7_method_31_code 152 = .ok (.tableswitch 60 0 5 #[40, 45, 50, 52, 54, 57], 40) := by decide +kernel
theorem d_Mo_count_192 : decode prog_7_method_31_code 192 = .ok (.aload_n 0, 1) := by decide +kernel
theorem d_Mo_count_193 : decode prog_7_method_31_code 193 = .ok (.getfield 17, 3) := by decide +kernel
theorem d_Mo_count_196 : decode prog_7_method_31_code 196 = .ok (.ireturn, 1) := by decide +kernel
theorem d_Mo_count_197 : decode prog_7_method_31_code 197 = .ok (.aload_n 0, 1) := by decide +kernel
theorem d_Mo_count_198 : decode prog_7_method_31_code 198 = .ok (.getfield 20, 3) := by decide +kernel
theorem d_Mo_count_201 : decode prog_7_method_31_code 201 = .ok (.ireturn, 1) := by decide +kernel
theorem d_Mo_count_202 : decode prog_7_method_31_code 202 = .ok (.iload_n 2, 1) := by decide +kernel
theorem d_Mo_count_203 : decode prog_7_method_31_code 203 = .ok (.ireturn, 1) := by decide +kernel
theorem d_Mo_count_204 : decode prog_7_method_31_code 204 = .ok (.iload_n 3, 1) := by decide +kernel
theorem d_Mo_count_205 : decode prog_7_method_31_code 205 = .ok (.ireturn, 1) := by decide +kernel
theorem d_Mo_count_206 : decode prog_7_method_31_code 206 = .ok (.iload 4, 2) := by decide +kernel
theorem d_Mo_count_208 : decode prog_7_method_31_code 208 = .ok (.ireturn, 1) := by decide +kernel
theorem d_Mo_count_209 : decode prog_7_method_31_code 209 = .ok (.iload 5, 2) := by decide +kernel
theorem d_Mo_count_211 : decode prog_7_method_31_code 211 = .ok (.ireturn, 1) := by decide +kernel
theorem d_Mo_count_212 : decode prog_7_method_31_code 212 = .ok (.iconst (-1), 1) := by decide +kernel
theorem d_Mo_count_213 : decode prog_7_method_31_code 213 = .ok (.ireturn, 1) := by decide +kernel
end
section
theorem d_La_sign_0 : decode method_3_code 0 = .ok (.aload_n 2, 1) := by decide +kernel
theorem d_La_sign_1 : decode method_3_code 1 = .ok (.iconst 0, 1) := by decide +kernel
theorem d_La_sign_2 : decode method_3_code 2 = .ok (.aload_n 0, 1) := by decide +kernel
theorem d_La_sign_3 : decode method_3_code 3 = .ok (.iload_n 1, 1) := by decide +kernel
theorem d_La_sign_4 : decode method_3_code 4 = .ok (.invokevirtual 7, 3) := by decide +kernel
theorem d_La_sign_7 : decode method_3_code 7 = .ok (.i2l, 1) := by decide +kernel
theorem d_La_sign_8 : decode method_3_code 8 = .ok (.lastore, 1) := by decide +kernel
theorem d_La_sign_9 : decode method_3_code 9 = .ok (.goto 9, 3) := by decide +kernel
theorem d_La_sign_12 : decode method_3_code 12 = .ok (.astore_n 3, 1) := by decide +kernel
theorem d_La_sign_13 : decode method_3_code 13 = .ok (.iconst 1, 1) := by decide +kernel
theorem d_La_sign_14 : decode method_3_code 14 = .ok (.ireturn, 1) := by decide +kernel
theorem d_La_sign_15 : decode method_3_code 15 = .ok (.astore_n 3, 1) := by decide +kernel
theorem d_La_sign_16 : decode method_3_code 16 = .ok (.iconst 2, 1) := by decide +kernel
theorem d_La_sign_17 : decode method_3_code 17 = .ok (.ireturn, 1) := by decide +kernel
theorem d_La_sign_18 : decode method_3_code 18 = .ok (.iconst 0, 1) := by decide +kernel
theorem d_La_sign_19 : decode method_3_code 19 = .ok (.ireturn, 1) := by decide +kernel
theorem d_La_shipment_0 : decode method_4_code 0 = .ok (.aload 4, 2) := by decide +kernel
theorem d_La_shipment_2 : decode method_4_code 2 = .ok (.iconst 0, 1) := by decide +kernel
theorem d_La_shipment_3 : decode method_4_code 3 = .ok (.aload_n 0, 1) := by decide +kernel
theorem d_La_shipment_4 : decode method_4_code 4 = .ok (.iload_n 1, 1) := by decide +kernel
theorem d_La_shipment_5 : decode method_4_code 5 = .ok (.iload_n 2, 1) := by decide +kernel
theorem d_La_shipment_6 : decode method_4_code 6 = .ok (.iload_n 3, 1) := by decide +kernel
theorem d_La_shipment_7 : decode method_4_code 7 = .ok (.invokevirtual 17, 3) := by decide +kernel
theorem d_La_shipment_10 : decode method_4_code 10 = .ok (.i2l, 1) := by decide +kernel
theorem d_La_shipment_11 : decode method_4_code 11 = .ok (.lastore, 1) := by decide +kernel
theorem d_La_shipment_12 : decode method_4_code 12 = .ok (.goto 11, 3) := by decide +kernel
theorem d_La_shipment_15 : decode method_4_code 15 = .ok (.astore 5, 2) := by decide +kernel
theorem d_La_shipment_17 : decode method_4_code 17 = .ok (.iconst 1, 1) := by decide +kernel
theorem d_La_shipment_18 : decode method_4_code 18 = .ok (.ireturn, 1) := by decide +kernel
theorem d_La_shipment_19 : decode method_4_code 19 = .ok (.astore 5, 2) := by decide +kernel
theorem d_La_shipment_21 : decode method_4_code 21 = .ok (.iconst 2, 1) := by decide +kernel
theorem d_La_shipment_22 : decode method_4_code 22 = .ok (.ireturn, 1) := by decide +kernel
theorem d_La_shipment_23 : decode method_4_code 23 = .ok (.iconst 0, 1) := by decide +kernel
theorem d_La_shipment_24 : decode method_4_code 24 = .ok (.ireturn, 1) := by decide +kernel
theorem d_La_weight_0 : decode method_5_code 0 = .ok (.aload_n 3, 1) := by decide +kernel
theorem d_La_weight_1 : decode method_5_code 1 = .ok (.iconst 0, 1) := by decide +kernel
theorem d_La_weight_2 : decode method_5_code 2 = .ok (.aload_n 0, 1) := by decide +kernel
theorem d_La_weight_3 : decode method_5_code 3 = .ok (.iload_n 1, 1) := by decide +kernel
theorem d_La_weight_4 : decode method_5_code 4 = .ok (.iload_n 2, 1) := by decide +kernel
theorem d_La_weight_5 : decode method_5_code 5 = .ok (.invokevirtual 21, 3) := by decide +kernel
theorem d_La_weight_8 : decode method_5_code 8 = .ok (.i2l, 1) := by decide +kernel
theorem d_La_weight_9 : decode method_5_code 9 = .ok (.lastore, 1) := by decide +kernel
theorem d_La_weight_10 : decode method_5_code 10 = .ok (.goto 15, 3) := by decide +kernel
theorem d_La_weight_13 : decode method_5_code 13 = .ok (.astore 4, 2) := by decide +kernel
theorem d_La_weight_15 : decode method_5_code 15 = .ok (.iconst 1, 1) := by decide +kernel
theorem d_La_weight_16 : decode method_5_code 16 = .ok (.ireturn, 1) := by decide +kernel
theorem d_La_weight_17 : decode method_5_code 17 = .ok (.astore 4, 2) := by decide +kernel
theorem d_La_weight_19 : decode method_5_code 19 = .ok (.iconst 2, 1) := by decide +kernel
theorem d_La_weight_20 : decode method_5_code 20 = .ok (.ireturn, 1) := by decide +kernel
theorem d_La_weight_21 : decode method_5_code 21 = .ok (.astore 4, 2) := by decide +kernel
theorem d_La_weight_23 : decode method_5_code 23 = .ok (.iconst 3, 1) := by decide +kernel
theorem d_La_weight_24 : decode method_5_code 24 = .ok (.ireturn, 1) := by decide +kernel
theorem d_La_weight_25 : decode method_5_code 25 = .ok (.iconst 0, 1) := by decide +kernel
theorem d_La_weight_26 : decode method_5_code 26 = .ok (.ireturn, 1) := by decide +kernel
theorem d_La_price_0 : decode method_6_code 0 = .ok (.aload_n 3, 1) := by decide +kernel
theorem d_La_price_1 : decode method_6_code 1 = .ok (.iconst 0, 1) := by decide +kernel
theorem d_La_price_2 : decode method_6_code 2 = .ok (.aload_n 0, 1) := by decide +kernel
theorem d_La_price_3 : decode method_6_code 3 = .ok (.iload_n 1, 1) := by decide +kernel
theorem d_La_price_4 : decode method_6_code 4 = .ok (.iload_n 2, 1) := by decide +kernel
theorem d_La_price_5 : decode method_6_code 5 = .ok (.invokevirtual 29, 3) := by decide +kernel
theorem d_La_price_8 : decode method_6_code 8 = .ok (.i2l, 1) := by decide +kernel
theorem d_La_price_9 : decode method_6_code 9 = .ok (.lastore, 1) := by decide +kernel
theorem d_La_price_10 : decode method_6_code 10 = .ok (.goto 15, 3) := by decide +kernel
theorem d_La_price_13 : decode method_6_code 13 = .ok (.astore 4, 2) := by decide +kernel
theorem d_La_price_15 : decode method_6_code 15 = .ok (.iconst 1, 1) := by decide +kernel
theorem d_La_price_16 : decode method_6_code 16 = .ok (.ireturn, 1) := by decide +kernel
theorem d_La_price_17 : decode method_6_code 17 = .ok (.astore 4, 2) := by decide +kernel
theorem d_La_price_19 : decode method_6_code 19 = .ok (.iconst 2, 1) := by decide +kernel
theorem d_La_price_20 : decode method_6_code 20 = .ok (.ireturn, 1) := by decide +kernel
theorem d_La_price_21 : decode method_6_code 21 = .ok (.astore 4, 2) := by decide +kernel
theorem d_La_price_23 : decode method_6_code 23 = .ok (.iconst 3, 1) := by decide +kernel
theorem d_La_price_24 : decode method_6_code 24 = .ok (.ireturn, 1) := by decide +kernel
theorem d_La_price_25 : decode method_6_code 25 = .ok (.iconst 0, 1) := by decide +kernel
theorem d_La_price_26 : decode method_6_code 26 = .ok (.ireturn, 1) := by decide +kernel
theorem d_La_cheapest_0 : decode method_7_code 0 = .ok (.aload_n 2, 1) := by decide +kernel
theorem d_La_cheapest_1 : decode method_7_code 1 = .ok (.iconst 0, 1) := by decide +kernel
theorem d_La_cheapest_2 : decode method_7_code 2 = .ok (.aload_n 0, 1) := by decide +kernel
theorem d_La_cheapest_3 : decode method_7_code 3 = .ok (.iload_n 1, 1) := by decide +kernel
theorem d_La_cheapest_4 : decode method_7_code 4 = .ok (.invokevirtual 32, 3) := by decide +kernel
theorem d_La_cheapest_7 : decode method_7_code 7 = .ok (.i2l, 1) := by decide +kernel
theorem d_La_cheapest_8 : decode method_7_code 8 = .ok (.lastore, 1) := by decide +kernel
theorem d_La_cheapest_9 : decode method_7_code 9 = .ok (.goto 6, 3) := by decide +kernel
theorem d_La_cheapest_12 : decode method_7_code 12 = .ok (.astore_n 3, 1) := by decide +kernel
theorem d_La_cheapest_13 : decode method_7_code 13 = .ok (.iconst 1, 1) := by decide +kernel
theorem d_La_cheapest_14 : decode method_7_code 14 = .ok (.ireturn, 1) := by decide +kernel
theorem d_La_cheapest_15 : decode method_7_code 15 = .ok (.iconst 0, 1) := by decide +kernel
theorem d_La_cheapest_16 : decode method_7_code 16 = .ok (.ireturn, 1) := by decide +kernel
theorem d_La_parcels_0 : decode method_8_code 0 = .ok (.aload_n 3, 1) := by decide +kernel
theorem d_La_parcels_1 : decode method_8_code 1 = .ok (.iconst 0, 1) := by decide +kernel
theorem d_La_parcels_2 : decode method_8_code 2 = .ok (.aload_n 0, 1) := by decide +kernel
theorem d_La_parcels_3 : decode method_8_code 3 = .ok (.iload_n 1, 1) := by decide +kernel
theorem d_La_parcels_4 : decode method_8_code 4 = .ok (.iload_n 2, 1) := by decide +kernel
theorem d_La_parcels_5 : decode method_8_code 5 = .ok (.invokevirtual 35, 3) := by decide +kernel
theorem d_La_parcels_8 : decode method_8_code 8 = .ok (.i2l, 1) := by decide +kernel
theorem d_La_parcels_9 : decode method_8_code 9 = .ok (.lastore, 1) := by decide +kernel
theorem d_La_parcels_10 : decode method_8_code 10 = .ok (.goto 11, 3) := by decide +kernel
theorem d_La_parcels_13 : decode method_8_code 13 = .ok (.astore 4, 2) := by decide +kernel
theorem d_La_parcels_15 : decode method_8_code 15 = .ok (.iconst 1, 1) := by decide +kernel
theorem d_La_parcels_16 : decode method_8_code 16 = .ok (.ireturn, 1) := by decide +kernel
theorem d_La_parcels_17 : decode method_8_code 17 = .ok (.astore 4, 2) := by decide +kernel
theorem d_La_parcels_19 : decode method_8_code 19 = .ok (.iconst 2, 1) := by decide +kernel
theorem d_La_parcels_20 : decode method_8_code 20 = .ok (.ireturn, 1) := by decide +kernel
theorem d_La_parcels_21 : decode method_8_code 21 = .ok (.iconst 0, 1) := by decide +kernel
theorem d_La_parcels_22 : decode method_8_code 22 = .ok (.ireturn, 1) := by decide +kernel
theorem d_La_contract_0 : decode method_9_code 0 = .ok (.aload 5, 2) := by decide +kernel
theorem d_La_contract_2 : decode method_9_code 2 = .ok (.iconst 0, 1) := by decide +kernel
theorem d_La_contract_3 : decode method_9_code 3 = .ok (.aload_n 0, 1) := by decide +kernel
theorem d_La_contract_4 : decode method_9_code 4 = .ok (.iload_n 1, 1) := by decide +kernel
theorem d_La_contract_5 : decode method_9_code 5 = .ok (.iload_n 2, 1) := by decide +kernel
theorem d_La_contract_6 : decode method_9_code 6 = .ok (.iload_n 3, 1) := by decide +kernel
theorem d_La_contract_7 : decode method_9_code 7 = .ok (.iload 4, 2) := by decide +kernel
theorem d_La_contract_9 : decode method_9_code 9 = .ok (.invokevirtual 38, 3) := by decide +kernel
theorem d_La_contract_12 : decode method_9_code 12 = .ok (.i2l, 1) := by decide +kernel
theorem d_La_contract_13 : decode method_9_code 13 = .ok (.lastore, 1) := by decide +kernel
theorem d_La_contract_14 : decode method_9_code 14 = .ok (.goto 11, 3) := by decide +kernel
theorem d_La_contract_17 : decode method_9_code 17 = .ok (.astore 6, 2) := by decide +kernel
theorem d_La_contract_19 : decode method_9_code 19 = .ok (.iconst 1, 1) := by decide +kernel
theorem d_La_contract_20 : decode method_9_code 20 = .ok (.ireturn, 1) := by decide +kernel
theorem d_La_contract_21 : decode method_9_code 21 = .ok (.astore 6, 2) := by decide +kernel
theorem d_La_contract_23 : decode method_9_code 23 = .ok (.iconst 2, 1) := by decide +kernel
theorem d_La_contract_24 : decode method_9_code 24 = .ok (.ireturn, 1) := by decide +kernel
theorem d_La_contract_25 : decode method_9_code 25 = .ok (.iconst 0, 1) := by decide +kernel
theorem d_La_contract_26 : decode method_9_code 26 = .ok (.ireturn, 1) := by decide +kernel
theorem d_La_book_0 : decode method_10_code 0 = .ok (.aload_n 3, 1) := by decide +kernel
theorem d_La_book_1 : decode method_10_code 1 = .ok (.iconst 0, 1) := by decide +kernel
theorem d_La_book_2 : decode method_10_code 2 = .ok (.aload_n 0, 1) := by decide +kernel
theorem d_La_book_3 : decode method_10_code 3 = .ok (.iload_n 1, 1) := by decide +kernel
theorem d_La_book_4 : decode method_10_code 4 = .ok (.iload_n 2, 1) := by decide +kernel
theorem d_La_book_5 : decode method_10_code 5 = .ok (.invokevirtual 42, 3) := by decide +kernel
theorem d_La_book_8 : decode method_10_code 8 = .ok (.i2l, 1) := by decide +kernel
theorem d_La_book_9 : decode method_10_code 9 = .ok (.lastore, 1) := by decide +kernel
theorem d_La_book_10 : decode method_10_code 10 = .ok (.goto 19, 3) := by decide +kernel
theorem d_La_book_13 : decode method_10_code 13 = .ok (.astore 4, 2) := by decide +kernel
theorem d_La_book_15 : decode method_10_code 15 = .ok (.iconst 1, 1) := by decide +kernel
theorem d_La_book_16 : decode method_10_code 16 = .ok (.ireturn, 1) := by decide +kernel
theorem d_La_book_17 : decode method_10_code 17 = .ok (.astore 4, 2) := by decide +kernel
theorem d_La_book_19 : decode method_10_code 19 = .ok (.iconst 2, 1) := by decide +kernel
theorem d_La_book_20 : decode method_10_code 20 = .ok (.ireturn, 1) := by decide +kernel
theorem d_La_book_21 : decode method_10_code 21 = .ok (.astore 4, 2) := by decide +kernel
theorem d_La_book_23 : decode method_10_code 23 = .ok (.iconst 3, 1) := by decide +kernel
theorem d_La_book_24 : decode method_10_code 24 = .ok (.ireturn, 1) := by decide +kernel
theorem d_La_book_25 : decode method_10_code 25 = .ok (.astore 4, 2) := by decide +kernel
theorem d_La_book_27 : decode method_10_code 27 = .ok (.iconst 4, 1) := by decide +kernel
theorem d_La_book_28 : decode method_10_code 28 = .ok (.ireturn, 1) := by decide +kernel
theorem d_La_book_29 : decode method_10_code 29 = .ok (.iconst 0, 1) := by decide +kernel
theorem d_La_book_30 : decode method_10_code 30 = .ok (.ireturn, 1) := by decide +kernel
theorem d_La_combine_0 : decode method_11_code 0 = .ok (.aload_n 3, 1) := by decide +kernel
theorem d_La_combine_1 : decode method_11_code 1 = .ok (.iconst 0, 1) := by decide +kernel
theorem d_La_combine_2 : decode method_11_code 2 = .ok (.aload_n 0, 1) := by decide +kernel
theorem d_La_combine_3 : decode method_11_code 3 = .ok (.iload_n 1, 1) := by decide +kernel
theorem d_La_combine_4 : decode method_11_code 4 = .ok (.iload_n 2, 1) := by decide +kernel
theorem d_La_combine_5 : decode method_11_code 5 = .ok (.invokevirtual 47, 3) := by decide +kernel
theorem d_La_combine_8 : decode method_11_code 8 = .ok (.i2l, 1) := by decide +kernel
theorem d_La_combine_9 : decode method_11_code 9 = .ok (.lastore, 1) := by decide +kernel
theorem d_La_combine_10 : decode method_11_code 10 = .ok (.goto 11, 3) := by decide +kernel
theorem d_La_combine_13 : decode method_11_code 13 = .ok (.astore 4, 2) := by decide +kernel
theorem d_La_combine_15 : decode method_11_code 15 = .ok (.iconst 1, 1) := by decide +kernel
theorem d_La_combine_16 : decode method_11_code 16 = .ok (.ireturn, 1) := by decide +kernel
theorem d_La_combine_17 : decode method_11_code 17 = .ok (.astore 4, 2) := by decide +kernel
theorem d_La_combine_19 : decode method_11_code 19 = .ok (.iconst 2, 1) := by decide +kernel
theorem d_La_combine_20 : decode method_11_code 20 = .ok (.ireturn, 1) := by decide +kernel
theorem d_La_combine_21 : decode method_11_code 21 = .ok (.iconst 0, 1) := by decide +kernel
theorem d_La_combine_22 : decode method_11_code 22 = .ok (.ireturn, 1) := by decide +kernel
theorem d_La_invoice_0 : decode method_12_code 0 = .ok (.aload_n 3, 1) := by decide +kernel
theorem d_La_invoice_1 : decode method_12_code 1 = .ok (.iconst 0, 1) := by decide +kernel
theorem d_La_invoice_2 : decode method_12_code 2 = .ok (.aload_n 0, 1) := by decide +kernel
theorem d_La_invoice_3 : decode method_12_code 3 = .ok (.iload_n 1, 1) := by decide +kernel
theorem d_La_invoice_4 : decode method_12_code 4 = .ok (.iload_n 2, 1) := by decide +kernel
theorem d_La_invoice_5 : decode method_12_code 5 = .ok (.invokevirtual 50, 3) := by decide +kernel
theorem d_La_invoice_8 : decode method_12_code 8 = .ok (.i2l, 1) := by decide +kernel
theorem d_La_invoice_9 : decode method_12_code 9 = .ok (.lastore, 1) := by decide +kernel
theorem d_La_invoice_10 : decode method_12_code 10 = .ok (.goto 15, 3) := by decide +kernel
theorem d_La_invoice_13 : decode method_12_code 13 = .ok (.astore 4, 2) := by decide +kernel
theorem d_La_invoice_15 : decode method_12_code 15 = .ok (.iconst 1, 1) := by decide +kernel
theorem d_La_invoice_16 : decode method_12_code 16 = .ok (.ireturn, 1) := by decide +kernel
theorem d_La_invoice_17 : decode method_12_code 17 = .ok (.astore 4, 2) := by decide +kernel
theorem d_La_invoice_19 : decode method_12_code 19 = .ok (.iconst 2, 1) := by decide +kernel
theorem d_La_invoice_20 : decode method_12_code 20 = .ok (.ireturn, 1) := by decide +kernel
theorem d_La_invoice_21 : decode method_12_code 21 = .ok (.astore 4, 2) := by decide +kernel
theorem d_La_invoice_23 : decode method_12_code 23 = .ok (.iconst 3, 1) := by decide +kernel
theorem d_La_invoice_24 : decode method_12_code 24 = .ok (.ireturn, 1) := by decide +kernel
theorem d_La_invoice_25 : decode method_12_code 25 = .ok (.iconst 0, 1) := by decide +kernel
theorem d_La_invoice_26 : decode method_12_code 26 = .ok (.ireturn, 1) := by decide +kernel
theorem d_La_refund_0 : decode method_13_code 0 = .ok (.aload_n 3, 1) := by decide +kernel
theorem d_La_refund_1 : decode method_13_code 1 = .ok (.iconst 0, 1) := by decide +kernel
theorem d_La_refund_2 : decode method_13_code 2 = .ok (.aload_n 0, 1) := by decide +kernel
theorem d_La_refund_3 : decode method_13_code 3 = .ok (.iload_n 1, 1) := by decide +kernel
theorem d_La_refund_4 : decode method_13_code 4 = .ok (.iload_n 2, 1) := by decide +kernel
theorem d_La_refund_5 : decode method_13_code 5 = .ok (.invokevirtual 53, 3) := by decide +kernel
theorem d_La_refund_8 : decode method_13_code 8 = .ok (.i2l, 1) := by decide +kernel
theorem d_La_refund_9 : decode method_13_code 9 = .ok (.lastore, 1) := by decide +kernel
theorem d_La_refund_10 : decode method_13_code 10 = .ok (.goto 15, 3) := by decide +kernel
theorem d_La_refund_13 : decode method_13_code 13 = .ok (.astore 4, 2) := by decide +kernel
theorem d_La_refund_15 : decode method_13_code 15 = .ok (.iconst 1, 1) := by decide +kernel
theorem d_La_refund_16 : decode method_13_code 16 = .ok (.ireturn, 1) := by decide +kernel
theorem d_La_refund_17 : decode method_13_code 17 = .ok (.astore 4, 2) := by decide +kernel
theorem d_La_refund_19 : decode method_13_code 19 = .ok (.iconst 2, 1) := by decide +kernel
theorem d_La_refund_20 : decode method_13_code 20 = .ok (.ireturn, 1) := by decide +kernel
theorem d_La_refund_21 : decode method_13_code 21 = .ok (.astore 4, 2) := by decide +kernel
theorem d_La_refund_23 : decode method_13_code 23 = .ok (.iconst 3, 1) := by decide +kernel
theorem d_La_refund_24 : decode method_13_code 24 = .ok (.ireturn, 1) := by decide +kernel
theorem d_La_refund_25 : decode method_13_code 25 = .ok (.iconst 0, 1) := by decide +kernel
theorem d_La_refund_26 : decode method_13_code 26 = .ok (.ireturn, 1) := by decide +kernel
theorem d_La_differ_0 : decode method_14_code 0 = .ok (.aload_n 2, 1) := by decide +kernel
theorem d_La_differ_1 : decode method_14_code 1 = .ok (.iconst 0, 1) := by decide +kernel
theorem d_La_differ_2 : decode method_14_code 2 = .ok (.aload_n 0, 1) := by decide +kernel
theorem d_La_differ_3 : decode method_14_code 3 = .ok (.iload_n 1, 1) := by decide +kernel
theorem d_La_differ_4 : decode method_14_code 4 = .ok (.invokevirtual 56, 3) := by decide +kernel
theorem d_La_differ_7 : decode method_14_code 7 = .ok (.i2l, 1) := by decide +kernel
theorem d_La_differ_8 : decode method_14_code 8 = .ok (.lastore, 1) := by decide +kernel
theorem d_La_differ_9 : decode method_14_code 9 = .ok (.goto 6, 3) := by decide +kernel
theorem d_La_differ_12 : decode method_14_code 12 = .ok (.astore_n 3, 1) := by decide +kernel
theorem d_La_differ_13 : decode method_14_code 13 = .ok (.iconst 1, 1) := by decide +kernel
theorem d_La_differ_14 : decode method_14_code 14 = .ok (.ireturn, 1) := by decide +kernel
theorem d_La_differ_15 : decode method_14_code 15 = .ok (.iconst 0, 1) := by decide +kernel
theorem d_La_differ_16 : decode method_14_code 16 = .ok (.ireturn, 1) := by decide +kernel
theorem d_La_currency_0 : decode method_15_code 0 = .ok (.aload 4, 2) := by decide +kernel
theorem d_La_currency_2 : decode method_15_code 2 = .ok (.iconst 0, 1) := by decide +kernel
theorem d_La_currency_3 : decode method_15_code 3 = .ok (.aload_n 0, 1) := by decide +kernel
theorem d_La_currency_4 : decode method_15_code 4 = .ok (.iload_n 1, 1) := by decide +kernel
theorem d_La_currency_5 : decode method_15_code 5 = .ok (.iload_n 2, 1) := by decide +kernel
theorem d_La_currency_6 : decode method_15_code 6 = .ok (.iload_n 3, 1) := by decide +kernel
theorem d_La_currency_7 : decode method_15_code 7 = .ok (.invokevirtual 59, 3) := by decide +kernel
theorem d_La_currency_10 : decode method_15_code 10 = .ok (.i2l, 1) := by decide +kernel
theorem d_La_currency_11 : decode method_15_code 11 = .ok (.lastore, 1) := by decide +kernel
theorem d_La_currency_12 : decode method_15_code 12 = .ok (.goto 11, 3) := by decide +kernel
theorem d_La_currency_15 : decode method_15_code 15 = .ok (.astore 5, 2) := by decide +kernel
theorem d_La_currency_17 : decode method_15_code 17 = .ok (.iconst 1, 1) := by decide +kernel
theorem d_La_currency_18 : decode method_15_code 18 = .ok (.ireturn, 1) := by decide +kernel
theorem d_La_currency_19 : decode method_15_code 19 = .ok (.astore 5, 2) := by decide +kernel
theorem d_La_currency_21 : decode method_15_code 21 = .ok (.iconst 2, 1) := by decide +kernel
theorem d_La_currency_22 : decode method_15_code 22 = .ok (.ireturn, 1) := by decide +kernel
theorem d_La_currency_23 : decode method_15_code 23 = .ok (.iconst 0, 1) := by decide +kernel
theorem d_La_currency_24 : decode method_15_code 24 = .ok (.ireturn, 1) := by decide +kernel
theorem d_La_converted_0 : decode method_16_code 0 = .ok (.aload_n 3, 1) := by decide +kernel
theorem d_La_converted_1 : decode method_16_code 1 = .ok (.iconst 0, 1) := by decide +kernel
theorem d_La_converted_2 : decode method_16_code 2 = .ok (.aload_n 0, 1) := by decide +kernel
theorem d_La_converted_3 : decode method_16_code 3 = .ok (.iload_n 1, 1) := by decide +kernel
theorem d_La_converted_4 : decode method_16_code 4 = .ok (.iload_n 2, 1) := by decide +kernel
theorem d_La_converted_5 : decode method_16_code 5 = .ok (.invokevirtual 62, 3) := by decide +kernel
theorem d_La_converted_8 : decode method_16_code 8 = .ok (.lastore, 1) := by decide +kernel
theorem d_La_converted_9 : decode method_16_code 9 = .ok (.goto 7, 3) := by decide +kernel
theorem d_La_converted_12 : decode method_16_code 12 = .ok (.astore 4, 2) := by decide +kernel
theorem d_La_converted_14 : decode method_16_code 14 = .ok (.iconst 1, 1) := by decide +kernel
theorem d_La_converted_15 : decode method_16_code 15 = .ok (.ireturn, 1) := by decide +kernel
theorem d_La_converted_16 : decode method_16_code 16 = .ok (.iconst 0, 1) := by decide +kernel
theorem d_La_converted_17 : decode method_16_code 17 = .ok (.ireturn, 1) := by decide +kernel
theorem d_La_told_0 : decode method_17_code 0 = .ok (.aload_n 3, 1) := by decide +kernel
theorem d_La_told_1 : decode method_17_code 1 = .ok (.iconst 0, 1) := by decide +kernel
theorem d_La_told_2 : decode method_17_code 2 = .ok (.aload_n 0, 1) := by decide +kernel
theorem d_La_told_3 : decode method_17_code 3 = .ok (.iload_n 1, 1) := by decide +kernel
theorem d_La_told_4 : decode method_17_code 4 = .ok (.iload_n 2, 1) := by decide +kernel
theorem d_La_told_5 : decode method_17_code 5 = .ok (.invokevirtual 66, 3) := by decide +kernel
theorem d_La_told_8 : decode method_17_code 8 = .ok (.i2l, 1) := by decide +kernel
theorem d_La_told_9 : decode method_17_code 9 = .ok (.lastore, 1) := by decide +kernel
theorem d_La_told_10 : decode method_17_code 10 = .ok (.goto 11, 3) := by decide +kernel
theorem d_La_told_13 : decode method_17_code 13 = .ok (.astore 4, 2) := by decide +kernel
theorem d_La_told_15 : decode method_17_code 15 = .ok (.iconst 1, 1) := by decide +kernel
theorem d_La_told_16 : decode method_17_code 16 = .ok (.ireturn, 1) := by decide +kernel
theorem d_La_told_17 : decode method_17_code 17 = .ok (.astore 4, 2) := by decide +kernel
theorem d_La_told_19 : decode method_17_code 19 = .ok (.iconst 2, 1) := by decide +kernel
theorem d_La_told_20 : decode method_17_code 20 = .ok (.ireturn, 1) := by decide +kernel
theorem d_La_told_21 : decode method_17_code 21 = .ok (.iconst 0, 1) := by decide +kernel
theorem d_La_told_22 : decode method_17_code 22 = .ok (.ireturn, 1) := by decide +kernel
end
section
theorem pl_RB_init : (parseMethodDescriptor md_RB_init.1.desc).map (fun d => d.parameters.length) = some 0 := by decide +kernel
theorem pl_Tx_init : (parseMethodDescriptor md_Tx_init.1.desc).map (fun d => d.parameters.length) = some 0 := by decide +kernel
theorem pl_Ra_init : (parseMethodDescriptor md_Ra_init.1.desc).map (fun d => d.parameters.length) = some 0 := by decide +kernel
theorem pl_Ra_clear : (parseMethodDescriptor md_Ra_clear.1.desc).map (fun d => d.parameters.length) = some 0 := by decide +kernel
theorem pl_Ro_init : (parseMethodDescriptor md_Ro_init.1.desc).map (fun d => d.parameters.length) = some 1 := by decide +kernel
theorem pl_RB_read : (parseMethodDescriptor md_RB_read.1.desc).map (fun d => d.parameters.length) = some 0 := by decide +kernel
theorem pl_RB_readInto : (parseMethodDescriptor md_RB_readInto.1.desc).map (fun d => d.parameters.length) = some 1 := by decide +kernel
theorem pl_Tx_behindLine : (parseMethodDescriptor md_Tx_behindLine.1.desc).map (fun d => d.parameters.length) = some 1 := by decide +kernel
theorem pl_Tx_at : (parseMethodDescriptor md_Tx_at.1.desc).map (fun d => d.parameters.length) = some 1 := by decide +kernel
theorem pl_Tx_numbersBehind : (parseMethodDescriptor md_Tx_numbersBehind.1.desc).map (fun d => d.parameters.length) = some 1 := by decide +kernel
theorem pl_Tx_takeNumber : (parseMethodDescriptor md_Tx_takeNumber.1.desc).map (fun d => d.parameters.length) = some 0 := by decide +kernel
theorem pl_Tx_isDigit : (parseMethodDescriptor md_Tx_isDigit.1.desc).map (fun d => d.parameters.length) = some 1 := by decide +kernel
theorem pl_Ra_take : (parseMethodDescriptor md_Ra_take.1.desc).map (fun d => d.parameters.length) = some 2 := by decide +kernel
theorem pl_Ra_takeKind : (parseMethodDescriptor md_Ra_takeKind.1.desc).map (fun d => d.parameters.length) = some 2 := by decide +kernel
theorem pl_Ra_takeStep : (parseMethodDescriptor md_Ra_takeStep.1.desc).map (fun d => d.parameters.length) = some 4 := by decide +kernel
theorem pl_RB_laneOf : (parseMethodDescriptor md_RB_laneOf.1.desc).map (fun d => d.parameters.length) = some 2 := by decide +kernel
theorem pl_Ra_heaviest : (parseMethodDescriptor md_Ra_heaviest.1.desc).map (fun d => d.parameters.length) = some 1 := by decide +kernel
theorem pl_Ra_takeOnce : (parseMethodDescriptor md_Ra_takeOnce.1.desc).map (fun d => d.parameters.length) = some 4 := by decide +kernel
theorem pl_Tx_clear : (parseMethodDescriptor md_Tx_clear.1.desc).map (fun d => d.parameters.length) = some 0 := by decide +kernel
theorem pl_RB_count : (parseMethodDescriptor md_RB_count.1.desc).map (fun d => d.parameters.length) = some 1 := by decide +kernel
theorem pl_RB_addend : (parseMethodDescriptor md_RB_addend.1.desc).map (fun d => d.parameters.length) = some 2 := by decide +kernel
theorem pl_Sh_isBooked : (parseMethodDescriptor md_Sh_isBooked.1.desc).map (fun d => d.parameters.length) = some 0 := by decide +kernel
theorem pl_Sh_isInvoiced : (parseMethodDescriptor md_Sh_isInvoiced.1.desc).map (fun d => d.parameters.length) = some 0 := by decide +kernel
theorem pl_La_sign : (parseMethodDescriptor md_La_sign.1.desc).map (fun d => d.parameters.length) = some 3 := by decide +kernel
theorem pl_RB_sign : (parseMethodDescriptor md_RB_sign.1.desc).map (fun d => d.parameters.length) = some 1 := by decide +kernel
theorem pl_RB_needWithin : (parseMethodDescriptor md_RB_needWithin.1.desc).map (fun d => d.parameters.length) = some 3 := by decide +kernel
theorem pl_Tx_append : (parseMethodDescriptor md_Tx_append.1.desc).map (fun d => d.parameters.length) = some 1 := by decide +kernel
theorem pl_La_shipment : (parseMethodDescriptor md_La_shipment.1.desc).map (fun d => d.parameters.length) = some 5 := by decide +kernel
theorem pl_RB_shipment : (parseMethodDescriptor md_RB_shipment.1.desc).map (fun d => d.parameters.length) = some 3 := by decide +kernel
theorem pl_Sh_init : (parseMethodDescriptor md_Sh_init.1.desc).map (fun d => d.parameters.length) = some 3 := by decide +kernel
theorem pl_La_weight : (parseMethodDescriptor md_La_weight.1.desc).map (fun d => d.parameters.length) = some 4 := by decide +kernel
theorem pl_RB_weight : (parseMethodDescriptor md_RB_weight.1.desc).map (fun d => d.parameters.length) = some 2 := by decide +kernel
theorem pl_RB_present : (parseMethodDescriptor md_RB_present.1.desc).map (fun d => d.parameters.length) = some 1 := by decide +kernel
theorem pl_RB_needService : (parseMethodDescriptor md_RB_needService.1.desc).map (fun d => d.parameters.length) = some 1 := by decide +kernel
theorem pl_Ra_weightToPay : (parseMethodDescriptor md_Ra_weightToPay.1.desc).map (fun d => d.parameters.length) = some 2 := by decide +kernel
theorem pl_RB_dividedUp : (parseMethodDescriptor md_RB_dividedUp.1.desc).map (fun d => d.parameters.length) = some 2 := by decide +kernel
theorem pl_RB_dividedDown : (parseMethodDescriptor md_RB_dividedDown.1.desc).map (fun d => d.parameters.length) = some 2 := by decide +kernel
theorem pl_La_price : (parseMethodDescriptor md_La_price.1.desc).map (fun d => d.parameters.length) = some 4 := by decide +kernel
theorem pl_RB_price : (parseMethodDescriptor md_RB_price.1.desc).map (fun d => d.parameters.length) = some 2 := by decide +kernel
theorem pl_RB_priceNow : (parseMethodDescriptor md_RB_priceNow.1.desc).map (fun d => d.parameters.length) = some 2 := by decide +kernel
theorem pl_Ra_stepFor : (parseMethodDescriptor md_Ra_stepFor.1.desc).map (fun d => d.parameters.length) = some 2 := by decide +kernel
theorem pl_Ra_charged : (parseMethodDescriptor md_Ra_charged.1.desc).map (fun d => d.parameters.length) = some 2 := by decide +kernel
theorem pl_Ro_latest : (parseMethodDescriptor md_Ro_latest.1.desc).map (fun d => d.parameters.length) = some 1 := by decide +kernel
theorem pl_La_cheapest : (parseMethodDescriptor md_La_cheapest.1.desc).map (fun d => d.parameters.length) = some 3 := by decide +kernel
theorem pl_RB_cheapest : (parseMethodDescriptor md_RB_cheapest.1.desc).map (fun d => d.parameters.length) = some 1 := by decide +kernel
theorem pl_La_parcels : (parseMethodDescriptor md_La_parcels.1.desc).map (fun d => d.parameters.length) = some 4 := by decide +kernel
theorem pl_RB_parcels : (parseMethodDescriptor md_RB_parcels.1.desc).map (fun d => d.parameters.length) = some 2 := by decide +kernel
theorem pl_Ra_leastCents : (parseMethodDescriptor md_Ra_leastCents.1.desc).map (fun d => d.parameters.length) = some 5 := by decide +kernel
theorem pl_La_contract : (parseMethodDescriptor md_La_contract.1.desc).map (fun d => d.parameters.length) = some 6 := by decide +kernel
theorem pl_RB_contract : (parseMethodDescriptor md_RB_contract.1.desc).map (fun d => d.parameters.length) = some 4 := by decide +kernel
theorem pl_RB_needRoom : (parseMethodDescriptor md_RB_needRoom.1.desc).map (fun d => d.parameters.length) = some 2 := by decide +kernel
theorem pl_Ro_hasRoomFor : (parseMethodDescriptor md_Ro_hasRoomFor.1.desc).map (fun d => d.parameters.length) = some 1 := by decide +kernel
theorem pl_Ro_placeFor : (parseMethodDescriptor md_Ro_placeFor.1.desc).map (fun d => d.parameters.length) = some 1 := by decide +kernel
theorem pl_Ro_put : (parseMethodDescriptor md_Ro_put.1.desc).map (fun d => d.parameters.length) = some 3 := by decide +kernel
theorem pl_La_book : (parseMethodDescriptor md_La_book.1.desc).map (fun d => d.parameters.length) = some 4 := by decide +kernel
theorem pl_RB_book : (parseMethodDescriptor md_RB_book.1.desc).map (fun d => d.parameters.length) = some 2 := by decide +kernel
theorem pl_La_combine : (parseMethodDescriptor md_La_combine.1.desc).map (fun d => d.parameters.length) = some 4 := by decide +kernel
theorem pl_RB_combine : (parseMethodDescriptor md_RB_combine.1.desc).map (fun d => d.parameters.length) = some 2 := by decide +kernel
theorem pl_La_invoice : (parseMethodDescriptor md_La_invoice.1.desc).map (fun d => d.parameters.length) = some 4 := by decide +kernel
theorem pl_RB_invoice : (parseMethodDescriptor md_RB_invoice.1.desc).map (fun d => d.parameters.length) = some 2 := by decide +kernel
theorem pl_La_refund : (parseMethodDescriptor md_La_refund.1.desc).map (fun d => d.parameters.length) = some 4 := by decide +kernel
theorem pl_RB_refund : (parseMethodDescriptor md_RB_refund.1.desc).map (fun d => d.parameters.length) = some 2 := by decide +kernel
theorem pl_La_differ : (parseMethodDescriptor md_La_differ.1.desc).map (fun d => d.parameters.length) = some 3 := by decide +kernel
theorem pl_RB_differ : (parseMethodDescriptor md_RB_differ.1.desc).map (fun d => d.parameters.length) = some 1 := by decide +kernel
theorem pl_La_currency : (parseMethodDescriptor md_La_currency.1.desc).map (fun d => d.parameters.length) = some 5 := by decide +kernel
theorem pl_RB_currency : (parseMethodDescriptor md_RB_currency.1.desc).map (fun d => d.parameters.length) = some 3 := by decide +kernel
theorem pl_La_converted : (parseMethodDescriptor md_La_converted.1.desc).map (fun d => d.parameters.length) = some 4 := by decide +kernel
theorem pl_RB_converted : (parseMethodDescriptor md_RB_converted.1.desc).map (fun d => d.parameters.length) = some 2 := by decide +kernel
theorem pl_La_told : (parseMethodDescriptor md_La_told.1.desc).map (fun d => d.parameters.length) = some 4 := by decide +kernel
theorem pl_RB_told : (parseMethodDescriptor md_RB_told.1.desc).map (fun d => d.parameters.length) = some 2 := by decide +kernel
theorem pl_Mo_init : (parseMethodDescriptor md_Mo_init.1.desc).map (fun d => d.parameters.length) = some 0 := by decide +kernel
theorem pl_Mo_thrown : (parseMethodDescriptor md_Mo_thrown.1.desc).map (fun d => d.parameters.length) = some 0 := by decide +kernel
theorem pl_Mo_sign : (parseMethodDescriptor md_Mo_sign.1.desc).map (fun d => d.parameters.length) = some 1 := by decide +kernel
theorem pl_Mo_not : (parseMethodDescriptor md_Mo_not.1.desc).map (fun d => d.parameters.length) = some 3 := by decide +kernel
theorem pl_Mo_read : (parseMethodDescriptor md_Mo_read.1.desc).map (fun d => d.parameters.length) = some 0 := by decide +kernel
theorem pl_Mo_oneLine : (parseMethodDescriptor md_Mo_oneLine.1.desc).map (fun d => d.parameters.length) = some 0 := by decide +kernel
theorem pl_Mo_here : (parseMethodDescriptor md_Mo_here.1.desc).map (fun d => d.parameters.length) = some 0 := by decide +kernel
theorem pl_Mo_number : (parseMethodDescriptor md_Mo_number.1.desc).map (fun d => d.parameters.length) = some 0 := by decide +kernel
theorem pl_Mo_heaviest : (parseMethodDescriptor md_Mo_heaviest.1.desc).map (fun d => d.parameters.length) = some 2 := by decide +kernel
theorem pl_Mo_seen : (parseMethodDescriptor md_Mo_seen.1.desc).map (fun d => d.parameters.length) = some 2 := by decide +kernel
theorem pl_Mo_shipment : (parseMethodDescriptor md_Mo_shipment.1.desc).map (fun d => d.parameters.length) = some 3 := by decide +kernel
theorem pl_Mo_weight : (parseMethodDescriptor md_Mo_weight.1.desc).map (fun d => d.parameters.length) = some 2 := by decide +kernel
theorem pl_Mo_noShipment : (parseMethodDescriptor md_Mo_noShipment.1.desc).map (fun d => d.parameters.length) = some 1 := by decide +kernel
theorem pl_Mo_toPay : (parseMethodDescriptor md_Mo_toPay.1.desc).map (fun d => d.parameters.length) = some 2 := by decide +kernel
theorem pl_Mo_find : (parseMethodDescriptor md_Mo_find.1.desc).map (fun d => d.parameters.length) = some 2 := by decide +kernel
theorem pl_Mo_price : (parseMethodDescriptor md_Mo_price.1.desc).map (fun d => d.parameters.length) = some 2 := by decide +kernel
theorem pl_Mo_priceOf : (parseMethodDescriptor md_Mo_priceOf.1.desc).map (fun d => d.parameters.length) = some 2 := by decide +kernel
theorem pl_Mo_part : (parseMethodDescriptor md_Mo_part.1.desc).map (fun d => d.parameters.length) = some 3 := by decide +kernel
theorem pl_Mo_booked : (parseMethodDescriptor md_Mo_booked.1.desc).map (fun d => d.parameters.length) = some 1 := by decide +kernel
theorem pl_Mo_cheapest : (parseMethodDescriptor md_Mo_cheapest.1.desc).map (fun d => d.parameters.length) = some 1 := by decide +kernel
theorem pl_Mo_parcels : (parseMethodDescriptor md_Mo_parcels.1.desc).map (fun d => d.parameters.length) = some 2 := by decide +kernel
theorem pl_Mo_contract : (parseMethodDescriptor md_Mo_contract.1.desc).map (fun d => d.parameters.length) = some 4 := by decide +kernel
theorem pl_Mo_book : (parseMethodDescriptor md_Mo_book.1.desc).map (fun d => d.parameters.length) = some 2 := by decide +kernel
theorem pl_Mo_combine : (parseMethodDescriptor md_Mo_combine.1.desc).map (fun d => d.parameters.length) = some 2 := by decide +kernel
theorem pl_Mo_invoice : (parseMethodDescriptor md_Mo_invoice.1.desc).map (fun d => d.parameters.length) = some 2 := by decide +kernel
theorem pl_Mo_refund : (parseMethodDescriptor md_Mo_refund.1.desc).map (fun d => d.parameters.length) = some 2 := by decide +kernel
theorem pl_Mo_differ : (parseMethodDescriptor md_Mo_differ.1.desc).map (fun d => d.parameters.length) = some 1 := by decide +kernel
theorem pl_Mo_currency : (parseMethodDescriptor md_Mo_currency.1.desc).map (fun d => d.parameters.length) = some 3 := by decide +kernel
theorem pl_Mo_converted : (parseMethodDescriptor md_Mo_converted.1.desc).map (fun d => d.parameters.length) = some 2 := by decide +kernel
theorem pl_Mo_told : (parseMethodDescriptor md_Mo_told.1.desc).map (fun d => d.parameters.length) = some 2 := by decide +kernel
theorem pl_Mo_count : (parseMethodDescriptor md_Mo_count.1.desc).map (fun d => d.parameters.length) = some 1 := by decide +kernel
theorem pl_La_law : (parseMethodDescriptor md_La_law.1.desc).map (fun d => d.parameters.length) = some 1 := by decide +kernel
end
section
/-! small rows for all that follows -/
theorem gj_mem {md : gj_M} {d K N k w pc : Nat} {lc : List (Nat × Value)} {st : List Value} {n : Nat} {C C1 : Nat → va_E} {Q : gj_R → Prop} (h : C1 = C) (kk : gj_G md d K N k w pc lc st n C1 Q) : gj_G md d K N k w pc lc st n C Q := h ▸ kk
theorem gj_ei {v E : Int32} {n : Nat} {C : Nat → va_E} (h : v = E) : ((Sum.inl (some (Value.int v)), n, C) : gj_R) = (Sum.inl (some (Value.int E)), n, C) := by rw [h]
theorem gj_el {v E : Int64} {n : Nat} {C : Nat → va_E} (h : v = E) : ((Sum.inl (some (Value.long v)), n, C) : gj_R) = (Sum.inl (some (Value.long E)), n, C) := by rw [h]
section
variable {md : gj_M} {d K N k w pc : Nat} {lc : List (Nat × Value)} {st : List Value} {n : Nat} {C : Nat → va_E} {Q : gj_R → Prop}
theorem gj_kc {z : Int} {v : Int32} (hd : decode md.2.1 pc = .ok (.iconst z, 1)) (hv : Int32.ofInt z = v) (kk : gj_G md d K N k w (pc + 1) lc (.int v :: st) n C Q) : gj_G md d K N k w pc lc st n C Q := by rw [← hv] at kk; exact gj_iconst hd kk
theorem gj_kb {z : Int} {v : Int32} (hd : decode md.2.1 pc = .ok (.bipush z, 2)) (hv : (Int8.ofInt z).toInt32 = v) (kk : gj_G md d K N k w (pc + 2) lc (.int v :: st) n C Q) : gj_G md d K N k w pc lc st n C Q := by rw [← hv] at kk; exact gj_bipush hd kk
theorem gj_ks {z : Int} {v : Int32} (hd : decode md.2.1 pc = .ok (.sipush z, 3)) (hv : (Int16.ofInt z).toInt32 = v) (kk : gj_G md d K N k w (pc + 3) lc (.int v :: st) n C Q) : gj_G md d K N k w pc lc st n C Q := by rw [← hv] at kk; exact gj_sipush hd kk
theorem gj_kl {z : Fin 2} {v : Int64} (hd : decode md.2.1 pc = .ok (.lconst z, 1)) (hv : Int64.ofNat z = v) (kk : gj_G md d K N k w (pc + 1) lc (.long v :: st) n C Q) : gj_G md d K N k w pc lc st n C Q := by rw [← hv] at kk; exact gj_lconst hd kk
end
/-- what Text.at tells: the sign at a place, -1 behind the text -/
def pt_at (f : Nat → Int32) (ln j : Nat) : Int32 := if j < ln then f j else -1
def pt_dig (c : Int32) : Prop := 48 ≤ c ∧ c ≤ 57

/-- Text.isDigit -/
theorem c_Tx_isDigit {d K N n : Nat} {C : Nat → va_E} (c : Int32) : gj_G md_Tx_isDigit d K N 0 0 0 [(0, .int c)] [] n C (fun r => r = (.inl (some (.int (if 48 ≤ c ∧ c ≤ 57 then 1 else 0))), n, C)) := by
  refine gj_iload_n d_Tx_isDigit_0 rfl ?_
  refine gj_kb (v := 48) d_Tx_isDigit_1 (by decide) ?_
  refine gj_icmp_lt (tgt := 16) d_Tx_isDigit_3 (by decide) (fun h3 => ?_) (fun h3 => ?_)
  · refine gj_kc (v := 0) d_Tx_isDigit_16 (by decide) ?_
    refine gj_zret rfl (by first | exact Or.inl rfl | exact Or.inr rfl) (Nat.zero_le _) (Nat.zero_le _) d_Tx_isDigit_17 ?_
    exact gj_ei (if_neg (fun h => by first | exact Int32.not_lt.mpr h.1 h3 | exact Int32.not_lt.mpr h.2 h9)).symm
  · refine gj_iload_n d_Tx_isDigit_6 rfl ?_
    refine gj_kb (v := 57) d_Tx_isDigit_7 (by decide) ?_
    refine gj_icmp_gt (tgt := 16) d_Tx_isDigit_9 (by decide) (fun h9 => ?_) (fun h9 => ?_)
    · refine gj_kc (v := 0) d_Tx_isDigit_16 (by decide) ?_
      refine gj_zret rfl (by first | exact Or.inl rfl | exact Or.inr rfl) (Nat.zero_le _) (Nat.zero_le _) d_Tx_isDigit_17 ?_
      exact gj_ei (if_neg (fun h => by first | exact Int32.not_lt.mpr h.1 h3 | exact Int32.not_lt.mpr h.2 h9)).symm
    · refine gj_kc (v := 1) d_Tx_isDigit_12 (by decide) ?_
      refine gj_goto (tgt := 17) d_Tx_isDigit_13 (by decide) ?_
      refine gj_zret rfl (by first | exact Or.inl rfl | exact Or.inr rfl) (Nat.zero_le _) (Nat.zero_le _) d_Tx_isDigit_17 ?_
      exact gj_ei (if_pos ⟨Int32.not_lt.mp h3, Int32.not_lt.mp h9⟩).symm
/-- Text.at -/
theorem c_Tx_at {d K N n x ln : Nat} {C : Nat → va_E} {f : Nat → Int32} {pl : Int32} (hx : C x = .inr (1, [.ref (x + 1), .ref (x + 2), .int (nI ln), .int pl])) (hs : C (x + 1) = .inl (0, 600, .inl f)) (h6 : ln ≤ 600) (j : Nat) (hj : j < 2 ^ 31) : gj_G md_Tx_at d K N 0 0 0 [(0, .ref x), (1, .int (nI j))] [] n C (fun r => r = (.inl (some (.int (pt_at f ln j))), n, C)) := by
  refine gj_iload_n d_Tx_at_0 rfl ?_
  refine gj_if_lt (tgt := 21) d_Tx_at_1 (by decide) (fun h1 => absurd h1 (nI_pos hj)) (fun h1 => ?_)
  refine gj_iload_n d_Tx_at_4 rfl ?_
  refine gj_aload_n d_Tx_at_5 rfl ?_
  refine gj_get d_Tx_at_6 gf_Tx_18 hx rfl ?_
  refine gj_icmp_ge (tgt := 21) d_Tx_at_9 (by decide) (fun h9 => ?_) (fun h9 => ?_)
  · refine gj_kc (v := (-1)) d_Tx_at_21 (by decide) ?_
    refine gj_iret rfl (Nat.zero_le _) (Nat.zero_le _) d_Tx_at_22 ?_
    exact gj_ei (if_neg (fun h => nI_ge h (by omega) h9)).symm
  · refine gj_aload_n d_Tx_at_12 rfl ?_
    refine gj_get d_Tx_at_13 gf_Tx_9 hx rfl ?_
    refine gj_iload_n d_Tx_at_16 rfl ?_
    refine gj_iald d_Tx_at_17 hs rfl (vp_in_nI (Nat.lt_of_lt_of_le (Nat.lt_of_not_le (fun h => h9 (nI_le h hj))) h6) (by decide)) ?_
    refine gj_goto (tgt := 22) d_Tx_at_18 (by decide) ?_
    refine gj_iret rfl (Nat.zero_le _) (Nat.zero_le _) d_Tx_at_22 ?_
    exact gj_ei (by rw [nI_clamp hj]; exact (if_pos (Nat.lt_of_not_le (fun h => h9 (nI_le h hj)))).symm)
/-- Text.clear -/
theorem c_Tx_clear {d K N n x : Nat} {C : Nat → va_E} {ln : Nat} {pl : Int32} (hx : C x = .inr (1, [.ref (x + 1), .ref (x + 2), .int (nI ln), .int pl])) : gj_G md_Tx_clear d K N 0 0 0 [(0, .ref x)] [] n C (fun r => r = (.inl none, n, va_up C x (.inr (1, [.ref (x + 1), .ref (x + 2), .int 0, .int pl])))) := by
  refine gj_aload_n d_Tx_clear_0 rfl ?_
  refine gj_kc (v := 0) d_Tx_clear_1 (by decide) ?_
  refine gj_put d_Tx_clear_2 gp_Tx_18 hx (Nat.le_of_ble_eq_true rfl) (fun _ => rfl) (fun _ => rfl) ?_
  obtain ⟨C1, eC1⟩ : ∃ z, z = va_up C (x) (.inr (1, [.ref (x + 1), .ref (x + 2), .int (0), .int (pl)])) := ⟨_, rfl⟩
  refine gj_mem eC1 ?_
  have f2 : C1 (x) = .inr (1, [.ref (x + 1), .ref (x + 2), .int (0), .int (pl)]) := by rw [eC1]; exact va_up_self _ _ _
  refine gj_vret rfl (Nat.zero_le _) (Nat.zero_le _) d_Tx_clear_5 ?_
  rw [eC1]
/-- Text.append, with room -/
theorem c_Tx_append {d K N n x ln : Nat} {C : Nat → va_E} {f : Nat → Int32} {pl c : Int32} (hx : C x = .inr (1, [.ref (x + 1), .ref (x + 2), .int (nI ln), .int pl])) (hs : C (x + 1) = .inl (0, 600, .inl f)) (h6 : ln < 600) : gj_G md_Tx_append d K N 0 0 0 [(0, .ref x), (1, .int c)] [] n C (fun r => r = (.inl none, n, va_up (va_up C (x + 1) (.inl (0, 600, .inl (upd f ln c)))) x (.inr (1, [.ref (x + 1), .ref (x + 2), .int (nI (ln + 1)), .int pl])))) := by
  refine gj_aload_n d_Tx_append_0 rfl ?_
  refine gj_get d_Tx_append_1 gf_Tx_18 hx rfl ?_
  refine gj_ks (v := 600) d_Tx_append_4 (by decide) ?_
  refine gj_icmp_ge (tgt := 30) d_Tx_append_7 (by decide) (fun h7 => absurd h7 (fun h => absurd h (nI_ge (b := 600) h6 (by decide)))) (fun h7 => ?_)
  refine gj_aload_n d_Tx_append_10 rfl ?_
  refine gj_get d_Tx_append_11 gf_Tx_9 hx rfl ?_
  refine gj_aload_n d_Tx_append_14 rfl ?_
  refine gj_get d_Tx_append_15 gf_Tx_18 hx rfl ?_
  refine gj_iload_n d_Tx_append_18 rfl ?_
  refine gj_iast d_Tx_append_19 hs rfl (vp_in_nI h6 (by decide)) ?_
  obtain ⟨C1, eC1⟩ : ∃ z, z = va_up C (x + 1) (.inl (0, 600, .inl (upd f (nI ln : Int32).toNatClampNeg (c)))) := ⟨_, rfl⟩
  refine gj_mem eC1 ?_
  have f2 : C1 (x) = .inr (1, [.ref (x + 1), .ref (x + 2), .int (nI ln), .int (pl)]) := by rw [eC1, va_up_ne _ _ (by omega)]; exact hx
  have f3 : C1 (x + 1) = .inl (0, 600, .inl (upd f (nI ln : Int32).toNatClampNeg (c))) := by rw [eC1]; exact va_up_self _ _ _
  refine gj_aload_n d_Tx_append_20 rfl ?_
  refine gj_dup d_Tx_append_21 rfl ?_
  refine gj_get d_Tx_append_22 gf_Tx_18 f2 rfl ?_
  refine gj_kc (v := 1) d_Tx_append_25 (by decide) ?_
  refine gj_iadd d_Tx_append_26 ?_
  refine gj_put d_Tx_append_27 gp_Tx_18 f2 (Nat.le_of_ble_eq_true rfl) (fun _ => rfl) (fun _ => rfl) ?_
  obtain ⟨C4, eC4⟩ : ∃ z, z = va_up C1 (x) (.inr (1, [.ref (x + 1), .ref (x + 2), .int ((nI ln) + (1)), .int (pl)])) := ⟨_, rfl⟩
  refine gj_mem eC4 ?_
  have f5 : C4 (x) = .inr (1, [.ref (x + 1), .ref (x + 2), .int ((nI ln) + (1)), .int (pl)]) := by rw [eC4]; exact va_up_self _ _ _
  have f6 : C4 (x + 1) = .inl (0, 600, .inl (upd f (nI ln : Int32).toNatClampNeg (c))) := by rw [eC4, va_up_ne _ _ (by omega)]; exact f3
  refine gj_vret rfl (Nat.zero_le _) (Nat.zero_le _) d_Tx_append_30 ?_
  rw [eC4, eC1, nI_clamp (by omega), nI_1]
/-- how many numbers a line of that letter has -/
def pt_nb (c : Int32) : Int32 := if c = 82 then 4 else if c = 70 then 3 else if c = 68 ∨ c = 77 then 2 else 0
theorem c_Tx_numbersBehind {d K N n : Nat} {C : Nat → va_E} (c : Int32) : gj_G md_Tx_numbersBehind d K N 0 0 0 [(0, .int c)] [] n C (fun r => r = (.inl (some (.int (pt_nb c))), n, C)) := by
  refine gj_iload_n d_Tx_numbersBehind_0 rfl ?_
  by_cases h1 : c = 82
  · subst h1
    refine gj_lookup (off := 43) (tgt := 44) d_Tx_numbersBehind_1 (by decide) (by decide) (by decide) ?_
    refine gj_kc (v := 4) d_Tx_numbersBehind_44 (by decide) ?_
    exact gj_iret rfl (Nat.zero_le _) (Nat.zero_le _) d_Tx_numbersBehind_45 (gj_ei (by decide))
  · by_cases h2 : c = 70
    · subst h2
      refine gj_lookup (off := 45) (tgt := 46) d_Tx_numbersBehind_1 (by decide) (by decide) (by decide) ?_
      refine gj_kc (v := 3) d_Tx_numbersBehind_46 (by decide) ?_
      exact gj_iret rfl (Nat.zero_le _) (Nat.zero_le _) d_Tx_numbersBehind_47 (gj_ei (by decide))
    · by_cases h3 : c = 68 ∨ c = 77
      · refine gj_lookup (off := 47) (tgt := 48) d_Tx_numbersBehind_1 (by decide) (by rcases h3 with rfl | rfl <;> decide) (by decide) ?_
        refine gj_kc (v := 2) d_Tx_numbersBehind_48 (by decide) ?_
        exact gj_iret rfl (Nat.zero_le _) (Nat.zero_le _) d_Tx_numbersBehind_49 (gj_ei (by rcases h3 with rfl | rfl <;> decide))
      · have h4 : ¬ c = 68 := fun h => h3 (Or.inl h)
        have h5 : ¬ c = 77 := fun h => h3 (Or.inr h)
        refine gj_lookup (off := 49) (tgt := 50) d_Tx_numbersBehind_1 (by decide) (by rw [lv_osw h4 (by decide), lv_osw h2 (by decide), lv_osw h5 (by decide), lv_osw h1 (by decide)]; rfl) (by decide) ?_
        refine gj_kc (v := 0) d_Tx_numbersBehind_50 (by decide) ?_
        exact gj_iret rfl (Nat.zero_le _) (Nat.zero_le _) d_Tx_numbersBehind_51 (gj_ei (by unfold pt_nb; rw [if_neg h1, if_neg h2, if_neg h3]))
end
section
section
variable {md : gj_M} {d K N k w pc : Nat} {lc : List (Nat × Value)} {st : List Value} {n : Nat} {C : Nat → va_E} {Q : gj_R → Prop}
theorem gj_top {x y : Int32} (h : x = y) (kk : gj_G md d K N k w pc lc (.int y :: st) n C Q) : gj_G md d K N k w pc lc (.int x :: st) n C Q := h ▸ kk
end
def pt_isd (c : Int32) : Prop := 48 ≤ c ∧ c ≤ 57
/-- digits from q on, at most m; and the number that they make, behind v -/
noncomputable def pt_nd (f : Nat → Int32) (ln : Nat) : Nat → Nat → Nat
  | _, 0 => 0
  | q, m + 1 => if 48 ≤ pt_at f ln q ∧ pt_at f ln q ≤ 57 then 1 + pt_nd f ln (q + 1) m else 0
noncomputable def pt_vl (f : Nat → Int32) (ln : Nat) : Nat → Int32 → Nat → Int32
  | _, v, 0 => v
  | q, v, m + 1 => if 48 ≤ pt_at f ln q ∧ pt_at f ln q ≤ 57 then pt_vl f ln (q + 1) (v * 10 + (pt_at f ln q - 48)) m else v
set_option maxHeartbeats 1000000 in
theorem c_Tx_takeNumber_loop {d K N n x ln p : Nat} {C : Nat → va_E} {f : Nat → Int32} {Q : gj_R → Prop} (hx : C x = .inr (1, [.ref (x + 1), .ref (x + 2), .int (nI ln), .int (nI p)])) (hs : C (x + 1) = .inl (0, 600, .inl f)) (h6 : ln ≤ 600) (hp : p ≤ 700) : ∀ (m k : Nat) (v : Int32), k + m = 9 →
    (∀ (k2 : Nat) (v2 : Int32), k2 = k + pt_nd f ln (p + 1 + k) m → v2 = pt_vl f ln (p + 1 + k) v m → gj_G md_Tx_takeNumber (d + 1) K N 0 0 67 [(0, .ref x), (1, .int (nI (p + 1))), (2, .int v2), (3, .int (nI k2))] [] n C Q) →
    gj_G md_Tx_takeNumber (d + 1) K N 0 0 26 [(0, .ref x), (1, .int (nI (p + 1))), (2, .int v), (3, .int (nI k))] [] n C Q := by
  intro m
  induction m with
  | zero =>
    intro k v hk hend
    refine gj_iload_n d_Tx_takeNumber_26 rfl ?_
    refine gj_kb (v := 9) d_Tx_takeNumber_27 (by decide) ?_
    refine gj_icmp_ge (tgt := 67) d_Tx_takeNumber_29 (by decide) (fun _ => hend k v rfl rfl) (fun h29 => absurd (nI_le (a := 9) (by omega) (by omega)) h29)
  | succ m ih =>
    intro k v hk hend
    refine gj_iload_n d_Tx_takeNumber_26 rfl ?_
    refine gj_kb (v := 9) d_Tx_takeNumber_27 (by decide) ?_
    refine gj_icmp_ge (tgt := 67) d_Tx_takeNumber_29 (by decide) (fun h29 => absurd h29 (nI_ge (b := 9) (by omega) (by decide))) (fun h29 => ?_)
    refine gj_aload_n d_Tx_takeNumber_32 rfl ?_
    refine gj_iload_n d_Tx_takeNumber_33 rfl ?_
    refine gj_iload_n d_Tx_takeNumber_34 rfl ?_
    refine gj_iadd d_Tx_takeNumber_35 ?_
    refine gj_top (y := nI (p + 1 + k)) (nI_add _ _) ?_
    refine gj_callV (as := [.int (nI (p + 1 + k))]) (rest := []) (K1 := 0) (N1 := 0) d_Tx_takeNumber_36 mo_Tx_at gw_174 gw_175 gw_176 hx rfl pl_Tx_at (Nat.le_of_ble_eq_true rfl) (Nat.le_of_ble_eq_true rfl) (Nat.zero_le _) (Nat.zero_le _) (c_Tx_at hx hs h6 (p + 1 + k) (by omega)) (fun E n' C' _ h => by cases h) (fun v n' C' _ h => ?_)
    cases h
    refine gj_callS (as := [.int (pt_at f ln (p + 1 + k))]) (rest := []) (K1 := 0) (N1 := 0) d_Tx_takeNumber_39 mo_Tx_isDigit gw_185 gw_186 gw_21 pl_Tx_isDigit (Nat.le_of_ble_eq_true rfl) (Nat.le_of_ble_eq_true rfl) (Nat.zero_le _) (Nat.zero_le _) (c_Tx_isDigit (pt_at f ln (p + 1 + k))) (fun E n' C' _ h => by cases h) (fun v n' C' _ h => ?_)
    cases h
    by_cases hd : 48 ≤ pt_at f ln (p + 1 + k) ∧ pt_at f ln (p + 1 + k) ≤ 57
    · refine gj_top (y := 1) (if_pos hd) ?_
      refine gj_if_eq (tgt := 67) d_Tx_takeNumber_42 (by decide) (fun h42 => absurd h42 (by decide)) (fun h42 => ?_)
      refine gj_iload_n d_Tx_takeNumber_45 rfl ?_
      refine gj_kb (v := 10) d_Tx_takeNumber_46 (by decide) ?_
      refine gj_imul d_Tx_takeNumber_48 ?_
      refine gj_aload_n d_Tx_takeNumber_49 rfl ?_
      refine gj_iload_n d_Tx_takeNumber_50 rfl ?_
      refine gj_iload_n d_Tx_takeNumber_51 rfl ?_
      refine gj_iadd d_Tx_takeNumber_52 ?_
      refine gj_top (y := nI (p + 1 + k)) (nI_add _ _) ?_
      refine gj_callV (as := [.int (nI (p + 1 + k))]) (rest := [.int ((v) * (10))]) (K1 := 0) (N1 := 0) d_Tx_takeNumber_53 mo_Tx_at gw_174 gw_175 gw_176 hx rfl pl_Tx_at (Nat.le_of_ble_eq_true rfl) (Nat.le_of_ble_eq_true rfl) (Nat.zero_le _) (Nat.zero_le _) (c_Tx_at hx hs h6 (p + 1 + k) (by omega)) (fun E n' C' _ h => by cases h) (fun v n' C' _ h => ?_)
      cases h
      refine gj_kb (v := 48) d_Tx_takeNumber_56 (by decide) ?_
      refine gj_isub d_Tx_takeNumber_58 ?_
      refine gj_iadd d_Tx_takeNumber_59 ?_
      refine gj_istore_n d_Tx_takeNumber_60 (by decide) ?_
      refine gj_iinc d_Tx_takeNumber_61 rfl (by decide) ?_
      refine gj_goto (tgt := 26) d_Tx_takeNumber_64 (by decide) ?_
      refine gj_less (lc' := [(0, .ref (x)), (1, .int (nI (p + 1))), (2, .int (v * 10 + (pt_at f ln (p + 1 + k) - 48))), (3, .int (nI k + 1))]) ⟨rfl, rfl, rfl, rfl, trivial⟩ ?_
      rw [nI_1]
      refine ih (k + 1) _ (by omega) (fun k2 v2 e1 e2 => hend k2 v2 ?_ ?_)
      · rw [e1]
        show _ = k + (if _ then _ else _)
        rw [if_pos hd, show p + 1 + k + 1 = p + 1 + (k + 1) by omega]
        omega
      · rw [e2]
        show _ = (if _ then _ else _)
        rw [if_pos hd, show p + 1 + k + 1 = p + 1 + (k + 1) by omega]
    · refine gj_top (y := 0) (if_neg hd) ?_
      refine gj_if_eq (tgt := 67) d_Tx_takeNumber_42 (by decide) (fun h42 => ?_) (fun h42 => absurd rfl h42)
      refine hend k v ?_ ?_
      · show k = k + (if _ then _ else _)
        rw [if_neg hd]
        rfl
      · show v = (if _ then _ else _)
        rw [if_neg hd]
end
section
theorem pt_nd_le (f : Nat → Int32) (ln : Nat) : ∀ m q, pt_nd f ln q m ≤ m
  | 0, _ => Nat.le_refl 0
  | m + 1, q => by
    unfold pt_nd
    split
    · have := pt_nd_le f ln m (q + 1)
      omega
    · omega
/-- where a number that begins at p with its blank ends; and the number, -1 if it is none -/
noncomputable def pt_np (f : Nat → Int32) (ln p : Nat) : Nat := if pt_at f ln p = 32 then p + 1 + pt_nd f ln (p + 1) 9 else p
noncomputable def pt_num (f : Nat → Int32) (ln p : Nat) : Int32 := if pt_at f ln p = 32 then (if pt_nd f ln (p + 1) 9 = 0 ∨ (1 < pt_nd f ln (p + 1) 9 ∧ pt_at f ln (p + 1) = 48) then -1 else pt_vl f ln (p + 1) 0 9) else -1
theorem pt_num_no {f : Nat → Int32} {ln p : Nat} (h : ¬ pt_at f ln p = 32) : pt_num f ln p = -1 := if_neg h
theorem pt_num_a {f : Nat → Int32} {ln p k2 : Nat} (h : pt_at f ln p = 32) (e1 : k2 = 0 + pt_nd f ln (p + 1 + 0) 9) (h0 : nI k2 = 0) : -1 = pt_num f ln p := by
  have hl := pt_nd_le f ln 9 (p + 1)
  have e2 : k2 = pt_nd f ln (p + 1) 9 := by rw [e1, Nat.zero_add, Nat.add_zero]
  have h1 : k2 = 0 := (nI_eq (by omega) (by omega)).mp (h0.trans nI_0.symm)
  unfold pt_num
  rw [if_pos h, if_pos (Or.inl (by omega))]
theorem pt_num_b {f : Nat → Int32} {ln p k2 : Nat} (h : pt_at f ln p = 32) (e1 : k2 = 0 + pt_nd f ln (p + 1 + 0) 9) (h1 : ¬ nI k2 ≤ 1) (h2 : pt_at f ln (p + 1) = 48) : -1 = pt_num f ln p := by
  have hl := pt_nd_le f ln 9 (p + 1)
  have e2 : k2 = pt_nd f ln (p + 1) 9 := by rw [e1, Nat.zero_add, Nat.add_zero]
  have h3 : 1 < k2 := Nat.lt_of_not_le (fun q => h1 (nI_le (b := 1) q (by decide)))
  unfold pt_num
  rw [if_pos h, if_pos (Or.inr ⟨by omega, h2⟩)]
theorem pt_num_c {f : Nat → Int32} {ln p k2 : Nat} {v2 : Int32} (h : pt_at f ln p = 32) (e1 : k2 = 0 + pt_nd f ln (p + 1 + 0) 9) (ev : v2 = pt_vl f ln (p + 1 + 0) 0 9) (h0 : ¬ nI k2 = 0) (h2 : nI k2 ≤ 1 ∨ ¬ pt_at f ln (p + 1) = 48) : v2 = pt_num f ln p := by
  have hl := pt_nd_le f ln 9 (p + 1)
  have e2 : k2 = pt_nd f ln (p + 1) 9 := by rw [e1, Nat.zero_add, Nat.add_zero]
  have h1 : k2 ≠ 0 := fun q => h0 (by rw [q]; exact nI_0)
  unfold pt_num
  rw [if_pos h, if_neg, ev, Nat.add_zero]
  rintro (q | ⟨q1, q2⟩)
  · omega
  · rcases h2 with h2 | h2
    · exact nI_ge (a := 1) (b := k2) (by omega) (by omega) h2
    · exact h2 q2
theorem pt_np_y {f : Nat → Int32} {ln p k2 : Nat} (h : pt_at f ln p = 32) (e1 : k2 = 0 + pt_nd f ln (p + 1 + 0) 9) : p + 1 + k2 = pt_np f ln p := by
  unfold pt_np
  rw [if_pos h, e1, Nat.zero_add, Nat.add_zero]
def gj_iv (v : Int32) : Option Value ⊕ String := .inl (some (.int v))
set_option maxHeartbeats 1000000 in
/-- Text.takeNumber -/
theorem c_Tx_takeNumber {d K N n x ln p : Nat} {C : Nat → va_E} {f : Nat → Int32} (hx : C x = .inr (1, [.ref (x + 1), .ref (x + 2), .int (nI ln), .int (nI p)])) (hs : C (x + 1) = .inl (0, 600, .inl f)) (h6 : ln ≤ 600) (hp : p ≤ 700) : gj_G md_Tx_takeNumber (d + 1) K N 0 0 0 [(0, .ref x)] [] n C (fun r => r.1 = gj_iv (pt_num f ln p) ∧ r.2.1 = n ∧ r.2.2 x = .inr (1, [.ref (x + 1), .ref (x + 2), .int (nI ln), .int (nI (pt_np f ln p))]) ∧ ∀ y, y ≠ x → r.2.2 y = C y) := by
  refine gj_aload_n d_Tx_takeNumber_0 rfl ?_
  refine gj_aload_n d_Tx_takeNumber_1 rfl ?_
  refine gj_get d_Tx_takeNumber_2 gf_Tx_22 hx rfl ?_
  refine gj_callV (as := [.int (nI p)]) (rest := []) (K1 := 0) (N1 := 0) d_Tx_takeNumber_5 mo_Tx_at gw_174 gw_175 gw_176 hx rfl pl_Tx_at (Nat.le_of_ble_eq_true rfl) (Nat.le_of_ble_eq_true rfl) (Nat.zero_le _) (Nat.zero_le _) (c_Tx_at hx hs h6 (p) (by omega)) (fun E n' C' _ h => by cases h) (fun v n' C' _ h => ?_)
  cases h
  refine gj_kb (v := 32) d_Tx_takeNumber_8 (by decide) ?_
  refine gj_icmp_eq (tgt := 15) d_Tx_takeNumber_10 (by decide) (fun h10 => ?_) (fun h10 => ?_)
  · refine gj_aload_n d_Tx_takeNumber_15 rfl ?_
    refine gj_get d_Tx_takeNumber_16 gf_Tx_22 hx rfl ?_
    refine gj_kc (v := 1) d_Tx_takeNumber_19 (by decide) ?_
    refine gj_iadd d_Tx_takeNumber_20 ?_
    refine gj_top (y := nI (p + 1)) (nI_1 p) ?_
    refine gj_istore_n d_Tx_takeNumber_21 (by decide) ?_
    refine gj_kc (v := 0) d_Tx_takeNumber_22 (by decide) ?_
    refine gj_istore_n d_Tx_takeNumber_23 (by decide) ?_
    refine gj_kc (v := 0) d_Tx_takeNumber_24 (by decide) ?_
    refine gj_istore_n d_Tx_takeNumber_25 (by decide) ?_
    refine gj_less (lc' := [(0, .ref (x)), (1, .int (nI (p + 1))), (2, .int 0), (3, .int (nI 0))]) ⟨rfl, rfl, rfl, rfl, trivial⟩ ?_
    refine c_Tx_takeNumber_loop hx hs h6 hp 9 0 0 rfl (fun k2 v2 e1 e2 => ?_)
    have hk9 := pt_nd_le f ln 9 (p + 1 + 0)
    refine gj_aload_n d_Tx_takeNumber_67 rfl ?_
    refine gj_iload_n d_Tx_takeNumber_68 rfl ?_
    refine gj_iload_n d_Tx_takeNumber_69 rfl ?_
    refine gj_iadd d_Tx_takeNumber_70 ?_
    refine gj_top (y := nI (p + 1 + k2)) (nI_add _ _) ?_
    refine gj_put d_Tx_takeNumber_71 gp_Tx_22 hx (Nat.le_of_ble_eq_true rfl) (fun _ => rfl) (fun _ => rfl) ?_
    obtain ⟨C1, eC1⟩ : ∃ z, z = va_up C (x) (.inr (1, [.ref (x + 1), .ref (x + 2), .int (nI ln), .int (nI (p + 1 + k2))])) := ⟨_, rfl⟩
    refine gj_mem eC1 ?_
    have f2 : C1 (x) = .inr (1, [.ref (x + 1), .ref (x + 2), .int (nI ln), .int (nI (p + 1 + k2))]) := by rw [eC1]; exact va_up_self _ _ _
    have f3 : C1 (x + 1) = .inl (0, 600, .inl f) := by rw [eC1, va_up_ne _ _ (by omega)]; exact hs
    refine gj_iload_n d_Tx_takeNumber_74 rfl ?_
    refine gj_kc (v := 1) d_Tx_takeNumber_75 (by decide) ?_
    refine gj_icmp_le (tgt := 93) d_Tx_takeNumber_76 (by decide) (fun h76 => ?_) (fun h76 => ?_)
    · refine gj_kc (v := 0) d_Tx_takeNumber_93 (by decide) ?_
      refine gj_istore d_Tx_takeNumber_94 (by decide) ?_
      refine gj_iload_n d_Tx_takeNumber_96 rfl ?_
      refine gj_if_eq (tgt := 105) d_Tx_takeNumber_97 (by decide) (fun h97 => ?_) (fun h97 => ?_)
      · refine gj_kc (v := (-1)) d_Tx_takeNumber_105 (by decide) ?_
        refine gj_goto (tgt := 110) d_Tx_takeNumber_106 (by decide) ?_
        refine gj_iret rfl (Nat.zero_le _) (Nat.zero_le _) d_Tx_takeNumber_110 ?_
        exact ⟨congrArg gj_iv (pt_num_a h10 e1 h97), rfl, by rw [← pt_np_y h10 e1]; exact f2, fun y hy => by rw [eC1]; exact va_up_ne _ _ hy⟩
      · refine gj_iload d_Tx_takeNumber_100 rfl ?_
        refine gj_if_eq (tgt := 109) d_Tx_takeNumber_102 (by decide) (fun h102 => ?_) (fun h102 => absurd rfl h102)
        refine gj_iload_n d_Tx_takeNumber_109 rfl ?_
        refine gj_iret rfl (Nat.zero_le _) (Nat.zero_le _) d_Tx_takeNumber_110 ?_
        exact ⟨congrArg gj_iv (pt_num_c h10 e1 e2 h97 (by first | exact Or.inl h76 | exact Or.inr h86)), rfl, by rw [← pt_np_y h10 e1]; exact f2, fun y hy => by rw [eC1]; exact va_up_ne _ _ hy⟩
    · refine gj_aload_n d_Tx_takeNumber_79 rfl ?_
      refine gj_iload_n d_Tx_takeNumber_80 rfl ?_
      refine gj_callV (as := [.int (nI (p + 1))]) (rest := []) (K1 := 0) (N1 := 0) d_Tx_takeNumber_81 mo_Tx_at gw_174 gw_175 gw_176 f2 rfl pl_Tx_at (Nat.le_of_ble_eq_true rfl) (Nat.le_of_ble_eq_true rfl) (Nat.zero_le _) (Nat.zero_le _) (c_Tx_at f2 f3 h6 (p + 1) (by omega)) (fun E n' C' _ h => by cases h) (fun v n' C' _ h => ?_)
      cases h
      refine gj_kb (v := 48) d_Tx_takeNumber_84 (by decide) ?_
      refine gj_icmp_ne (tgt := 93) d_Tx_takeNumber_86 (by decide) (fun h86 => ?_) (fun h86 => ?_)
      · refine gj_kc (v := 0) d_Tx_takeNumber_93 (by decide) ?_
        refine gj_istore d_Tx_takeNumber_94 (by decide) ?_
        refine gj_iload_n d_Tx_takeNumber_96 rfl ?_
        refine gj_if_eq (tgt := 105) d_Tx_takeNumber_97 (by decide) (fun h97 => ?_) (fun h97 => ?_)
        · refine gj_kc (v := (-1)) d_Tx_takeNumber_105 (by decide) ?_
          refine gj_goto (tgt := 110) d_Tx_takeNumber_106 (by decide) ?_
          refine gj_iret rfl (Nat.zero_le _) (Nat.zero_le _) d_Tx_takeNumber_110 ?_
          exact ⟨congrArg gj_iv (pt_num_a h10 e1 h97), rfl, by rw [← pt_np_y h10 e1]; exact f2, fun y hy => by rw [eC1]; exact va_up_ne _ _ hy⟩
        · refine gj_iload d_Tx_takeNumber_100 rfl ?_
          refine gj_if_eq (tgt := 109) d_Tx_takeNumber_102 (by decide) (fun h102 => ?_) (fun h102 => absurd rfl h102)
          refine gj_iload_n d_Tx_takeNumber_109 rfl ?_
          refine gj_iret rfl (Nat.zero_le _) (Nat.zero_le _) d_Tx_takeNumber_110 ?_
          exact ⟨congrArg gj_iv (pt_num_c h10 e1 e2 h97 (by first | exact Or.inl h76 | exact Or.inr h86)), rfl, by rw [← pt_np_y h10 e1]; exact f2, fun y hy => by rw [eC1]; exact va_up_ne _ _ hy⟩
      · refine gj_kc (v := 1) d_Tx_takeNumber_89 (by decide) ?_
        refine gj_goto (tgt := 94) d_Tx_takeNumber_90 (by decide) ?_
        refine gj_istore d_Tx_takeNumber_94 (by decide) ?_
        refine gj_iload_n d_Tx_takeNumber_96 rfl ?_
        refine gj_if_eq (tgt := 105) d_Tx_takeNumber_97 (by decide) (fun h97 => ?_) (fun h97 => ?_)
        · refine gj_kc (v := (-1)) d_Tx_takeNumber_105 (by decide) ?_
          refine gj_goto (tgt := 110) d_Tx_takeNumber_106 (by decide) ?_
          refine gj_iret rfl (Nat.zero_le _) (Nat.zero_le _) d_Tx_takeNumber_110 ?_
          exact ⟨congrArg gj_iv (pt_num_a h10 e1 h97), rfl, by rw [← pt_np_y h10 e1]; exact f2, fun y hy => by rw [eC1]; exact va_up_ne _ _ hy⟩
        · refine gj_iload d_Tx_takeNumber_100 rfl ?_
          refine gj_if_eq (tgt := 109) d_Tx_takeNumber_102 (by decide) (fun h102 => absurd h102 (by decide)) (fun h102 => ?_)
          refine gj_kc (v := (-1)) d_Tx_takeNumber_105 (by decide) ?_
          refine gj_goto (tgt := 110) d_Tx_takeNumber_106 (by decide) ?_
          refine gj_iret rfl (Nat.zero_le _) (Nat.zero_le _) d_Tx_takeNumber_110 ?_
          exact ⟨congrArg gj_iv (pt_num_b h10 e1 h76 h86), rfl, by rw [← pt_np_y h10 e1]; exact f2, fun y hy => by rw [eC1]; exact va_up_ne _ _ hy⟩
  · refine gj_kc (v := (-1)) d_Tx_takeNumber_13 (by decide) ?_
    refine gj_iret rfl (Nat.zero_le _) (Nat.zero_le _) d_Tx_takeNumber_14 ?_
    exact ⟨congrArg gj_iv (pt_num_no h10).symm, rfl, by unfold pt_np; rw [if_neg h10]; exact hx, fun y hy => rfl⟩
end
section
def gj_vv : Option Value ⊕ String := .inl none
def gj_lv2 (v : Int64) : Option Value ⊕ String := .inl (some (.long v))
theorem pt_nd_in (f : Nat → Int32) (ln : Nat) : ∀ m q, pt_nd f ln q m = 0 ∨ q + pt_nd f ln q m ≤ ln
  | 0, _ => Or.inl rfl
  | m + 1, q => by
    unfold pt_nd
    split
    · rename_i h
      have hq : q < ln := by
        rcases Nat.lt_or_ge q ln with h1 | h1
        · exact h1
        · have e : pt_at f ln q = -1 := if_neg (Nat.not_lt.mpr h1)
          rw [e] at h
          exact absurd h.1 (by decide)
      rcases pt_nd_in f ln m (q + 1) with h2 | h2
      · right; omega
      · right; omega
    · exact Or.inl rfl
theorem pt_np_le {f : Nat → Int32} {ln p : Nat} (h6 : ln ≤ 600) (hp : p ≤ 700) : pt_np f ln p ≤ 700 := by
  unfold pt_np
  split
  · rename_i h
    have hq : p < ln := by
      rcases Nat.lt_or_ge p ln with h1 | h1
      · exact h1
      · have e : pt_at f ln p = -1 := if_neg (Nat.not_lt.mpr h1)
        rw [e] at h
        exact absurd h (by decide)
    rcases pt_nd_in f ln 9 (p + 1) with h2 | h2 <;> omega
  · exact hp
/-- so many numbers from p on: whether all are there, where they end, the row of them -/
noncomputable def pt_run (f : Nat → Int32) (ln : Nat) : Nat → Nat → Nat → (Nat → Int32) → Bool × Nat × (Nat → Int32)
  | 0, _, p, g => (true, p, g)
  | m + 1, i, p, g => if pt_num f ln p = -1 then (false, pt_np f ln p, upd g i (pt_num f ln p)) else pt_run f ln m (i + 1) (pt_np f ln p) (upd g i (pt_num f ln p))
set_option maxHeartbeats 1000000 in
theorem c_Tx_behindLine_loop {d K N n x ln q wn : Nat} {f : Nat → Int32} {Q : gj_R → Prop} (h6 : ln ≤ 600) (hw : wn ≤ 4) : ∀ (m i p : Nat) (g : Nat → Int32) (C : Nat → va_E), i + m = wn → C x = .inr (1, [.ref (x + 1), .ref (x + 2), .int (nI ln), .int (nI p)]) → C (x + 1) = .inl (0, 600, .inl f) → C (x + 2) = .inl (0, 4, .inl g) → p ≤ 700 →
    (∀ (C2 : Nat → va_E) (p2 : Nat) (g2 : Nat → Int32), pt_run f ln m i p g = (true, p2, g2) → C2 x = .inr (1, [.ref (x + 1), .ref (x + 2), .int (nI ln), .int (nI p2)]) → C2 (x + 2) = .inl (0, 4, .inl g2) → (∀ y, y ≠ x → y ≠ x + 2 → C2 y = C y) → gj_G md_Tx_behindLine (d + 2) K N 0 0 57 [(0, .ref x), (1, .int (nI q)), (2, .int (nI wn)), (3, .int (nI wn))] [] n C2 Q) →
    (∀ (C2 : Nat → va_E) (p2 : Nat) (g2 : Nat → Int32), pt_run f ln m i p g = (false, p2, g2) → C2 x = .inr (1, [.ref (x + 1), .ref (x + 2), .int (nI ln), .int (nI p2)]) → C2 (x + 2) = .inl (0, 4, .inl g2) → (∀ y, y ≠ x → y ≠ x + 2 → C2 y = C y) → Q (gj_iv (-1), n, C2)) →
    gj_G md_Tx_behindLine (d + 2) K N 0 0 24 [(0, .ref x), (1, .int (nI q)), (2, .int (nI wn)), (3, .int (nI i))] [] n C Q := by
  intro m
  induction m with
  | zero =>
    intro i p g C hi hx hs hn hp hok hno
    have hi : i = wn := hi
    subst hi
    refine gj_iload_n d_Tx_behindLine_24 rfl ?_
    refine gj_iload_n d_Tx_behindLine_25 rfl ?_
    exact gj_icmp_ge (tgt := 57) d_Tx_behindLine_26 (by decide) (fun _ => hok C p g rfl hx hn (fun _ _ _ => rfl)) (fun h26 => absurd (nI_le (Nat.le_refl i) (by omega)) h26)
  | succ m ih =>
    intro i p g C hi hx hs hn hp hok hno
    refine gj_iload_n d_Tx_behindLine_24 rfl ?_
    refine gj_iload_n d_Tx_behindLine_25 rfl ?_
    refine gj_icmp_ge (tgt := 57) d_Tx_behindLine_26 (by decide) (fun h26 => absurd h26 (nI_ge (b := wn) (by omega) (by omega))) (fun h26 => ?_)
    refine gj_aload_n d_Tx_behindLine_29 rfl ?_
    refine gj_get d_Tx_behindLine_30 gf_Tx_15 hx rfl ?_
    refine gj_iload_n d_Tx_behindLine_33 rfl ?_
    refine gj_aload_n d_Tx_behindLine_34 rfl ?_
    refine gj_callV (as := []) (rest := [.int (nI i), .ref (x + 2)]) (K1 := 0) (N1 := 0) d_Tx_behindLine_35 mo_Tx_takeNumber gw_181 gw_183 gw_1 hx rfl pl_Tx_takeNumber (Nat.le_of_ble_eq_true rfl) (Nat.le_of_ble_eq_true rfl) (Nat.zero_le _) (Nat.zero_le _) (c_Tx_takeNumber hx hs h6 hp) (fun E n' C' _ h => by obtain ⟨hv, -⟩ := h; exact nomatch hv) (fun v1 n1 C1 _ h1 => ?_)
    obtain ⟨hv1, hn1, u1_0, hr1⟩ := h1
    dsimp only [gj_iv, gj_vv, gj_lv2] at hv1 hn1 hr1 u1_0
    cases hv1; cases hn1
    have f2 : C1 (x + 1) = .inl (0, 600, .inl f) := (hr1 _ (by omega)).trans hs
    have f3 : C1 (x + 2) = .inl (0, 4, .inl g) := (hr1 _ (by omega)).trans hn
    refine gj_iast d_Tx_behindLine_38 f3 rfl (vp_in_nI (by omega) (by decide)) ?_
    obtain ⟨C4, eC4⟩ : ∃ z, z = va_up C1 (x + 2) (.inl (0, 4, .inl (upd g (nI i : Int32).toNatClampNeg (pt_num f ln p)))) := ⟨_, rfl⟩
    refine gj_mem eC4 ?_
    have f5 : C4 (x) = .inr (1, [.ref (x + 1), .ref (x + 2), .int (nI ln), .int (nI (pt_np f ln p))]) := by rw [eC4, va_up_ne _ _ (by omega)]; exact u1_0
    have f6 : C4 (x + 1) = .inl (0, 600, .inl f) := by rw [eC4, va_up_ne _ _ (by omega)]; exact f2
    have f7 : C4 (x + 2) = .inl (0, 4, .inl (upd g (nI i : Int32).toNatClampNeg (pt_num f ln p))) := by rw [eC4]; exact va_up_self _ _ _
    refine gj_aload_n d_Tx_behindLine_39 rfl ?_
    refine gj_get d_Tx_behindLine_40 gf_Tx_15 f5 rfl ?_
    refine gj_iload_n d_Tx_behindLine_43 rfl ?_
    refine gj_iald d_Tx_behindLine_44 f7 rfl (vp_in_nI (by omega) (by decide)) ?_
    refine gj_top (y := pt_num f ln p) (pk_us) ?_
    refine gj_kc (v := (-1)) d_Tx_behindLine_45 (by decide) ?_
    refine gj_icmp_ne (tgt := 51) d_Tx_behindLine_46 (by decide) (fun h46 => ?_) (fun h46 => ?_)
    · refine gj_iinc d_Tx_behindLine_51 rfl (by decide) ?_
      refine gj_goto (tgt := 24) d_Tx_behindLine_54 (by decide) ?_
      have k1 : C4 (x + 2) = .inl (0, 4, .inl (upd g i (pt_num f ln p))) := by rw [← nI_clamp (n := i) (by omega)]; exact f7
      have k2 : ∀ y, y ≠ x → y ≠ x + 2 → C4 y = C y := fun y h1 h2 => by rw [eC4, va_up_ne _ _ h2]; exact hr1 y h1
      refine gj_less (lc' := [(0, .ref (x)), (1, .int (nI q)), (2, .int (nI wn)), (3, .int (nI i + 1))]) ⟨rfl, rfl, rfl, rfl, trivial⟩ ?_
      rw [nI_1]
      refine ih (i + 1) _ _ C4 (by omega) f5 f6 k1 (pt_np_le h6 hp) (fun C2 p2 g2 e0 e1 e2 e3 => hok C2 p2 g2 ?_ e1 e2 (fun y h1 h2 => (e3 y h1 h2).trans (k2 y h1 h2))) (fun C2 p2 g2 e0 e1 e2 e3 => hno C2 p2 g2 ?_ e1 e2 (fun y h1 h2 => (e3 y h1 h2).trans (k2 y h1 h2)))
      · unfold pt_run; rw [if_neg h46]; exact e0
      · unfold pt_run; rw [if_neg h46]; exact e0
    · refine gj_kc (v := (-1)) d_Tx_behindLine_49 (by decide) ?_
      refine gj_iret rfl (Nat.zero_le _) (Nat.zero_le _) d_Tx_behindLine_50 ?_
      have k1 : C4 (x + 2) = .inl (0, 4, .inl (upd g i (pt_num f ln p))) := by rw [← nI_clamp (n := i) (by omega)]; exact f7
      have k2 : ∀ y, y ≠ x → y ≠ x + 2 → C4 y = C y := fun y h1 h2 => by rw [eC4, va_up_ne _ _ h2]; exact hr1 y h1
      exact hno C4 _ _ (by unfold pt_run; rw [if_pos h46]) f5 k1 k2
end
section
def pt_nbN (c : Int32) : Nat := if c = 82 then 4 else if c = 70 then 3 else if c = 68 ∨ c = 77 then 2 else 0
theorem pt_nb_eq (c : Int32) : pt_nb c = nI (pt_nbN c) := by
  unfold pt_nb pt_nbN
  split
  · rfl
  · split
    · rfl
    · split <;> rfl
theorem pt_nbN_le (c : Int32) : pt_nbN c ≤ 4 := by
  unfold pt_nbN
  split
  · omega
  · split
    · omega
    · split <;> omega
theorem pt_run_le {f : Nat → Int32} {ln : Nat} (h6 : ln ≤ 600) : ∀ (m i p : Nat) (g : Nat → Int32), p ≤ 700 → (pt_run f ln m i p g).2.1 ≤ 700
  | 0, _, _, _, hp => hp
  | m + 1, i, p, g, hp => by
    unfold pt_run
    split
    · exact pt_np_le h6 hp
    · exact pt_run_le h6 m (i + 1) _ _ (pt_np_le h6 hp)
/-- the numbers of the line that begins at q -/
noncomputable def pt_lr (f : Nat → Int32) (ln q : Nat) (g : Nat → Int32) : Bool × Nat × (Nat → Int32) := pt_run f ln (pt_nbN (pt_at f ln q)) 0 (q + 1) g
/-- Text.behindLine: its answer, the place, the row -/
noncomputable def pt_blv (f : Nat → Int32) (ln q : Nat) (g : Nat → Int32) : Int32 := if pt_nbN (pt_at f ln q) = 0 then -1 else if (pt_lr f ln q g).1 = true ∧ pt_at f ln (pt_lr f ln q g).2.1 = 10 then nI ((pt_lr f ln q g).2.1 + 1) else -1
noncomputable def pt_blp (f : Nat → Int32) (ln q : Nat) (g : Nat → Int32) (pl : Int32) : Int32 := if pt_nbN (pt_at f ln q) = 0 then pl else nI (pt_lr f ln q g).2.1
noncomputable def pt_blg (f : Nat → Int32) (ln q : Nat) (g : Nat → Int32) : Nat → Int32 := if pt_nbN (pt_at f ln q) = 0 then g else (pt_lr f ln q g).2.2
set_option maxHeartbeats 1000000 in
/-- Text.behindLine -/
theorem c_Tx_behindLine {d K N n x ln q : Nat} {C : Nat → va_E} {f g : Nat → Int32} {pl : Int32} (hx : C x = .inr (1, [.ref (x + 1), .ref (x + 2), .int (nI ln), .int pl])) (hs : C (x + 1) = .inl (0, 600, .inl f)) (hn : C (x + 2) = .inl (0, 4, .inl g)) (h6 : ln ≤ 600) (hq : q ≤ 600) : gj_G md_Tx_behindLine (d + 2) K N 0 0 0 [(0, .ref x), (1, .int (nI q))] [] n C
    (fun r => r.1 = gj_iv (pt_blv f ln q g) ∧ r.2.1 = n ∧ r.2.2 x = .inr (1, [.ref (x + 1), .ref (x + 2), .int (nI ln), .int (pt_blp f ln q g pl)]) ∧ r.2.2 (x + 2) = .inl (0, 4, .inl (pt_blg f ln q g)) ∧ ∀ y, y ≠ x → y ≠ x + 2 → r.2.2 y = C y) := by
  refine gj_aload_n d_Tx_behindLine_0 rfl ?_
  refine gj_iload_n d_Tx_behindLine_1 rfl ?_
  refine gj_callV (as := [.int (nI q)]) (rest := []) (K1 := 0) (N1 := 0) d_Tx_behindLine_2 mo_Tx_at gw_174 gw_175 gw_176 hx rfl pl_Tx_at (Nat.le_of_ble_eq_true rfl) (Nat.le_of_ble_eq_true rfl) (Nat.zero_le _) (Nat.zero_le _) (c_Tx_at hx hs h6 (q) (by omega)) (fun E n' C' _ h => by cases h) (fun v n' C' _ h => ?_)
  cases h
  refine gj_callS (as := [.int (pt_at f ln (q))]) (rest := []) (K1 := 0) (N1 := 0) d_Tx_behindLine_5 mo_Tx_numbersBehind gw_178 gw_179 gw_21 pl_Tx_numbersBehind (Nat.le_of_ble_eq_true rfl) (Nat.le_of_ble_eq_true rfl) (Nat.zero_le _) (Nat.zero_le _) (c_Tx_numbersBehind (pt_at f ln (q))) (fun E n' C' _ h => by cases h) (fun v n' C' _ h => ?_)
  cases h
  refine gj_top (y := nI (pt_nbN (pt_at f ln q))) (pt_nb_eq _) ?_
  have hnb := pt_nbN_le (pt_at f ln q)
  refine gj_istore_n d_Tx_behindLine_8 (by decide) ?_
  refine gj_iload_n d_Tx_behindLine_9 rfl ?_
  refine gj_if_ne (tgt := 15) d_Tx_behindLine_10 (by decide) (fun h10 => ?_) (fun h10 => ?_)
  · refine gj_aload_n d_Tx_behindLine_15 rfl ?_
    refine gj_iload_n d_Tx_behindLine_16 rfl ?_
    refine gj_kc (v := 1) d_Tx_behindLine_17 (by decide) ?_
    refine gj_iadd d_Tx_behindLine_18 ?_
    refine gj_top (y := nI (q + 1)) (nI_1 q) ?_
    refine gj_put d_Tx_behindLine_19 gp_Tx_22 hx (Nat.le_of_ble_eq_true rfl) (fun _ => rfl) (fun _ => rfl) ?_
    obtain ⟨C1, eC1⟩ : ∃ z, z = va_up C (x) (.inr (1, [.ref (x + 1), .ref (x + 2), .int (nI ln), .int (nI (q + 1))])) := ⟨_, rfl⟩
    refine gj_mem eC1 ?_
    have f2 : C1 (x) = .inr (1, [.ref (x + 1), .ref (x + 2), .int (nI ln), .int (nI (q + 1))]) := by rw [eC1]; exact va_up_self _ _ _
    have f3 : C1 (x + 1) = .inl (0, 600, .inl f) := by rw [eC1, va_up_ne _ _ (by omega)]; exact hs
    have f4 : C1 (x + 2) = .inl (0, 4, .inl g) := by rw [eC1, va_up_ne _ _ (by omega)]; exact hn
    refine gj_kc (v := 0) d_Tx_behindLine_22 (by decide) ?_
    refine gj_istore_n d_Tx_behindLine_23 (by decide) ?_
    have hz : ¬ pt_nbN (pt_at f ln q) = 0 := fun h => h10 (by rw [h]; exact nI_0)
    refine gj_less (lc' := [(0, .ref (x)), (1, .int (nI q)), (2, .int (nI (pt_nbN (pt_at f ln q)))), (3, .int (nI 0))]) ⟨rfl, rfl, rfl, rfl, trivial⟩ ?_
    refine c_Tx_behindLine_loop h6 hnb (pt_nbN (pt_at f ln q)) 0 (q + 1) g C1 (by omega) f2 f3 f4 (by omega) (fun C9 p2 g2 e0 e1 e2 e3 => ?_) (fun C9 p2 g2 e0 e1 e2 e3 => ?_)
    · have e4 : C9 (x + 1) = .inl (0, 600, .inl f) := (e3 _ (by omega) (by omega)).trans f3
      have e5 : pt_lr f ln q g = (true, p2, g2) := e0
      have e6 : p2 ≤ 700 := by have := pt_run_le (f := f) h6 (pt_nbN (pt_at f ln q)) 0 (q + 1) g (by omega); rw [e0] at this; exact this
      refine gj_aload_n d_Tx_behindLine_57 rfl ?_
      refine gj_aload_n d_Tx_behindLine_58 rfl ?_
      refine gj_get d_Tx_behindLine_59 gf_Tx_22 e1 rfl ?_
      refine gj_callV (as := [.int (nI p2)]) (rest := []) (K1 := 0) (N1 := 0) d_Tx_behindLine_62 mo_Tx_at gw_174 gw_175 gw_176 e1 rfl pl_Tx_at (Nat.le_of_ble_eq_true rfl) (Nat.le_of_ble_eq_true rfl) (Nat.zero_le _) (Nat.zero_le _) (c_Tx_at e1 e4 h6 (p2) (by omega)) (fun E n' C' _ h => by cases h) (fun v n' C' _ h => ?_)
      cases h
      refine gj_kb (v := 10) d_Tx_behindLine_65 (by decide) ?_
      refine gj_icmp_ne (tgt := 79) d_Tx_behindLine_67 (by decide) (fun h67 => ?_) (fun h67 => ?_)
      · refine gj_kc (v := (-1)) d_Tx_behindLine_79 (by decide) ?_
        refine gj_iret rfl (Nat.zero_le _) (Nat.zero_le _) d_Tx_behindLine_80 ?_
        exact ⟨congrArg gj_iv (by unfold pt_blv; rw [if_neg hz, e5]; exact (if_neg (fun h => h67 h.2)).symm), rfl, by unfold pt_blp; rw [if_neg hz, e5]; exact e1, by unfold pt_blg; rw [if_neg hz, e5]; exact e2, fun y h1 h2 => (e3 y h1 h2).trans (by rw [eC1]; exact va_up_ne _ _ h1)⟩
      · refine gj_aload_n d_Tx_behindLine_70 rfl ?_
        refine gj_get d_Tx_behindLine_71 gf_Tx_22 e1 rfl ?_
        refine gj_kc (v := 1) d_Tx_behindLine_74 (by decide) ?_
        refine gj_iadd d_Tx_behindLine_75 ?_
        refine gj_goto (tgt := 80) d_Tx_behindLine_76 (by decide) ?_
        refine gj_iret rfl (Nat.zero_le _) (Nat.zero_le _) d_Tx_behindLine_80 ?_
        exact ⟨congrArg gj_iv (by unfold pt_blv; rw [if_neg hz, e5, nI_1]; exact (if_pos ⟨rfl, h67⟩).symm), rfl, by unfold pt_blp; rw [if_neg hz, e5]; exact e1, by unfold pt_blg; rw [if_neg hz, e5]; exact e2, fun y h1 h2 => (e3 y h1 h2).trans (by rw [eC1]; exact va_up_ne _ _ h1)⟩
    · have e5 : pt_lr f ln q g = (false, p2, g2) := e0
      refine ⟨congrArg gj_iv ?_, rfl, ?_, ?_, fun y h1 h2 => (e3 y h1 h2).trans (by rw [eC1]; exact va_up_ne _ _ h1)⟩
      · unfold pt_blv; rw [if_neg hz, e5]; exact (if_neg (fun h => nomatch h.1)).symm
      · unfold pt_blp; rw [if_neg hz, e5]; exact e1
      · unfold pt_blg; rw [if_neg hz, e5]; exact e2
  · refine gj_kc (v := (-1)) d_Tx_behindLine_13 (by decide) ?_
    refine gj_iret rfl (Nat.zero_le _) (Nat.zero_le _) d_Tx_behindLine_14 ?_
    have hz : pt_nbN (pt_at f ln q) = 0 := (nI_eq (by omega) (by decide)).mp (h10.trans nI_0.symm)
    exact ⟨congrArg gj_iv (by unfold pt_blv; rw [if_pos hz]), rfl, by unfold pt_blp; rw [if_pos hz]; exact hx, by unfold pt_blg; rw [if_pos hz]; exact hn, fun _ _ _ => rfl⟩
end
section
/-! RateBreaks.Rates: the small ones -/
/-- the weight of the last step of a lane among the steps i .. i + m, behind g -/
def pr_hv (la ut : Nat → Int32) (l : Int32) : Nat → Nat → Int32 → Int32
  | 0, _, g => g
  | m + 1, i, g => pr_hv la ut l m (i + 1) (if la i = l then ut i else g)
/-- the first step of the lane that bears the grams, from i on -/
def pr_st (la ut : Nat → Int32) (l w : Int32) : Nat → Nat → Int32
  | 0, _ => -1
  | m + 1, i => if la i = l ∧ w ≤ ut i then nI i else pr_st la ut l w m (i + 1)
theorem c_Ra_heaviest_loop {d K N n x li sp : Nat} {C : Nat → va_E} {la ut : Nat → Int32} (hx : C (x) = .inr (2, [.ref (x + 1), .ref (x + 2), .ref (x + 3), .ref (x + 4), .ref (x + 5), .ref (x + 6), .ref (x + 7), .ref (x + 8), .int (nI li), .int (nI sp)])) (hla : C (x + 1) = .inl (0, 60, .inl la)) (hut : C (x + 3) = .inl (0, 60, .inl ut)) (h60 : sp ≤ 60) {l : Int32} {Q : gj_R → Prop} : ∀ (m i : Nat) (g : Int32), i + m = sp → Q (gj_iv (pr_hv la ut l m i g), n, C) → gj_G md_Ra_heaviest d K N 0 0 4 [(0, .ref x), (1, .int l), (2, .int g), (3, .int (nI i))] [] n C Q := by
  intro m
  induction m with
  | zero =>
    intro i g hi hend
    have hi : i = sp := hi
    subst hi
    refine gj_iload_n d_Ra_heaviest_4 rfl ?_
    refine gj_aload_n d_Ra_heaviest_5 rfl ?_
    refine gj_get d_Ra_heaviest_6 gf_Ra_43 hx rfl ?_
    refine gj_icmp_ge (tgt := 35) d_Ra_heaviest_9 (by decide) (fun _ => ?_) (fun h26 => absurd (nI_le (Nat.le_refl i) (by omega)) h26)
    refine gj_iload_n d_Ra_heaviest_35 rfl ?_
    exact gj_iret rfl (Nat.zero_le _) (Nat.zero_le _) d_Ra_heaviest_36 hend
  | succ m ih =>
    intro i g hi hend
    refine gj_iload_n d_Ra_heaviest_4 rfl ?_
    refine gj_aload_n d_Ra_heaviest_5 rfl ?_
    refine gj_get d_Ra_heaviest_6 gf_Ra_43 hx rfl ?_
    refine gj_icmp_ge (tgt := 35) d_Ra_heaviest_9 (by decide) (fun h9 => absurd h9 (nI_ge (by omega) (by omega))) (fun h9 => ?_)
    refine gj_aload_n d_Ra_heaviest_12 rfl ?_
    refine gj_get d_Ra_heaviest_13 gf_Ra_9 hx rfl ?_
    refine gj_iload_n d_Ra_heaviest_16 rfl ?_
    refine gj_iald d_Ra_heaviest_17 hla rfl (vp_in_nI (by omega) (by decide)) ?_
    refine gj_top (y := la (i)) (congrArg la (nI_clamp (by omega))) ?_
    refine gj_iload_n d_Ra_heaviest_18 rfl ?_
    refine gj_icmp_ne (tgt := 29) d_Ra_heaviest_19 (by decide) (fun h19 => ?_) (fun h19 => ?_)
    · refine gj_iinc d_Ra_heaviest_29 rfl (by decide) ?_
      refine gj_goto (tgt := 4) d_Ra_heaviest_32 (by decide) ?_
      refine gj_less (lc' := [(0, .ref (x)), (1, .int l), (2, .int (g)), (3, .int (nI i + 1))]) ⟨rfl, rfl, rfl, rfl, trivial⟩ ?_
      rw [nI_1]
      have := ih (i + 1) (if la i = l then ut i else g) (by omega) hend
      rw [if_neg h19] at this
      exact this
    · refine gj_aload_n d_Ra_heaviest_22 rfl ?_
      refine gj_get d_Ra_heaviest_23 gf_Ra_18 hx rfl ?_
      refine gj_iload_n d_Ra_heaviest_26 rfl ?_
      refine gj_iald d_Ra_heaviest_27 hut rfl (vp_in_nI (by omega) (by decide)) ?_
      refine gj_top (y := ut (i)) (congrArg ut (nI_clamp (by omega))) ?_
      refine gj_istore_n d_Ra_heaviest_28 (by decide) ?_
      refine gj_iinc d_Ra_heaviest_29 rfl (by decide) ?_
      refine gj_goto (tgt := 4) d_Ra_heaviest_32 (by decide) ?_
      refine gj_less (lc' := [(0, .ref (x)), (1, .int l), (2, .int (ut (i))), (3, .int (nI i + 1))]) ⟨rfl, rfl, rfl, rfl, trivial⟩ ?_
      rw [nI_1]
      have := ih (i + 1) (if la i = l then ut i else g) (by omega) hend
      rw [if_pos h19] at this
      exact this
theorem c_Ra_heaviest {d K N n x li sp : Nat} {C : Nat → va_E} {la ut : Nat → Int32} (hx : C (x) = .inr (2, [.ref (x + 1), .ref (x + 2), .ref (x + 3), .ref (x + 4), .ref (x + 5), .ref (x + 6), .ref (x + 7), .ref (x + 8), .int (nI li), .int (nI sp)])) (hla : C (x + 1) = .inl (0, 60, .inl la)) (hut : C (x + 3) = .inl (0, 60, .inl ut)) (h60 : sp ≤ 60) {l : Int32} : gj_G md_Ra_heaviest d K N 0 0 0 [(0, .ref x), (1, .int l)] [] n C (fun r => r = (gj_iv (pr_hv la ut l sp 0 0), n, C)) := by
  refine gj_kc (v := 0) d_Ra_heaviest_0 (by decide) ?_
  refine gj_istore_n d_Ra_heaviest_1 (by decide) ?_
  refine gj_kc (v := 0) d_Ra_heaviest_2 (by decide) ?_
  refine gj_istore_n d_Ra_heaviest_3 (by decide) ?_
  refine gj_less (lc' := [(0, .ref (x)), (1, .int l), (2, .int 0), (3, .int (nI 0))]) ⟨rfl, rfl, rfl, rfl, trivial⟩ ?_
  exact c_Ra_heaviest_loop hx hla hut h60 sp 0 0 (by omega) rfl
end
section
/-! AN EXCEPTION'S CONSTRUCTOR WITH A TEXT, by any chain of passing constructors; after the library's Stand.ctorThrowS, which has one chain alone -/
section
variable {p : Program} {l : Launch} {e : Env} {R : Room} {s : State} {m₀ : MethodId} {args : Array Value} {below : List Frame} {meth : Method} {c : Code} {W : State} {locs : List Loc} {cells slots : Nat}
/-- the words but the chain's -/
def gj_xw (own : String) (ic : Nat) (X : String) : List Cond :=
  Bundle.throwableAtoms ++ Bundle.throwableSAtoms ++
  [.methodLink own ic (Bundle.initS X), .instantiable X 6, .castable X X, .selects X Bundle.tFill0 Bundle.tFill0, .selects X Bundle.tFill Bundle.tFill,
   .lays X Bundle.tN "cause" "Ljava/lang/Throwable;", .lays X Bundle.tN "stackTrace" Bundle.steD, .lays X Bundle.tN "suppressedExceptions" Bundle.listD, .lays X Bundle.tN "detailMessage" "Ljava/lang/String;",
   .isRef (.static Bundle.tN "UNASSIGNED_STACK" Bundle.steD), .isRef (.static Bundle.tN "SUPPRESSED_SENTINEL" Bundle.listD),
   .fieldLink Bundle.tN 198 Bundle.tN "backtrace" "Ljava/lang/Object;", .lays Bundle.tN Bundle.tN "backtrace" "Ljava/lang/Object;", .lays X Bundle.tN "backtrace" "Ljava/lang/Object;"]
def gj_chain (cls : String) (pl : Platform) (s : State) : Prop := ∀ top : MethodId, s.methodNamed? (Bundle.initS Bundle.tN) = some top → ∃ (P1 : PassC) (Ps : List PassC), Ps.length = 2 ∧ P1.LinksS pl s ∧ (∀ P, P ∈ Ps → P.LinksS pl s) ∧ s.methodNamed? (Bundle.initS cls) = some P1.m ∧
        P1.sup = firstOf top (Ps.map (·.toPassT)) ∧ PassesOn top (Ps.map (·.toPassT))
set_option maxHeartbeats 1000000 in
theorem gj_ctor (X : Stand p l e R s m₀ args below meth c W locs cells slots) (hexec : p.tables.exec = Jvm.exec) (htr : e.platform.stackTraces = false) {own cls : String} {ic : Nat} {bytes : ByteArray}
    (hown : s.vm.findClass own = some m₀.cls) (hcls : Bundle.fit cls = true) (hchain : gj_chain cls e.platform s) (hi1 : (Cond.instanceMethod (Bundle.initS cls)).before args s = true) (hi2 : (Cond.code (Bundle.initS cls) bytes 2 none).before args s = true)
    (h : ∀ a ∈ gj_xw own ic cls, a.before args s = true)
    (hlocs : ∀ x ∈ locs, ∀ cell, s.heap[x.base]? = some cell → cell.vm.isStatics = false)
    {a : Addr} {cX : ClassId} {kX : Class} (hfoundX : s.vm.findClass cls = some cX) (hkX : s.vm.classes[cX]? = some kX) (hcell : W.heap[a]? = some (freshCell cX kX)) (hnew : s.heap.size ≤ a)
    {msg : Value} (hmsg : msg.isRef = true)
    {g : JFrame} (hg : g.method = m₀) (hsize : g.locals.size = c.maxLocals) (hlocked : g.locked = none) (hentered : g.entered = []) {rest : List Value} (hstack : g.stack = msg :: .ref a :: .ref a :: rest)
    (hd6 : decode c.code g.pc = .ok (.invokespecial ic, 3)) (hd9 : decode c.code (g.pc + 3) = .ok (.athrow, 1)) (hout : ∀ x ∈ c.exceptionTable.toList, covers x (g.pc + 3) = false)
    (hRframes : 5 < R.frames) (hRlocals : 2 * g.monitorRoom + ((Value.ref a :: rest).map fun v => v.category).sum + 81 ≤ R.locals) (hlocks : meth.locks = false) :
    ∃ U : State, Steps p.tables e below (W.setTop g) U ∧ U.status = .running ∧ Ended U below (.threw a) ∧ s.WarmedH U.vm ∧ s.sameButNew ({ U with vm := s.vm } : State) locs cells slots ∧
      ∃ ce : Cell, U.heap[a]? = some ce ∧ ce.vm = .none ∧ s.vm.findClass cls = some ce.cls := by
  have howns : e.platform.frameOwnsMonitors = true := by rw [X.admits.platform]
  have hfin : e.platform.finalization = false := by rw [X.admits.platform]
  have hpl : e.platform.magicAccessors = ({} : Platform).magicAccessors := by rw [X.admits.platform]
  have a' : ∀ x, x ∈ gj_xw own ic cls → x.holds args s none s [] = true := fun x hx => h x hx
  obtain ⟨T, Z0, L, -, Y⟩ := ThrowableC.of_atoms (args := args) howns hfin hpl (fun x hx => h x (by simp [gj_xw, hx]))
  obtain ⟨Z, M, LZ, LM, hnZ⟩ := Init0T.ofS_atoms (args := args) hpl L Y (fun x hx => h x (by simp [gj_xw, hx]))
  obtain ⟨P1, Ps, hlen, L1, hL, hP1m, hlink1, hlink⟩ := hchain _ hnZ
  have hfound : s.vm.findClass cls = some P1.m.cls := findClass_of_methodNamed hP1m
  cases Option.some.inj (hfoundX.symm.trans hfound)
  obtain ⟨c1, kX', hc1, hk, hord, -, -, hn6⟩ := Cond.instantiable_spec (a' (.instantiable cls 6) (by simp [gj_xw]))
  cases Option.some.inj (hc1.symm.trans hfound)
  cases Option.some.inj (hkX.symm.trans hk)
  have hsel0 : selectMethod e.platform s.vm P1.m.cls T.fill0 = .method T.fill0 := by
    obtain ⟨c2, r2, m2, q1, q2, q3, q4, -⟩ := Cond.selects_spec (a' (.selects cls Bundle.tFill0 Bundle.tFill0) (by simp [gj_xw]))
    cases Option.some.inj (q1.symm.trans hfound)
    cases Option.some.inj (q2.symm.trans (State.methodFound?_of_named Y.fill0 (by decide)))
    cases Option.some.inj (q3.symm.trans Y.fill0)
    rw [Launch.admits_selectMethod X.admits]; exact q4
  have hselF : selectMethod e.platform s.vm P1.m.cls T.fill = .method T.fill := by
    obtain ⟨c2, r2, m2, q1, q2, q3, q4, -⟩ := Cond.selects_spec (a' (.selects cls Bundle.tFill Bundle.tFill) (by simp [gj_xw]))
    cases Option.some.inj (q1.symm.trans hfound)
    cases Option.some.inj (q2.symm.trans (State.methodFound?_of_named Y.fill (by decide)))
    cases Option.some.inj (q3.symm.trans Y.fill)
    rw [Launch.admits_selectMethod X.admits]; exact q4
  obtain ⟨cellS0, hcS0, hiss⟩ := Y.statics
  obtain ⟨u0, hu0⟩ := Cond.staticRefV Y.unassigned L.unassignedStatic L.statics hcS0 hiss (a' (.isRef (.static Bundle.tN "UNASSIGNED_STACK" Bundle.steD)) (by simp [gj_xw]))
  obtain ⟨sen, hsen⟩ := Cond.staticRefV Y.sentinel L.sentinelStatic L.statics hcS0 hiss (a' (.isRef (.static Bundle.tN "SUPPRESSED_SENTINEL" Bundle.listD)) (by simp [gj_xw]))
  obtain ⟨ci198, i198, fB, hk198, hg198, ha198, hsB, -, hnB, htB, hffB⟩ := Cond.ownField (t := .object "java/lang/Object") Y.found L.cls (by decide +kernel) (a' (.fieldLink Bundle.tN 198 Bundle.tN "backtrace" "Ljava/lang/Object;") (by simp [gj_xw])) (a' (.lays Bundle.tN Bundle.tN "backtrace" "Ljava/lang/Object;") (by simp [gj_xw])) e.platform hpl
  obtain ⟨cellS, hcS', heS, -, hkeep⟩ := X.same.2.2.2.2.2 T.aS cellS0 hcS0
  have hcellS : W.heap[T.aS]? = some cellS := hcS'
  have hout' : ∀ i, (⟨T.aS, i⟩ : Loc) ∉ locs := fun i hmem => by
    have := hlocs _ hmem cellS0 hcS0
    rw [hiss] at this; cases this
  have hknownS : cellS.vm ≠ .unknown := by
    rw [heS]; intro hu
    rw [show cellS0.vm = .unknown from hu] at hiss
    cases hiss
  have hneS : T.aS ≠ a := Nat.ne_of_lt (Nat.lt_of_lt_of_le (Array.getElem?_eq_some_iff.mp hcS0).1 hnew)
  obtain ⟨iM, hffM⟩ := Y.msg
  obtain ⟨tyC, dC, hdC, hdnC⟩ := Cond.laysAt hfound hk Y.cause (a' (.lays cls Bundle.tN "cause" "Ljava/lang/Throwable;") (by simp [gj_xw]))
  obtain ⟨tyS, dS, hdS, hdnS⟩ := Cond.laysAt hfound hk Y.stack (a' (.lays cls Bundle.tN "stackTrace" Bundle.steD) (by simp [gj_xw]))
  obtain ⟨tyP, dP, hdP, hdnP⟩ := Cond.laysAt hfound hk Y.supp (a' (.lays cls Bundle.tN "suppressedExceptions" Bundle.listD) (by simp [gj_xw]))
  obtain ⟨tyM, dM, hdM, hdnM⟩ := Cond.laysAt hfound hk hffM (a' (.lays cls Bundle.tN "detailMessage" "Ljava/lang/String;") (by simp [gj_xw]))
  obtain ⟨tyB, dB, hdB, hdnB⟩ := Cond.laysAt hfound hk hffB (a' (.lays cls Bundle.tN "backtrace" "Ljava/lang/Object;") (by simp [gj_xw]))
  have bC := Cond.laysApart hdB hdC hdnB hdnC (by rw [hnB, Y.causeName]; decide)
  have bS := Cond.laysApart hdB hdS hdnB hdnS (by rw [hnB, Y.stackName]; decide)
  have bP := Cond.laysApart hdB hdP hdnB hdnP (by rw [hnB, Y.suppName]; decide)
  have hskip : SkipFacts T e.platform s (fun u => u) u0 ((preparedCellV T.toThrowableT (freshCell P1.m.cls kX) a u0 sen).withEntry W.cur) :=
    ⟨{ ci198 := ci198, i198 := i198, fBack := fB }, ⟨hk198, hg198, ha198, hsB⟩, by
      have := fresh_default (c := P1.m.cls) tyB
      rw [htB] at this
      simpa [preparedCellV, Cell.setSlot, Cell.withEntry, Array.getElem?_setIfInBounds, bC, bS, bP, bC.symm, bS.symm, bP.symm, defaultValue] using this, fun _ _ => rfl⟩
  obtain ⟨tm, methC, cdC, kC, vm₁, hnC, -, -, -, -, -, -, -, hW₁, st1⟩ := Steps.initColdS (tb := p.tables) (e := e) (below := below) (s := s) (U := W) X.here hexec X.warmed hpl hown (t := Bundle.initS cls) rfl rfl (Bundle.fit_spec hcls).2
    (a' (.methodLink own ic (Bundle.initS cls)) (by simp [gj_xw])) hi1 (bytes := bytes) (maxL := 2) hi2
    (f := g) hg (a := a) (msg := msg) (rest := .ref a :: rest) hstack hd6
  cases Option.some.inj (hnC.symm.trans hP1m)
  have X₁ := X.noted hW₁
  obtain ⟨vm₂, X₂, st2⟩ := X₁.ctorMessageOffV hexec (g := { g with stack := .ref a :: rest }) hg hsize T L Z LZ M LM (P1 :: Ps)
    (fun P hP => by rcases List.mem_cons.mp hP with rfl | hP; exact L1; exact hL P hP) ⟨hlink1, hlink⟩ (u0 := u0) (sen := sen) (self := a) hmsg (cell := freshCell P1.m.cls kX) (cellS := cellS)
    hcell (fun _ => by simp) (by simp) rfl rfl hsel0 hselF hcellS hneS hknownS (by rw [hkeep _ (hout' _)]; exact hu0) (by rw [hkeep _ (hout' _)]; exact hsen)
    (Takes.of_laid hk hord tyC (by rw [Y.causeType]; rfl)) (Takes.of_laid hk hord tyS (by rw [Y.stackType]; exact fits_refV_array _ u0)) (Takes.of_laid hk hord tyP (by rw [Y.suppType]; exact fits_refV_object _ sen))
    (Takes.of_laid hk hord tyM (by rw [Y.msgType]; exact fits_refV_object _ ⟨msg, hmsg⟩)) Y.objLocals hskip htr [] hd6
    (by simp only [List.length_cons, hlen]; omega) (by simp only [List.length_cons, hlen]; exact hRlocals)
  obtain ⟨hwalk, hrun, hended, hWU, hsame⟩ := X₂.athrowLeaves hexec (g := { g with stack := .ref a :: rest, pc := g.pc + 3 }) hg hlocked hentered hout (a := a) (rest := rest) rfl hd9
  have hlt : a < ((W.setVm vm₁).setVm vm₂).heap.size := (Array.getElem?_eq_some_iff.mp hcell).1
  have hU := heapAt_setCell_self (s := (W.setVm vm₁).setVm vm₂) (plainBareV T.toThrowableT (freshCell P1.m.cls kX) a u0 sen msg) hlt
  refine ⟨_, st1 _ (fun acts => ?_), hrun, hended, hWU, hsame.weaken (fun y hy hlt' => ?_) (Nat.le_refl _) (Nat.le_refl _), _, hU, rfl, hfound⟩
  · rw [doInvoke_state]
    exact st2 _ hwalk
  · rcases List.mem_append.mp hy with h1 | h1
    · exact h1
    · exfalso
      have hb : y.base = a := by
        simp only [List.mem_cons, List.not_mem_nil, or_false] at h1
        rcases h1 with rfl | rfl | rfl | rfl | rfl <;> rfl
      rw [hb] at hlt'
      exact Nat.not_lt.mpr hnew hlt'
end
end
section
/-- words that stay true as the tables grow warm, though 'goodWord' doesn't know it -/
def gj_warm : Cond → Bool
  | .castable _ _ => true
  | .declares _ => true
  | _ => false
theorem gj_warm_at {args a' : Array Value} {s U : State} {w : Cond} (hW : s.WarmedH U.vm) (hg : gj_warm w = true) (h : w.before args s = true) : w.before a' U = true := by
  cases w <;> first | (simp [gj_warm] at hg; done) | exact va_Nw.use rfl (va_Nw.warmC hW (va_Nw.of rfl h)) | exact va_Nw.use rfl (va_Nw.warmD hW (va_Nw.of rfl h))
theorem gj_chain_of {args : Array Value} {s : State} {pl : Platform} (hpl : pl.magicAccessors = ({} : Platform).magicAccessors) {cls : String} {ix : Nat} {bytes : ByteArray} (hfit : Bundle.fit cls = true)
    (h0 : decode bytes 0 = .ok (.aload_n 0, 1)) (h1 : decode bytes 1 = .ok (.aload_n 1, 1)) (h2 : decode bytes 2 = .ok (.invokespecial ix, 3)) (h5 : decode bytes 5 = .ok (.return_, 1))
    (h : ∀ w ∈ Bundle.passSAtoms cls "java/lang/RuntimeException" ix bytes ++ Bundle.chainSAtoms "java/lang/RuntimeException" ["java/lang/Exception"], w.before args s = true) : gj_chain cls pl s := by
  intro top htop
  obtain ⟨P, hP, hPm, hPs⟩ := PassC.ofS_atoms (args := args) hpl (Bundle.fit_spec hfit).1 (by decide) h0 h1 h2 h5 (fun w hw => h w (List.mem_append_left _ hw))
  obtain ⟨P1, Ps, hlen, L1, hL, hn, hsup, hpass⟩ := Bundle.chainS (args := args) hpl htop ["java/lang/Exception"] "java/lang/RuntimeException" (by decide) (by decide) (fun w hw => h w (List.mem_append_right _ hw))
  refine ⟨P, P1 :: Ps, by simp [hlen], hP, ?_, hPm, ?_, ?_⟩
  · intro Q hQ
    rcases List.mem_cons.mp hQ with rfl | hQ
    · exact L1
    · exact hL Q hQ
  · exact Option.some.inj (hPs.symm.trans hn)
  · exact ⟨hsup, hpass⟩
def gj_tok2 (own cls text : String) (ik is ic ix : Nat) (bytes : ByteArray) : Prop := Bundle.fit cls = true ∧ Cond.classLink own ik cls ∈ lw_tbl ∧ Cond.initialized cls ∈ lw_tbl ∧ Cond.stringRef own is text ∈ lw_tbl ∧
  (∀ w ∈ (gj_xw own ic cls).filter vx_no ++ (Bundle.passSAtoms cls "java/lang/RuntimeException" ix bytes ++ Bundle.chainSAtoms "java/lang/RuntimeException" ["java/lang/Exception"]), w ∈ lw_tbl ∧ (goodWord w = true ∨ gj_warm w = true)) ∧
  decode bytes 0 = .ok (.aload_n 0, 1) ∧ decode bytes 1 = .ok (.aload_n 1, 1) ∧ decode bytes 2 = .ok (.invokespecial ix, 3) ∧ decode bytes 5 = .ok (.return_, 1)
section
variable {md : gj_M} {d K N k w pc : Nat} {lc : List (Nat × Value)} {st : List Value} {n : Nat} {C : Nat → va_E} {Q : gj_R → Prop}
set_option maxHeartbeats 1000000 in
theorem gj_throw2 {cls text : String} {ik is ic ix : Nat} {bytes : ByteArray} (ht : gj_tok2 md.1.cls cls text ik is ic ix bytes) (d0 : decode md.2.1 pc = .ok (.new ik, 3)) (d3 : decode md.2.1 (pc + 3) = .ok (.dup, 1)) (d4 : decode md.2.1 (pc + 4) = .ok (.ldc is, 2)) (d6 : decode md.2.1 (pc + 6) = .ok (.invokespecial ic, 3)) (d9 : decode md.2.1 (pc + 9) = .ok (.athrow, 1))
    (hout : (tableOf md.2.2.2.2).all (fun x => !covers x (pc + 9)) = true) (hst : (st.map fun v => v.category).sum ≤ 50) (hk : k + 1 ≤ K) (hw : w + 6 ≤ N) (hQ : Q (.inr cls, n, C)) : gj_G md d K N k w pc lc st n C Q := by
  intro p l e R s m args below meth c s0 a0 dC dI dA H locs ad ls cx ro hK hP hD hS oC sc ol hl T hT X
  obtain ⟨hfit, h1, h2, h3, h5, hq0, hq1, hq2, hq5⟩ := ht
  have hexec := cx.1
  have hb := cx.2.1
  have hWs0 := cx.2.2.2.2.1
  have htr : e.platform.stackTraces = false := (show e.platform.stackTraces = l.stackTraces by rw [X.admits.platform]).trans cx.2.2.1
  have Y := vx_rebase X (R' := { frames := R.frames, locals := R.locals, cells := 1, slots := 6 }) (Nat.le_refl _) (Nat.le_refl _) (Nat.le_trans hk ro.2.2.1) (Nat.le_trans hw ro.2.2.2)
  obtain ⟨s', hA⟩ : ∃ z, z = (T.setVm s.vm).setFrames (.invoking m args :: below) := ⟨_, rfl⟩
  rw [← hA] at Y
  have hvm : s'.vm = s.vm := by rw [hA]; rfl
  have hhp : s'.heap = H := by rw [hA]; exact hT
  have hW0 : s.WarmedH s'.vm := by rw [hvm]; exact State.WarmedH.refl s
  have hal : s0.vm.Alike s'.vm := by rw [hvm]; exact hWs0.alike
  have hal1 : ∀ w, w ∈ lw_tbl → (goodWord w = true ∨ gj_warm w = true) → w.before args s' = true := by
    intro w hw hg
    have hs : w.before args s = true := by
      rcases hg with hg | hg
      · exact gj_word cx hw hg
      · exact gj_warm_at hWs0 hg (cx.2.2.2.1.1 _ hw)
    rcases hg with hg | hg
    · exact word_at hW0 (good_of_word hg) hs
    · exact gj_warm_at hW0 hg hs
  have hk' : (Cond.classLink md.1.cls ik cls).before args s' = true := hal1 _ h1 (Or.inl rfl)
  have hini' : (Cond.initialized cls).before args s' = true := hal1 _ h2 (Or.inl rfl)
  have hold : ∀ a : Nat, a < s0.heap.size → ¬ s0.heap.size ≤ a → H[a]? = s0.heap[a]? := fun a ha hn => by
    rw [hS.2.1 a (Nat.lt_of_lt_of_le ha cx.2.2.2.2.2.1.1) hn]
    exact cx.2.2.2.2.2.1.2 a ha
  have nar := flat_of_before _ cx.2.2.2.1.2
  have hU0 : vx_Zq Bundle.tN "UNASSIGNED_STACK" Bundle.steD (fun q : Nat => s0.heap.size ≤ q) s0 s0.heap := vx_Zqof (cx.2.2.2.1.1 _ gw_lsU) (cx.2.2.2.1.1 _ gw_iniT) (nar _ gn_U) (fun a ha => Nat.not_le.mpr ha)
  have hN0 : vx_Zq Bundle.tN "SUPPRESSED_SENTINEL" Bundle.listD (fun q : Nat => s0.heap.size ≤ q) s0 s0.heap := vx_Zqof (cx.2.2.2.1.1 _ gw_lsN) (cx.2.2.2.1.1 _ gw_iniT) (nar _ gn_N) (fun a ha => Nat.not_le.mpr ha)
  have hU' : vx_Zq Bundle.tN "UNASSIGNED_STACK" Bundle.steD (fun q : Nat => s0.heap.size ≤ q) s' s'.heap := by rw [hhp]; exact vx_Zq.moved hal (hU0.kept hold)
  have hN' : vx_Zq Bundle.tN "SUPPRESSED_SENTINEL" Bundle.listD (fun q : Nat => s0.heap.size ≤ q) s' s'.heap := by rw [hhp]; exact vx_Zq.moved hal (hN0.kept hold)
  have h : ∀ w ∈ gj_xw md.1.cls ic cls, w.before args s' = true := vx_own (fun w hw => hal1 w (h5 w (List.mem_append_left _ hw)).1 (h5 w (List.mem_append_left _ hw)).2) (vx_isRefq hU'.1) (vx_isRefq hN'.1) hU'.2.word hN'.2.word
  have hch : ∀ w ∈ Bundle.passSAtoms cls "java/lang/RuntimeException" ix bytes ++ Bundle.chainSAtoms "java/lang/RuntimeException" ["java/lang/Exception"], w.before args s' = true := fun w hw => hal1 w (h5 w (List.mem_append_right _ hw)).1 (h5 w (List.mem_append_right _ hw)).2
  have hpl : e.platform.magicAccessors = ({} : Platform).magicAccessors := by rw [X.admits.platform]
  have hown' : s'.vm.findClass md.1.cls = some m.cls := by rw [hvm]; exact cx.2.2.2.2.2.2.2.2.1
  have hins : (Cond.instantiable cls 6).before args s' = true := h _ (by simp [gj_xw])
  have hown0 : s0.vm.findClass md.1.cls = some m.cls := by rw [← hWs0.alike.findClass]; exact cx.2.2.2.2.2.2.2.2.1
  obtain ⟨_, _, _, sa, -, -, -, -, -, hsa0⟩ := Cond.stringRef_spec hown0 (cx.2.2.2.1.1 _ h3)
  have hstr : vk_R md.1.cls is text sa s' := vk_R.warm hW0 (vk_R.warm hWs0 (vk_R.of (cx.2.2.2.1.1 _ h3) hsa0))
  obtain ⟨vm₁, cX, kX, hfX, hkX, -, -, X₁, st1⟩ := Y.newCold hexec (own := md.1.cls) (C := cls) (index := ik) (n := 6) hown' hk' hins hini'
    (g := F0 m pc ls (st.map (gj_tv ad))) rfl (by rw [hb]; exact d0) (Nat.le_refl _) (Nat.le_refl _)
  generalize hT1 : (T.setVm vm₁).pushCell { cls := cX, slots := kX.instanceTypes.map defaultValue, vm := .none } = T1 at X₁ st1
  have hcat : (Value.ref T.heap.size).category = 1 := rfl
  have hcellA : T1.heap[T.heap.size]? = some (freshCell cX kX) := by rw [← hT1]; exact State.heap_pushCell_size _ _
  have d3' : decode c.code (pc + 3) = .ok (.dup, 1) := by rw [hb]; exact d3
  have d4' : decode c.code (pc + 4) = .ok (.ldc is, 2) := by rw [hb]; exact d4
  obtain ⟨U, hsteps, hrun, hend, hW, hsame, ce, hce, hOv, hOc⟩ := gj_ctor X₁ hexec htr (own := md.1.cls) (cls := cls) (ic := ic) (bytes := bytes) hown' hfit (gj_chain_of hpl hfit hq0 hq1 hq2 hq5 hch) (hch _ (List.mem_append_left _ (by simp [Bundle.passSAtoms]))) (hch _ (List.mem_append_left _ (by simp [Bundle.passSAtoms]))) h (fun x hx => nomatch hx) hfX hkX hcellA (by rw [hhp, hT]; exact Nat.le_refl _) (msg := .ref sa) rfl
    (g := { method := m, pc := pc + 6, locals := ls, stack := .ref sa :: .ref T.heap.size :: .ref T.heap.size :: st.map (gj_tv ad), locked := none }) rfl (by rw [cx.2.2.2.2.2.2.2.1]; exact hl.1) rfl rfl (rest := st.map (gj_tv ad)) rfl
    (by rw [hb]; exact d6) (by rw [hb]; exact d9) (outside_of_table cx.2.2.2.2.2.2.2.2.2.2.2 hout) (by have := ro.1; show 5 < R.frames; omega) (by
      simp only [List.map_cons, List.sum_cons, hcat, gj_cats]
      have := ro.2.1
      show 2 * 0 + (1 + (st.map fun v => v.category).sum) + 81 ≤ R.locals
      omega) cx.2.2.2.2.2.2.2.2.2.1
  obtain ⟨f1, f2⟩ := vx_frame hsame
  rw [hhp] at f1 f2
  have hWs : s.WarmedH U.vm := State.WarmedH.trans hW0 hW
  have hcl : s.vm.findClass cls = some ce.cls := by
    rw [hvm] at hOc
    exact hOc
  have hall : s.sameButNew ({ U with vm := s.vm } : State) locs K N := by
    subst hA
    obtain ⟨e1, e2⟩ := hsame
    rw [State.setFrames_setFrames] at e1
    have h2 : (T.setVm s.vm).sameButNew ({ U with vm := s.vm } : State) [] (0 + 1) (0 + 6) := ⟨e1, e2⟩
    have h3 := X.same.trans h2
    rw [List.append_nil] at h3
    exact h3.mono hk hw
  have f3 : ∀ q : Nat, q < H.size → U.heap[q]? = H[q]? := fun q hq => f2 q hq (fun z hz => nomatch hz)
  refine ⟨U, ?_, .threw T.heap.size, locs, .inr cls, n, C, ad, hrun, hend, hWs, hall, hS.2.2, ⟨Nat.le_trans (Nat.le_trans cx.2.2.2.2.2.1.1 hS.1) f1, fun q hq => ?_⟩, hQ, ⟨T.heap.size, ce, rfl, hce, hOv, hcl⟩, trivial, Nat.le_refl n, fun _ _ => rfl, rfl, hP.kept (fun k q hk => f3 q.1 (hP k q hk).lt), hD, oC⟩
  · refine st1 _ ?_
    show Steps p.tables e below (T1.setTop { method := m, pc := pc + 3, locals := ls, stack := .ref T.heap.size :: st.map (gj_tv ad), locked := none }) _
    jvm_step X₁.here [X₁.here.top, hexec, d3', Value.category]
    exact X₁.ldcString hexec (own := md.1.cls) (text := text) (index := is) (a := sa) hown' hstr.1 hstr.2
      (g := { method := m, pc := pc + 4, locals := ls, stack := .ref T.heap.size :: .ref T.heap.size :: st.map (gj_tv ad), locked := none }) rfl d4' _ hsteps
  · rw [f3 q (Nat.lt_of_lt_of_le hq (Nat.le_trans cx.2.2.2.2.2.1.1 hS.1))]
    exact hold q hq (Nat.not_le.mpr hq)
end
end
section
/-! the throws -/
theorem tk_RB_sign_21 : gj_tok2 "RateBreaks" "java/lang/UnsupportedOperationException" "the text is full" 60 62 64 7 prog_16_method_2_code := ⟨by decide, gw_314, gw_30, gw_323, by decide +kernel, by decide +kernel, by decide +kernel, by decide +kernel, by decide +kernel⟩
theorem tk_RB_needWithin_10 : gj_tok2 "RateBreaks" "java/lang/IllegalArgumentException" "a number is outside its range" 166 192 170 7 prog_10_method_2_code := ⟨by decide, gw_244, gw_29, gw_287, by decide +kernel, by decide +kernel, by decide +kernel, by decide +kernel, by decide +kernel⟩
theorem tk_RB_shipment_30 : gj_tok2 "RateBreaks" "java/lang/UnsupportedOperationException" "no room for a shipment" 60 82 64 7 prog_16_method_2_code := ⟨by decide, gw_314, gw_30, gw_343, by decide +kernel, by decide +kernel, by decide +kernel, by decide +kernel, by decide +kernel⟩
theorem tk_RB_present_25 : gj_tok2 "RateBreaks" "java/util/NoSuchElementException" "there is no such shipment" 202 204 206 13 prog_17_method_4_code := ⟨by decide, gw_389, gw_32, gw_398, by decide +kernel, by decide +kernel, by decide +kernel, by decide +kernel, by decide +kernel⟩
theorem tk_RB_needService_10 : gj_tok2 "RateBreaks" "java/lang/IllegalArgumentException" "there is no such service" 166 194 170 7 prog_10_method_2_code := ⟨by decide, gw_244, gw_29, gw_408, by decide +kernel, by decide +kernel, by decide +kernel, by decide +kernel, by decide +kernel⟩
theorem tk_RB_dividedDown_6 : gj_tok2 "RateBreaks" "java/lang/ArithmeticException" "the divisor is 0" 231 233 235 7 prog_8_method_2_code := ⟨by decide, gw_419, gw_33, gw_428, by decide +kernel, by decide +kernel, by decide +kernel, by decide +kernel, by decide +kernel⟩
theorem tk_RB_needRoom_8 : gj_tok2 "RateBreaks" "java/lang/UnsupportedOperationException" "no room for another number" 60 200 64 7 prog_16_method_2_code := ⟨by decide, gw_314, gw_30, gw_501, by decide +kernel, by decide +kernel, by decide +kernel, by decide +kernel, by decide +kernel⟩
theorem tk_RB_book_17 : gj_tok2 "RateBreaks" "java/lang/IllegalStateException" "the shipment is booked" 131 133 135 7 prog_11_method_2_code := ⟨by decide, gw_514, gw_34, gw_523, by decide +kernel, by decide +kernel, by decide +kernel, by decide +kernel, by decide +kernel⟩
theorem tk_RB_book_41 : gj_tok2 "RateBreaks" "java/lang/IllegalStateException" "the service has no step for the shipment" 131 136 135 7 prog_11_method_2_code := ⟨by decide, gw_514, gw_34, gw_530, by decide +kernel, by decide +kernel, by decide +kernel, by decide +kernel, by decide +kernel⟩
theorem tk_RB_combine_18 : gj_tok2 "RateBreaks" "java/lang/IllegalStateException" "a shipment can't be combined with itself" 131 144 135 7 prog_11_method_2_code := ⟨by decide, gw_514, gw_34, gw_538, by decide +kernel, by decide +kernel, by decide +kernel, by decide +kernel, by decide +kernel⟩
theorem tk_RB_combine_43 : gj_tok2 "RateBreaks" "java/lang/IllegalStateException" "a shipment of the two is booked" 131 146 135 7 prog_11_method_2_code := ⟨by decide, gw_514, gw_34, gw_539, by decide +kernel, by decide +kernel, by decide +kernel, by decide +kernel, by decide +kernel⟩
theorem tk_RB_combine_65 : gj_tok2 "RateBreaks" "java/lang/IllegalStateException" "the shipments are of different zones" 131 148 135 7 prog_11_method_2_code := ⟨by decide, gw_514, gw_34, gw_540, by decide +kernel, by decide +kernel, by decide +kernel, by decide +kernel, by decide +kernel⟩
theorem tk_RB_combine_113 : gj_tok2 "RateBreaks" "java/lang/IllegalStateException" "the shipments are too much for one" 131 153 135 7 prog_11_method_2_code := ⟨by decide, gw_514, gw_34, gw_541, by decide +kernel, by decide +kernel, by decide +kernel, by decide +kernel, by decide +kernel⟩
theorem tk_RB_invoice_27 : gj_tok2 "RateBreaks" "java/lang/IllegalStateException" "the shipment is not booked, or was invoiced" 131 159 135 7 prog_11_method_2_code := ⟨by decide, gw_514, gw_34, gw_550, by decide +kernel, by decide +kernel, by decide +kernel, by decide +kernel, by decide +kernel⟩
theorem tk_RB_refund_28 : gj_tok2 "RateBreaks" "java/lang/IllegalStateException" "the shipment is not invoiced, or less is left" 131 164 135 7 prog_11_method_2_code := ⟨by decide, gw_514, gw_34, gw_558, by decide +kernel, by decide +kernel, by decide +kernel, by decide +kernel, by decide +kernel⟩
theorem tk_RB_differ_4 : gj_tok2 "RateBreaks" "java/lang/IllegalArgumentException" "the place is below 0" 166 168 170 7 prog_10_method_2_code := ⟨by decide, gw_244, gw_29, gw_566, by decide +kernel, by decide +kernel, by decide +kernel, by decide +kernel, by decide +kernel⟩
theorem tk_RB_told_74 : gj_tok2 "RateBreaks" "java/lang/IllegalArgumentException" "nothing of that number is told" 166 187 170 7 prog_10_method_2_code := ⟨by decide, gw_244, gw_29, gw_589, by decide +kernel, by decide +kernel, by decide +kernel, by decide +kernel, by decide +kernel⟩
end
section
/-- needWithin, within -/
theorem c_RB_needWithin {d K N n : Nat} {C : Nat → va_E} {v a b : Int32} (g1 : a ≤ v) (g2 : v ≤ b) : gj_G md_RB_needWithin d K N 0 0 0 [(0, .int v), (1, .int a), (2, .int b)] [] n C (fun r => r = (.inl none, n, C)) := by
  refine gj_iload_n d_RB_needWithin_0 rfl ?_
  refine gj_iload_n d_RB_needWithin_1 rfl ?_
  refine gj_icmp_lt (tgt := 10) d_RB_needWithin_2 (by decide) (fun h2 => absurd h2 (Int32.not_lt.mpr g1)) (fun h2 => ?_)
  refine gj_iload_n d_RB_needWithin_5 rfl ?_
  refine gj_iload_n d_RB_needWithin_6 rfl ?_
  refine gj_icmp_le (tgt := 20) d_RB_needWithin_7 (by decide) (fun h7 => ?_) (fun h7 => absurd (g2) h7)
  refine gj_vret rfl (Nat.zero_le _) (Nat.zero_le _) d_RB_needWithin_20 ?_
  exact rfl
/-- needWithin, outside -/
theorem c_RB_needWithin_x {d K N n : Nat} {C : Nat → va_E} {v a b : Int32} (hK : 1 ≤ K) (hN : 6 ≤ N) (g1 : ¬ (a ≤ v ∧ v ≤ b)) : gj_G md_RB_needWithin d K N 0 0 0 [(0, .int v), (1, .int a), (2, .int b)] [] n C (fun r => r = (.inr "java/lang/IllegalArgumentException", n, C)) := by
  refine gj_iload_n d_RB_needWithin_0 rfl ?_
  refine gj_iload_n d_RB_needWithin_1 rfl ?_
  refine gj_icmp_lt (tgt := 10) d_RB_needWithin_2 (by decide) (fun h2 => ?_) (fun h2 => ?_)
  · refine gj_throw2 tk_RB_needWithin_10 d_RB_needWithin_10 d_RB_needWithin_13 d_RB_needWithin_14 d_RB_needWithin_16 d_RB_needWithin_19 rfl (Nat.le_of_ble_eq_true rfl) (by omega) (by omega) ?_
    exact rfl
  · refine gj_iload_n d_RB_needWithin_5 rfl ?_
    refine gj_iload_n d_RB_needWithin_6 rfl ?_
    refine gj_icmp_le (tgt := 20) d_RB_needWithin_7 (by decide) (fun h7 => absurd h7 (fun h => g1 ⟨Int32.not_lt.mp h2, h⟩)) (fun h7 => ?_)
    refine gj_throw2 tk_RB_needWithin_10 d_RB_needWithin_10 d_RB_needWithin_13 d_RB_needWithin_14 d_RB_needWithin_16 d_RB_needWithin_19 rfl (Nat.le_of_ble_eq_true rfl) (by omega) (by omega) ?_
    exact rfl
/-- needService, there -/
theorem c_RB_needService {d K N n : Nat} {C : Nat → va_E} {v : Int32} (g1 : 0 ≤ v) (g2 : v < 10) : gj_G md_RB_needService d K N 0 0 0 [(0, .int v)] [] n C (fun r => r = (.inl none, n, C)) := by
  refine gj_iload_n d_RB_needService_0 rfl ?_
  refine gj_if_lt (tgt := 10) d_RB_needService_1 (by decide) (fun h1 => absurd h1 (Int32.not_lt.mpr g1)) (fun h1 => ?_)
  refine gj_iload_n d_RB_needService_4 rfl ?_
  refine gj_kb (v := 10) d_RB_needService_5 (by decide) ?_
  refine gj_icmp_lt (tgt := 20) d_RB_needService_7 (by decide) (fun h7 => ?_) (fun h7 => absurd (g2) h7)
  refine gj_vret rfl (Nat.zero_le _) (Nat.zero_le _) d_RB_needService_20 ?_
  exact rfl
/-- needService, not there -/
theorem c_RB_needService_x {d K N n : Nat} {C : Nat → va_E} {v : Int32} (hK : 1 ≤ K) (hN : 6 ≤ N) (g1 : ¬ (0 ≤ v ∧ v < 10)) : gj_G md_RB_needService d K N 0 0 0 [(0, .int v)] [] n C (fun r => r = (.inr "java/lang/IllegalArgumentException", n, C)) := by
  refine gj_iload_n d_RB_needService_0 rfl ?_
  refine gj_if_lt (tgt := 10) d_RB_needService_1 (by decide) (fun h1 => ?_) (fun h1 => ?_)
  · refine gj_throw2 tk_RB_needService_10 d_RB_needService_10 d_RB_needService_13 d_RB_needService_14 d_RB_needService_16 d_RB_needService_19 rfl (Nat.le_of_ble_eq_true rfl) (by omega) (by omega) ?_
    exact rfl
  · refine gj_iload_n d_RB_needService_4 rfl ?_
    refine gj_kb (v := 10) d_RB_needService_5 (by decide) ?_
    refine gj_icmp_lt (tgt := 20) d_RB_needService_7 (by decide) (fun h7 => absurd h7 (fun h => g1 ⟨Int32.not_lt.mp h1, h⟩)) (fun h7 => ?_)
    refine gj_throw2 tk_RB_needService_10 d_RB_needService_10 d_RB_needService_13 d_RB_needService_14 d_RB_needService_16 d_RB_needService_19 rfl (Nat.le_of_ble_eq_true rfl) (by omega) (by omega) ?_
    exact rfl
/-- laneOf -/
theorem c_RB_laneOf {d K N n : Nat} {C : Nat → va_E} (a b : Int32) : gj_G md_RB_laneOf d K N 0 0 0 [(0, .int a), (1, .int b)] [] n C (fun r => r = (.inl (some (.int (a * 10 + b))), n, C)) := by
  refine gj_iload_n d_RB_laneOf_0 rfl ?_
  refine gj_kb (v := 10) d_RB_laneOf_1 (by decide) ?_
  refine gj_imul d_RB_laneOf_3 ?_
  refine gj_iload_n d_RB_laneOf_4 rfl ?_
  refine gj_iadd d_RB_laneOf_5 ?_
  refine gj_iret rfl (Nat.zero_le _) (Nat.zero_le _) d_RB_laneOf_6 ?_
  exact rfl
/-- isBooked -/
theorem c_Sh_isBooked {d K N n x : Nat} {C : Nat → va_E} {z g v s c l : Int32} (hx : C x = .inr (4, [.int (z), .int (g), .int (v), .int (s), .int (c), .int (l)])) : gj_G md_Sh_isBooked d K N 0 0 0 [(0, .ref x)] [] n C (fun r => r = (.inl (some (.int (if s = -1 then 0 else 1))), n, C)) := by
  refine gj_aload_n d_Sh_isBooked_0 rfl ?_
  refine gj_get d_Sh_isBooked_1 gf_Sh_9 hx rfl ?_
  refine gj_kc (v := (-1)) d_Sh_isBooked_4 (by decide) ?_
  refine gj_icmp_eq (tgt := 12) d_Sh_isBooked_5 (by decide) (fun h5 => ?_) (fun h5 => ?_)
  · refine gj_kc (v := 0) d_Sh_isBooked_12 (by decide) ?_
    refine gj_zret rfl (by first | exact Or.inl rfl | exact Or.inr rfl) (Nat.zero_le _) (Nat.zero_le _) d_Sh_isBooked_13 ?_
    exact gj_ei (if_pos h5).symm
  · refine gj_kc (v := 1) d_Sh_isBooked_8 (by decide) ?_
    refine gj_goto (tgt := 13) d_Sh_isBooked_9 (by decide) ?_
    refine gj_zret rfl (by first | exact Or.inl rfl | exact Or.inr rfl) (Nat.zero_le _) (Nat.zero_le _) d_Sh_isBooked_13 ?_
    exact gj_ei (if_neg h5).symm
/-- isInvoiced -/
theorem c_Sh_isInvoiced {d K N n x : Nat} {C : Nat → va_E} {z g v s c l : Int32} (hx : C x = .inr (4, [.int (z), .int (g), .int (v), .int (s), .int (c), .int (l)])) : gj_G md_Sh_isInvoiced d K N 0 0 0 [(0, .ref x)] [] n C (fun r => r = (.inl (some (.int (if l = -1 then 0 else 1))), n, C)) := by
  refine gj_aload_n d_Sh_isInvoiced_0 rfl ?_
  refine gj_get d_Sh_isInvoiced_1 gf_Sh_18 hx rfl ?_
  refine gj_kc (v := (-1)) d_Sh_isInvoiced_4 (by decide) ?_
  refine gj_icmp_eq (tgt := 12) d_Sh_isInvoiced_5 (by decide) (fun h5 => ?_) (fun h5 => ?_)
  · refine gj_kc (v := 0) d_Sh_isInvoiced_12 (by decide) ?_
    refine gj_zret rfl (by first | exact Or.inl rfl | exact Or.inr rfl) (Nat.zero_le _) (Nat.zero_le _) d_Sh_isInvoiced_13 ?_
    exact gj_ei (if_pos h5).symm
  · refine gj_kc (v := 1) d_Sh_isInvoiced_8 (by decide) ?_
    refine gj_goto (tgt := 13) d_Sh_isInvoiced_9 (by decide) ?_
    refine gj_zret rfl (by first | exact Or.inl rfl | exact Or.inr rfl) (Nat.zero_le _) (Nat.zero_le _) d_Sh_isInvoiced_13 ?_
    exact gj_ei (if_neg h5).symm
/-- dividedDown -/
theorem c_RB_dividedDown {d K N n : Nat} {C : Nat → va_E} {a b : Int64} (hb : ¬ b = 0) : gj_G md_RB_dividedDown d K N 0 0 0 [(0, .long a), (2, .long b)] [] n C (fun r => r = (.inl (some (.long (a / b))), n, C)) := by
  refine gj_lload_n d_RB_dividedDown_0 rfl ?_
  refine gj_kl (v := 0) d_RB_dividedDown_1 (by decide) ?_
  refine gj_lcmp d_RB_dividedDown_2 ?_
  refine gj_if_ne (tgt := 16) d_RB_dividedDown_3 (by decide) (fun h3 => ?_) (fun h3 => absurd h3 (fun h => hb ((lg_cmp_eq _ _).mp h)))
  refine gj_lload_n d_RB_dividedDown_16 rfl ?_
  refine gj_lload_n d_RB_dividedDown_17 rfl ?_
  refine gj_ldiv d_RB_dividedDown_18 (hb) ?_
  refine gj_lret rfl (Nat.zero_le _) (Nat.zero_le _) d_RB_dividedDown_19 ?_
  exact rfl
/-- dividedDown by 0 -/
theorem c_RB_dividedDown_x {d K N n : Nat} {C : Nat → va_E} {a b : Int64} (hK : 1 ≤ K) (hN : 6 ≤ N) (hb : b = 0) : gj_G md_RB_dividedDown d K N 0 0 0 [(0, .long a), (2, .long b)] [] n C (fun r => r = (.inr "java/lang/ArithmeticException", n, C)) := by
  refine gj_lload_n d_RB_dividedDown_0 rfl ?_
  refine gj_kl (v := 0) d_RB_dividedDown_1 (by decide) ?_
  refine gj_lcmp d_RB_dividedDown_2 ?_
  refine gj_if_ne (tgt := 16) d_RB_dividedDown_3 (by decide) (fun h3 => absurd ((lg_cmp_eq _ _).mpr hb) h3) (fun h3 => ?_)
  refine gj_throw2 tk_RB_dividedDown_6 d_RB_dividedDown_6 d_RB_dividedDown_9 d_RB_dividedDown_10 d_RB_dividedDown_12 d_RB_dividedDown_15 rfl (Nat.le_of_ble_eq_true rfl) (by omega) (by omega) ?_
  exact rfl
/-- dividedUp -/
theorem c_RB_dividedUp {d K N n : Nat} {C : Nat → va_E} {a b : Int64} (hb : ¬ b = 0) : gj_G md_RB_dividedUp (d + 1) K N 0 0 0 [(0, .long a), (2, .long b)] [] n C (fun r => r = (.inl (some (.long ((a + b - 1) / b))), n, C)) := by
  refine gj_lload_n d_RB_dividedUp_0 rfl ?_
  refine gj_lload_n d_RB_dividedUp_1 rfl ?_
  refine gj_ladd d_RB_dividedUp_2 ?_
  refine gj_kl (v := 1) d_RB_dividedUp_3 (by decide) ?_
  refine gj_lsub d_RB_dividedUp_4 ?_
  refine gj_lload_n d_RB_dividedUp_5 rfl ?_
  refine gj_callS (as := [.long (((a) + (b)) - (1)), .long (b)]) (rest := []) (K1 := 0) (N1 := 0) d_RB_dividedUp_6 mo_RB_dividedDown gw_416 gw_417 gw_20 pl_RB_dividedDown (Nat.le_of_ble_eq_true rfl) (Nat.le_of_ble_eq_true rfl) (Nat.zero_le _) (Nat.zero_le _) (c_RB_dividedDown hb) (fun E n' C' _ h => by cases h) (fun v n' C' _ h => ?_)
  cases h
  refine gj_lret rfl (Nat.zero_le _) (Nat.zero_le _) d_RB_dividedUp_9 ?_
  exact rfl
/-- dividedUp by 0 -/
theorem c_RB_dividedUp_x {d K N n : Nat} {C : Nat → va_E} {a b : Int64} (hK : 1 ≤ K) (hN : 6 ≤ N) (hb : b = 0) : gj_G md_RB_dividedUp (d + 1) K N 0 0 0 [(0, .long a), (2, .long b)] [] n C (fun r => r = (.inr "java/lang/ArithmeticException", n, C)) := by
  refine gj_lload_n d_RB_dividedUp_0 rfl ?_
  refine gj_lload_n d_RB_dividedUp_1 rfl ?_
  refine gj_ladd d_RB_dividedUp_2 ?_
  refine gj_kl (v := 1) d_RB_dividedUp_3 (by decide) ?_
  refine gj_lsub d_RB_dividedUp_4 ?_
  refine gj_lload_n d_RB_dividedUp_5 rfl ?_
  refine gj_callS (as := [.long (((a) + (b)) - (1)), .long (b)]) (rest := []) (K1 := 1) (N1 := 6) d_RB_dividedUp_6 mo_RB_dividedDown gw_416 gw_417 gw_20 pl_RB_dividedDown (Nat.le_of_ble_eq_true rfl) (Nat.le_of_ble_eq_true rfl) (by omega) (by omega) (c_RB_dividedDown_x (Nat.le_refl 1) (Nat.le_refl 6) hb) (fun E n6 C6 g6 q6 => ?_) (fun v n' C' _ h => by cases h)
  cases q6
  exact gj_xout rfl (by omega) (by omega) rfl
theorem c_Ra_stepFor_loop {d K N n x li sp : Nat} {C : Nat → va_E} {la ut : Nat → Int32} (hx : C (x) = .inr (2, [.ref (x + 1), .ref (x + 2), .ref (x + 3), .ref (x + 4), .ref (x + 5), .ref (x + 6), .ref (x + 7), .ref (x + 8), .int (nI li), .int (nI sp)])) (hla : C (x + 1) = .inl (0, 60, .inl la)) (hut : C (x + 3) = .inl (0, 60, .inl ut)) (h60 : sp ≤ 60) {l w : Int32} {Q : gj_R → Prop} : ∀ (m i : Nat), i + m = sp → Q (gj_iv (pr_st la ut l w m i), n, C) → gj_G md_Ra_stepFor d K N 0 0 2 [(0, .ref x), (1, .int l), (2, .int w), (3, .int (nI i))] [] n C Q := by
  intro m
  induction m with
  | zero =>
    intro i hi hend
    have hi : i = sp := hi
    subst hi
    refine gj_iload_n d_Ra_stepFor_2 rfl ?_
    refine gj_aload_n d_Ra_stepFor_3 rfl ?_
    refine gj_get d_Ra_stepFor_4 gf_Ra_43 hx rfl ?_
    refine gj_icmp_ge (tgt := 38) d_Ra_stepFor_7 (by decide) (fun _ => ?_) (fun h26 => absurd (nI_le (Nat.le_refl i) (by omega)) h26)
    refine gj_kc (v := (-1)) d_Ra_stepFor_38 (by decide) ?_
    exact gj_iret rfl (Nat.zero_le _) (Nat.zero_le _) d_Ra_stepFor_39 hend
  | succ m ih =>
    intro i hi hend
    refine gj_iload_n d_Ra_stepFor_2 rfl ?_
    refine gj_aload_n d_Ra_stepFor_3 rfl ?_
    refine gj_get d_Ra_stepFor_4 gf_Ra_43 hx rfl ?_
    refine gj_icmp_ge (tgt := 38) d_Ra_stepFor_7 (by decide) (fun h7 => absurd h7 (nI_ge (by omega) (by omega))) (fun h7 => ?_)
    refine gj_aload_n d_Ra_stepFor_10 rfl ?_
    refine gj_get d_Ra_stepFor_11 gf_Ra_9 hx rfl ?_
    refine gj_iload_n d_Ra_stepFor_14 rfl ?_
    refine gj_iald d_Ra_stepFor_15 hla rfl (vp_in_nI (by omega) (by decide)) ?_
    refine gj_top (y := la (i)) (congrArg la (nI_clamp (by omega))) ?_
    refine gj_iload_n d_Ra_stepFor_16 rfl ?_
    refine gj_icmp_ne (tgt := 32) d_Ra_stepFor_17 (by decide) (fun h17 => ?_) (fun h17 => ?_)
    · refine gj_iinc d_Ra_stepFor_32 rfl (by decide) ?_
      refine gj_goto (tgt := 2) d_Ra_stepFor_35 (by decide) ?_
      refine gj_less (lc' := [(0, .ref (x)), (1, .int l), (2, .int w), (3, .int (nI i + 1))]) ⟨rfl, rfl, rfl, rfl, trivial⟩ ?_
      rw [nI_1]
      refine ih (i + 1) (by omega) ?_
      unfold pr_st at hend
      rw [if_neg (fun h => by first | exact h17 h.1 | exact Int32.not_lt.mpr h.2 h27)] at hend
      exact hend
    · refine gj_aload_n d_Ra_stepFor_20 rfl ?_
      refine gj_get d_Ra_stepFor_21 gf_Ra_18 hx rfl ?_
      refine gj_iload_n d_Ra_stepFor_24 rfl ?_
      refine gj_iald d_Ra_stepFor_25 hut rfl (vp_in_nI (by omega) (by decide)) ?_
      refine gj_top (y := ut (i)) (congrArg ut (nI_clamp (by omega))) ?_
      refine gj_iload_n d_Ra_stepFor_26 rfl ?_
      refine gj_icmp_lt (tgt := 32) d_Ra_stepFor_27 (by decide) (fun h27 => ?_) (fun h27 => ?_)
      · refine gj_iinc d_Ra_stepFor_32 rfl (by decide) ?_
        refine gj_goto (tgt := 2) d_Ra_stepFor_35 (by decide) ?_
        refine gj_less (lc' := [(0, .ref (x)), (1, .int l), (2, .int w), (3, .int (nI i + 1))]) ⟨rfl, rfl, rfl, rfl, trivial⟩ ?_
        rw [nI_1]
        refine ih (i + 1) (by omega) ?_
        unfold pr_st at hend
        rw [if_neg (fun h => by first | exact h17 h.1 | exact Int32.not_lt.mpr h.2 h27)] at hend
        exact hend
      · refine gj_iload_n d_Ra_stepFor_30 rfl ?_
        refine gj_iret rfl (Nat.zero_le _) (Nat.zero_le _) d_Ra_stepFor_31 ?_
        unfold pr_st at hend
        rw [if_pos ⟨h17, Int32.not_lt.mp h27⟩] at hend
        exact hend
theorem c_Ra_stepFor {d K N n x li sp : Nat} {C : Nat → va_E} {la ut : Nat → Int32} (hx : C (x) = .inr (2, [.ref (x + 1), .ref (x + 2), .ref (x + 3), .ref (x + 4), .ref (x + 5), .ref (x + 6), .ref (x + 7), .ref (x + 8), .int (nI li), .int (nI sp)])) (hla : C (x + 1) = .inl (0, 60, .inl la)) (hut : C (x + 3) = .inl (0, 60, .inl ut)) (h60 : sp ≤ 60) {l w : Int32} : gj_G md_Ra_stepFor d K N 0 0 0 [(0, .ref x), (1, .int l), (2, .int w)] [] n C (fun r => r = (gj_iv (pr_st la ut l w sp 0), n, C)) := by
  refine gj_kc (v := 0) d_Ra_stepFor_0 (by decide) ?_
  refine gj_istore_n d_Ra_stepFor_1 (by decide) ?_
  refine gj_less (lc' := [(0, .ref (x)), (1, .int l), (2, .int w), (3, .int (nI 0))]) ⟨rfl, rfl, rfl, rfl, trivial⟩ ?_
  exact c_Ra_stepFor_loop hx hla hut h60 sp 0 (by omega) rfl
/-- takeOnce: taken -/
theorem c_Ra_takeOnce {d K N n y j : Nat} {C : Nat → va_E} {r : Nat → Int32} {v m : Int32} (hy : C y = .inl (0, 10, .inl r)) (g1 : j < 10) (g2 : r j = -1) (g3 : v ≤ m) : gj_G md_Ra_takeOnce d K N 0 0 0 [(0, .ref y), (1, .int (nI j)), (2, .int v), (3, .int m)] [] n C (fun q => q.1 = gj_iv 1 ∧ q.2.1 = n ∧ q.2.2 y = .inl (0, 10, .inl (upd r j v)) ∧ ∀ z, z ≠ y → q.2.2 z = C z) := by
  refine gj_iload_n d_Ra_takeOnce_0 rfl ?_
  refine gj_if_lt (tgt := 22) d_Ra_takeOnce_1 (by decide) (fun h1 => absurd h1 (nI_pos (by omega))) (fun h1 => ?_)
  refine gj_iload_n d_Ra_takeOnce_4 rfl ?_
  refine gj_aload_n d_Ra_takeOnce_5 rfl ?_
  refine gj_alen d_Ra_takeOnce_6 hy rfl ?_
  refine gj_icmp_ge (tgt := 22) d_Ra_takeOnce_7 (by decide) (fun h7 => absurd h7 (nI_ge (b := 10) g1 (by decide))) (fun h7 => ?_)
  refine gj_aload_n d_Ra_takeOnce_10 rfl ?_
  refine gj_iload_n d_Ra_takeOnce_11 rfl ?_
  refine gj_iald d_Ra_takeOnce_12 hy rfl (vp_in_nI (by omega) (by decide)) ?_
  refine gj_top (y := r (j)) (congrArg r (nI_clamp (by omega))) ?_
  refine gj_kc (v := (-1)) d_Ra_takeOnce_13 (by decide) ?_
  refine gj_icmp_ne (tgt := 22) d_Ra_takeOnce_14 (by decide) (fun h14 => absurd (g2) h14) (fun h14 => ?_)
  refine gj_iload_n d_Ra_takeOnce_17 rfl ?_
  refine gj_iload_n d_Ra_takeOnce_18 rfl ?_
  refine gj_icmp_le (tgt := 24) d_Ra_takeOnce_19 (by decide) (fun h19 => ?_) (fun h19 => absurd (g3) h19)
  refine gj_aload_n d_Ra_takeOnce_24 rfl ?_
  refine gj_iload_n d_Ra_takeOnce_25 rfl ?_
  refine gj_iload_n d_Ra_takeOnce_26 rfl ?_
  refine gj_iast d_Ra_takeOnce_27 hy rfl (vp_in_nI (by omega) (by decide)) ?_
  obtain ⟨C1, eC1⟩ : ∃ z, z = va_up C (y) (.inl (0, 10, .inl (upd r (j) (v)))) := ⟨_, rfl⟩
  refine gj_mem (eC1.trans (by rw [nI_clamp (by omega)])) ?_
  have f2 : C1 (y) = .inl (0, 10, .inl (upd r (j) (v))) := by rw [eC1]; exact va_up_self _ _ _
  refine gj_kc (v := 1) d_Ra_takeOnce_28 (by decide) ?_
  refine gj_zret rfl (by first | exact Or.inl rfl | exact Or.inr rfl) (Nat.zero_le _) (Nat.zero_le _) d_Ra_takeOnce_29 ?_
  exact ⟨rfl, rfl, f2, fun z hz => by rw [eC1]; exact va_up_ne _ _ hz⟩
/-- takeOnce: not taken -/
theorem c_Ra_takeOnce_no {d K N n y j : Nat} {C : Nat → va_E} {r : Nat → Int32} {v m : Int32} (hy : C y = .inl (0, 10, .inl r)) (hj : j < 2 ^ 31) (g1 : ¬ (j < 10 ∧ r j = -1 ∧ v ≤ m)) : gj_G md_Ra_takeOnce d K N 0 0 0 [(0, .ref y), (1, .int (nI j)), (2, .int v), (3, .int m)] [] n C (fun q => q = (gj_iv 0, n, C)) := by
  refine gj_iload_n d_Ra_takeOnce_0 rfl ?_
  refine gj_if_lt (tgt := 22) d_Ra_takeOnce_1 (by decide) (fun h1 => absurd h1 (nI_pos hj)) (fun h1 => ?_)
  refine gj_iload_n d_Ra_takeOnce_4 rfl ?_
  refine gj_aload_n d_Ra_takeOnce_5 rfl ?_
  refine gj_alen d_Ra_takeOnce_6 hy rfl ?_
  refine gj_icmp_ge (tgt := 22) d_Ra_takeOnce_7 (by decide) (fun _ => ?_) (fun h7 => ?_)
  · refine gj_kc (v := 0) d_Ra_takeOnce_22 (by decide) ?_
    refine gj_zret rfl (by first | exact Or.inl rfl | exact Or.inr rfl) (Nat.zero_le _) (Nat.zero_le _) d_Ra_takeOnce_23 ?_
    exact rfl
  · have g2 : j < 10 := Nat.lt_of_not_le (fun q => h7 (nI_le (a := 10) q hj))
    refine gj_aload_n d_Ra_takeOnce_10 rfl ?_
    refine gj_iload_n d_Ra_takeOnce_11 rfl ?_
    refine gj_iald d_Ra_takeOnce_12 hy rfl (vp_in_nI (by omega) (by decide)) ?_
    refine gj_top (y := r (j)) (congrArg r (nI_clamp (by omega))) ?_
    refine gj_kc (v := (-1)) d_Ra_takeOnce_13 (by decide) ?_
    refine gj_icmp_ne (tgt := 22) d_Ra_takeOnce_14 (by decide) (fun h14 => ?_) (fun h14 => ?_)
    · refine gj_kc (v := 0) d_Ra_takeOnce_22 (by decide) ?_
      refine gj_zret rfl (by first | exact Or.inl rfl | exact Or.inr rfl) (Nat.zero_le _) (Nat.zero_le _) d_Ra_takeOnce_23 ?_
      exact rfl
    · refine gj_iload_n d_Ra_takeOnce_17 rfl ?_
      refine gj_iload_n d_Ra_takeOnce_18 rfl ?_
      refine gj_icmp_le (tgt := 24) d_Ra_takeOnce_19 (by decide) (fun h19 => absurd h19 (fun h => g1 ⟨g2, h14, h⟩)) (fun h19 => ?_)
      refine gj_kc (v := 0) d_Ra_takeOnce_22 (by decide) ?_
      refine gj_zret rfl (by first | exact Or.inl rfl | exact Or.inr rfl) (Nat.zero_le _) (Nat.zero_le _) d_Ra_takeOnce_23 ?_
      exact rfl
end
section
theorem nI_mul (a b : Nat) : nI a * nI b = nI (a * b) := (Int32.ofNat_mul a b).symm
section
variable {md : gj_M} {d K N k w pc : Nat} {lc : List (Nat × Value)} {st : List Value} {n : Nat} {C : Nat → va_E} {Q : gj_R → Prop}
theorem gj_iincN {i : Nat} {x : Nat} (hd : decode md.2.1 pc = .ok (.iinc i 1, 3)) (hk : gj_lk lc i = some (.int (nI x))) (hn : i < md.2.2.1) (kk : gj_G md d K N k w (pc + 3) (gj_st1 lc i (.int (nI (x + 1)))) st n C Q) : gj_G md d K N k w pc lc st n C Q := by
  rw [← nI_1] at kk
  exact gj_iinc hd hk hn kk
theorem gj_topv {v u : Value} (h : u = v) (kk : gj_G md d K N k w pc lc (v :: st) n C Q) : gj_G md d K N k w pc lc (u :: st) n C Q := h ▸ kk
end
theorem upd_self (f : Nat → Int32) (j : Nat) (v : Int32) : upd f j v j = v := by unfold upd; exact if_pos rfl
theorem upd_ne (f : Nat → Int32) {j i : Nat} (v : Int32) (h : i ≠ j) : upd f j v i = f i := by unfold upd; exact if_neg h
/-- the first i places are -1 -/
def pr_clr (f : Nat → Int32) (i : Nat) : Nat → Int32 := fun j => if j < i then -1 else f j
theorem pr_clr_0 (f : Nat → Int32) : pr_clr f 0 = f := by funext j; exact if_neg (Nat.not_lt_zero j)
theorem pr_clr_s (f : Nat → Int32) (i : Nat) : upd (pr_clr f i) i (-1) = pr_clr f (i + 1) := by
  funext j
  by_cases h : j = i
  · subst h; rw [upd_self]; exact (if_pos (Nat.lt_succ_self j)).symm
  · rw [upd_ne _ _ h]
    unfold pr_clr
    by_cases h2 : j < i
    · rw [if_pos h2, if_pos (by omega)]
    · rw [if_neg h2, if_neg (by omega)]
set_option maxHeartbeats 2000000 in
theorem c_Ra_clear_loop {d K N n x : Nat} {dv mi fu fd : Nat → Int32} {li sp : Int32} {Q : gj_R → Prop} : ∀ (m : Nat) (i : Nat) (C : Nat → va_E), i + m = 10 → C x = .inr (2, [.ref (x + 1), .ref (x + 2), .ref (x + 3), .ref (x + 4), .ref (x + 5), .ref (x + 6), .ref (x + 7), .ref (x + 8), .int (li), .int (sp)]) → C (x + 5) = .inl (0, 10, .inl (pr_clr dv i)) → C (x + 6) = .inl (0, 10, .inl (pr_clr mi i)) → C (x + 7) = .inl (0, 10, .inl (pr_clr fu i)) → C (x + 8) = .inl (0, 10, .inl (pr_clr fd i)) → (∀ C2, C2 x = .inr (2, [.ref (x + 1), .ref (x + 2), .ref (x + 3), .ref (x + 4), .ref (x + 5), .ref (x + 6), .ref (x + 7), .ref (x + 8), .int (li), .int (sp)]) → C2 (x + 5) = .inl (0, 10, .inl (pr_clr dv 10)) → C2 (x + 6) = .inl (0, 10, .inl (pr_clr mi 10)) → C2 (x + 7) = .inl (0, 10, .inl (pr_clr fu 10)) → C2 (x + 8) = .inl (0, 10, .inl (pr_clr fd 10)) → (∀ y, y ≠ x + 5 → y ≠ x + 6 → y ≠ x + 7 → y ≠ x + 8 → C2 y = C y) → Q (.inl none, n, C2)) → gj_G md_Ra_clear (d) K N 0 0 12 [(0, .ref (x)), (1, .int (nI i))] [] n C Q := by
  intro m
  induction m with
  | zero =>
    intro i C hi hx hdv hmi hfu hfd hend
    refine gj_iload_n d_Ra_clear_12 rfl ?_
    refine gj_kb (v := 10) d_Ra_clear_13 (by decide) ?_
    refine gj_icmp_ge (tgt := 52) d_Ra_clear_15 (by decide) (fun h15 => ?_) (fun h15 => by have m15 : ¬ (10 ≤ i) := fun q => h15 ((nI_leI (a := 10) (b := i) (by omega) (by omega)).mpr q); exact absurd (show 10 ≤ i from by omega) m15)
    have m15 : 10 ≤ i := (nI_leI (a := 10) (b := i) (by omega) (by omega)).mp h15
    refine gj_vret rfl (Nat.zero_le _) (Nat.zero_le _) d_Ra_clear_52 ?_
    have hi : i = 10 := by omega
    subst hi
    exact hend C hx hdv hmi hfu hfd (fun _ _ _ _ _ => rfl)
  | succ m ih =>
    intro i C hi hx hdv hmi hfu hfd hend
    refine gj_iload_n d_Ra_clear_12 rfl ?_
    refine gj_kb (v := 10) d_Ra_clear_13 (by decide) ?_
    refine gj_icmp_ge (tgt := 52) d_Ra_clear_15 (by decide) (fun h15 => by have m15 : 10 ≤ i := (nI_leI (a := 10) (b := i) (by omega) (by omega)).mp h15; exact absurd m15 (show ¬ (10 ≤ i) from by omega)) (fun h15 => ?_)
    have m15 : ¬ (10 ≤ i) := fun q => h15 ((nI_leI (a := 10) (b := i) (by omega) (by omega)).mpr q)
    refine gj_aload_n d_Ra_clear_18 rfl ?_
    refine gj_get d_Ra_clear_19 gf_Ra_24 hx rfl ?_
    refine gj_iload_n d_Ra_clear_22 rfl ?_
    refine gj_kc (v := (-1)) d_Ra_clear_23 (by decide) ?_
    refine gj_iast d_Ra_clear_24 hdv rfl (vp_in_nI (by omega) (by decide)) ?_
    obtain ⟨C1, eC1⟩ : ∃ z, z = va_up C (x + 5) (.inl (0, 10, .inl (upd (pr_clr dv i) (i) (-1)))) := ⟨_, rfl⟩
    refine gj_mem (eC1.trans (by rw [nI_clamp (by omega)])) ?_
    have f2 : C1 (x) = .inr (2, [.ref (x + 1), .ref (x + 2), .ref (x + 3), .ref (x + 4), .ref (x + 5), .ref (x + 6), .ref (x + 7), .ref (x + 8), .int (li), .int (sp)]) := by rw [eC1, va_up_ne _ _ (by omega)]; exact hx
    have f3 : C1 (x + 5) = .inl (0, 10, .inl (upd (pr_clr dv i) (i) (-1))) := by rw [eC1]; exact va_up_self _ _ _
    have f4 : C1 (x + 6) = .inl (0, 10, .inl (pr_clr mi i)) := by rw [eC1, va_up_ne _ _ (by omega)]; exact hmi
    have f5 : C1 (x + 7) = .inl (0, 10, .inl (pr_clr fu i)) := by rw [eC1, va_up_ne _ _ (by omega)]; exact hfu
    have f6 : C1 (x + 8) = .inl (0, 10, .inl (pr_clr fd i)) := by rw [eC1, va_up_ne _ _ (by omega)]; exact hfd
    refine gj_aload_n d_Ra_clear_25 rfl ?_
    refine gj_get d_Ra_clear_26 gf_Ra_27 f2 rfl ?_
    refine gj_iload_n d_Ra_clear_29 rfl ?_
    refine gj_kc (v := (-1)) d_Ra_clear_30 (by decide) ?_
    refine gj_iast d_Ra_clear_31 f4 rfl (vp_in_nI (by omega) (by decide)) ?_
    obtain ⟨C7, eC7⟩ : ∃ z, z = va_up C1 (x + 6) (.inl (0, 10, .inl (upd (pr_clr mi i) (i) (-1)))) := ⟨_, rfl⟩
    refine gj_mem (eC7.trans (by rw [nI_clamp (by omega)])) ?_
    have f8 : C7 (x) = .inr (2, [.ref (x + 1), .ref (x + 2), .ref (x + 3), .ref (x + 4), .ref (x + 5), .ref (x + 6), .ref (x + 7), .ref (x + 8), .int (li), .int (sp)]) := by rw [eC7, va_up_ne _ _ (by omega)]; exact f2
    have f9 : C7 (x + 5) = .inl (0, 10, .inl (upd (pr_clr dv i) (i) (-1))) := by rw [eC7, va_up_ne _ _ (by omega)]; exact f3
    have f10 : C7 (x + 6) = .inl (0, 10, .inl (upd (pr_clr mi i) (i) (-1))) := by rw [eC7]; exact va_up_self _ _ _
    have f11 : C7 (x + 7) = .inl (0, 10, .inl (pr_clr fu i)) := by rw [eC7, va_up_ne _ _ (by omega)]; exact f5
    have f12 : C7 (x + 8) = .inl (0, 10, .inl (pr_clr fd i)) := by rw [eC7, va_up_ne _ _ (by omega)]; exact f6
    refine gj_aload_n d_Ra_clear_32 rfl ?_
    refine gj_get d_Ra_clear_33 gf_Ra_30 f8 rfl ?_
    refine gj_iload_n d_Ra_clear_36 rfl ?_
    refine gj_kc (v := (-1)) d_Ra_clear_37 (by decide) ?_
    refine gj_iast d_Ra_clear_38 f11 rfl (vp_in_nI (by omega) (by decide)) ?_
    obtain ⟨C13, eC13⟩ : ∃ z, z = va_up C7 (x + 7) (.inl (0, 10, .inl (upd (pr_clr fu i) (i) (-1)))) := ⟨_, rfl⟩
    refine gj_mem (eC13.trans (by rw [nI_clamp (by omega)])) ?_
    have f14 : C13 (x) = .inr (2, [.ref (x + 1), .ref (x + 2), .ref (x + 3), .ref (x + 4), .ref (x + 5), .ref (x + 6), .ref (x + 7), .ref (x + 8), .int (li), .int (sp)]) := by rw [eC13, va_up_ne _ _ (by omega)]; exact f8
    have f15 : C13 (x + 5) = .inl (0, 10, .inl (upd (pr_clr dv i) (i) (-1))) := by rw [eC13, va_up_ne _ _ (by omega)]; exact f9
    have f16 : C13 (x + 6) = .inl (0, 10, .inl (upd (pr_clr mi i) (i) (-1))) := by rw [eC13, va_up_ne _ _ (by omega)]; exact f10
    have f17 : C13 (x + 7) = .inl (0, 10, .inl (upd (pr_clr fu i) (i) (-1))) := by rw [eC13]; exact va_up_self _ _ _
    have f18 : C13 (x + 8) = .inl (0, 10, .inl (pr_clr fd i)) := by rw [eC13, va_up_ne _ _ (by omega)]; exact f12
    refine gj_aload_n d_Ra_clear_39 rfl ?_
    refine gj_get d_Ra_clear_40 gf_Ra_33 f14 rfl ?_
    refine gj_iload_n d_Ra_clear_43 rfl ?_
    refine gj_kc (v := (-1)) d_Ra_clear_44 (by decide) ?_
    refine gj_iast d_Ra_clear_45 f18 rfl (vp_in_nI (by omega) (by decide)) ?_
    obtain ⟨C19, eC19⟩ : ∃ z, z = va_up C13 (x + 8) (.inl (0, 10, .inl (upd (pr_clr fd i) (i) (-1)))) := ⟨_, rfl⟩
    refine gj_mem (eC19.trans (by rw [nI_clamp (by omega)])) ?_
    have f20 : C19 (x) = .inr (2, [.ref (x + 1), .ref (x + 2), .ref (x + 3), .ref (x + 4), .ref (x + 5), .ref (x + 6), .ref (x + 7), .ref (x + 8), .int (li), .int (sp)]) := by rw [eC19, va_up_ne _ _ (by omega)]; exact f14
    have f21 : C19 (x + 5) = .inl (0, 10, .inl (upd (pr_clr dv i) (i) (-1))) := by rw [eC19, va_up_ne _ _ (by omega)]; exact f15
    have f22 : C19 (x + 6) = .inl (0, 10, .inl (upd (pr_clr mi i) (i) (-1))) := by rw [eC19, va_up_ne _ _ (by omega)]; exact f16
    have f23 : C19 (x + 7) = .inl (0, 10, .inl (upd (pr_clr fu i) (i) (-1))) := by rw [eC19, va_up_ne _ _ (by omega)]; exact f17
    have f24 : C19 (x + 8) = .inl (0, 10, .inl (upd (pr_clr fd i) (i) (-1))) := by rw [eC19]; exact va_up_self _ _ _
    refine gj_iincN d_Ra_clear_46 rfl (by decide) ?_
    refine gj_goto (tgt := 12) d_Ra_clear_49 (by decide) ?_
    refine gj_less (lc' := [(0, .ref (x)), (1, .int (nI (i + 1)))]) ⟨rfl, rfl, trivial⟩ ?_
    refine ih (i + 1) C19 (by omega) f20 (by rw [← pr_clr_s]; exact f21) (by rw [← pr_clr_s]; exact f22) (by rw [← pr_clr_s]; exact f23) (by rw [← pr_clr_s]; exact f24) (fun C2 e0 e1 e2 e3 e4 e5 => hend C2 e0 e1 e2 e3 e4 (fun y g1 g2 g3 g4 => (e5 y g1 g2 g3 g4).trans (by rw [eC19, va_up_ne _ _ g4, eC13, va_up_ne _ _ g3, eC7, va_up_ne _ _ g2, eC1, va_up_ne _ _ g1])))
set_option maxHeartbeats 2000000 in
theorem c_Ra_clear {d K N n x : Nat} {C : Nat → va_E} {dv mi fu fd : Nat → Int32} {li sp : Int32} (hx : C (x) = .inr (2, [.ref (x + 1), .ref (x + 2), .ref (x + 3), .ref (x + 4), .ref (x + 5), .ref (x + 6), .ref (x + 7), .ref (x + 8), .int (li), .int (sp)])) (hdv : C (x + 5) = .inl (0, 10, .inl dv)) (hmi : C (x + 6) = .inl (0, 10, .inl mi)) (hfu : C (x + 7) = .inl (0, 10, .inl fu)) (hfd : C (x + 8) = .inl (0, 10, .inl fd)) : gj_G md_Ra_clear (d) K N 0 0 0 [(0, .ref (x))] [] n C (fun r => r.1 = .inl none ∧ r.2.1 = n ∧ r.2.2 x = .inr (2, [.ref (x + 1), .ref (x + 2), .ref (x + 3), .ref (x + 4), .ref (x + 5), .ref (x + 6), .ref (x + 7), .ref (x + 8), .int (0), .int (0)]) ∧ r.2.2 (x + 5) = .inl (0, 10, .inl (pr_clr dv 10)) ∧ r.2.2 (x + 6) = .inl (0, 10, .inl (pr_clr mi 10)) ∧ r.2.2 (x + 7) = .inl (0, 10, .inl (pr_clr fu 10)) ∧ r.2.2 (x + 8) = .inl (0, 10, .inl (pr_clr fd 10)) ∧ ∀ y, y ≠ x → y ≠ x + 5 → y ≠ x + 6 → y ≠ x + 7 → y ≠ x + 8 → r.2.2 y = C y) := by
  refine gj_aload_n d_Ra_clear_0 rfl ?_
  refine gj_kc (v := 0) d_Ra_clear_1 (by decide) ?_
  refine gj_put d_Ra_clear_2 gp_Ra_39 hx (Nat.le_of_ble_eq_true rfl) (fun _ => rfl) (fun _ => rfl) ?_
  obtain ⟨C1, eC1⟩ : ∃ z, z = va_up C (x) (.inr (2, [.ref (x + 1), .ref (x + 2), .ref (x + 3), .ref (x + 4), .ref (x + 5), .ref (x + 6), .ref (x + 7), .ref (x + 8), .int (0), .int (sp)])) := ⟨_, rfl⟩
  refine gj_mem eC1 ?_
  have f2 : C1 (x) = .inr (2, [.ref (x + 1), .ref (x + 2), .ref (x + 3), .ref (x + 4), .ref (x + 5), .ref (x + 6), .ref (x + 7), .ref (x + 8), .int (0), .int (sp)]) := by rw [eC1]; exact va_up_self _ _ _
  have f3 : C1 (x + 5) = .inl (0, 10, .inl dv) := by rw [eC1, va_up_ne _ _ (by omega)]; exact hdv
  have f4 : C1 (x + 6) = .inl (0, 10, .inl mi) := by rw [eC1, va_up_ne _ _ (by omega)]; exact hmi
  have f5 : C1 (x + 7) = .inl (0, 10, .inl fu) := by rw [eC1, va_up_ne _ _ (by omega)]; exact hfu
  have f6 : C1 (x + 8) = .inl (0, 10, .inl fd) := by rw [eC1, va_up_ne _ _ (by omega)]; exact hfd
  refine gj_aload_n d_Ra_clear_5 rfl ?_
  refine gj_kc (v := 0) d_Ra_clear_6 (by decide) ?_
  refine gj_put d_Ra_clear_7 gp_Ra_43 f2 (Nat.le_of_ble_eq_true rfl) (fun _ => rfl) (fun _ => rfl) ?_
  obtain ⟨C7, eC7⟩ : ∃ z, z = va_up C1 (x) (.inr (2, [.ref (x + 1), .ref (x + 2), .ref (x + 3), .ref (x + 4), .ref (x + 5), .ref (x + 6), .ref (x + 7), .ref (x + 8), .int (0), .int (0)])) := ⟨_, rfl⟩
  refine gj_mem eC7 ?_
  have f8 : C7 (x) = .inr (2, [.ref (x + 1), .ref (x + 2), .ref (x + 3), .ref (x + 4), .ref (x + 5), .ref (x + 6), .ref (x + 7), .ref (x + 8), .int (0), .int (0)]) := by rw [eC7]; exact va_up_self _ _ _
  have f9 : C7 (x + 5) = .inl (0, 10, .inl dv) := by rw [eC7, va_up_ne _ _ (by omega)]; exact f3
  have f10 : C7 (x + 6) = .inl (0, 10, .inl mi) := by rw [eC7, va_up_ne _ _ (by omega)]; exact f4
  have f11 : C7 (x + 7) = .inl (0, 10, .inl fu) := by rw [eC7, va_up_ne _ _ (by omega)]; exact f5
  have f12 : C7 (x + 8) = .inl (0, 10, .inl fd) := by rw [eC7, va_up_ne _ _ (by omega)]; exact f6
  refine gj_kc (v := 0) d_Ra_clear_10 (by decide) ?_
  refine gj_istore_n d_Ra_clear_11 (by decide) ?_
  refine gj_less (lc' := [(0, .ref (x)), (1, .int (nI 0))]) ⟨rfl, rfl, trivial⟩ ?_
  refine c_Ra_clear_loop (dv := dv) (mi := mi) (fu := fu) (fd := fd) 10 0 C7 (by omega) f8 (by rw [pr_clr_0]; exact f9) (by rw [pr_clr_0]; exact f10) (by rw [pr_clr_0]; exact f11) (by rw [pr_clr_0]; exact f12) (fun C2 e0 e1 e2 e3 e4 e5 => ⟨rfl, rfl, e0, e1, e2, e3, e4, fun y g0 g1 g2 g3 g4 => (e5 y g1 g2 g3 g4).trans (by rw [eC7, va_up_ne _ _ g0, eC1, va_up_ne _ _ g0])⟩)
end
section
/-! RateBreaks.Ratios -/
theorem nI_m1 {j : Nat} (h : j < 2 ^ 31) : ¬ nI j = -1 := by
  intro e
  have := congrArg Int32.toInt e
  have e2 : (-1 : Int32).toInt = -1 := by decide
  rw [nI_toInt h, e2] at this
  omega
theorem nI_max {a b : Nat} (ha : a < 2 ^ 31) (hb : b < 2 ^ 31) : (if nI a < nI b then nI b else nI a) = nI (max a b) := by
  by_cases h : a < b
  · rw [if_pos ((nI_ltI ha hb).mpr h), Nat.max_eq_right (by omega)]
  · rw [if_neg (fun q => h ((nI_ltI ha hb).mp q)), Nat.max_eq_left (by omega)]
/-- the place of v among the first ones, or behind them -/
def pf_pl (f : Nat → Int32) (v : Int32) : Nat → Nat → Nat
  | 0, i => i
  | m + 1, i => if f i = v then i else pf_pl f v m (i + 1)
theorem pf_pl_le (f : Nat → Int32) (v : Int32) : ∀ m i, i ≤ pf_pl f v m i ∧ pf_pl f v m i ≤ i + m
  | 0, i => ⟨Nat.le_refl i, Nat.le_refl i⟩
  | m + 1, i => by
    unfold pf_pl
    split
    · omega
    · have := pf_pl_le f v m (i + 1)
      omega
def pf_cd : Option Nat → Int32
  | none => -1
  | some j => nI j
def pf_gt (f : Nat → Int32) (i : Nat) : Option Nat → Prop
  | none => True
  | some j => f j < f i
noncomputable def pf_la (f : Nat → Int32) (v : Int32) : Nat → Nat → Option Nat → Option Nat
  | 0, _, b => b
  | m + 1, i, b => pf_la f v m (i + 1) (@ite _ (f i ≤ v ∧ pf_gt f i b) (Classical.propDecidable _) (some i) b)
theorem pf_la_lt (f : Nat → Int32) (v : Int32) : ∀ m i b, (∀ j, b = some j → j < i) → ∀ j, pf_la f v m i b = some j → j < i + m
  | 0, _, _, h, j, e => h j e
  | m + 1, i, b, h, j, e => by
    have := pf_la_lt f v m (i + 1) (@ite _ (f i ≤ v ∧ pf_gt f i b) (Classical.propDecidable _) (some i) b) (fun k ek => by
      split at ek
      · cases ek; omega
      · have := h k ek; omega) j e
    omega
set_option maxHeartbeats 2000000 in
theorem c_Ro_placeFor_loop {d K N n x sz L : Nat} {C : Nat → va_E} {fr : Nat → Int32} (hx : C (x) = .inr (3, [.ref (x + 1), .ref (x + 2), .ref (x + 3), .int (nI sz)])) (hf : C (x + 1) = .inl (0, L, .inl fr)) (hs : sz ≤ L) (hL : L ≤ 8) {v : Int32} {Q : gj_R → Prop} : ∀ (m : Nat) (i : Nat), i + m = sz → Q (gj_iv (nI (pf_pl fr v m i)), n, C) → gj_G md_Ro_placeFor (d) K N 0 0 2 [(0, .ref (x)), (1, .int (v)), (2, .int (nI i))] [] n C Q := by
  intro m
  induction m with
  | zero =>
    intro i hi hend
    refine gj_iload_n d_Ro_placeFor_2 rfl ?_
    refine gj_aload_n d_Ro_placeFor_3 rfl ?_
    refine gj_get d_Ro_placeFor_4 gf_Ro_9 hx rfl ?_
    refine gj_icmp_ge (tgt := 26) d_Ro_placeFor_7 (by decide) (fun h7 => ?_) (fun h7 => by have m7 : ¬ (sz ≤ i) := fun q => h7 ((nI_leI (a := sz) (b := i) (by omega) (by omega)).mpr q); exact absurd (show sz ≤ i from by omega) m7)
    have m7 : sz ≤ i := (nI_leI (a := sz) (b := i) (by omega) (by omega)).mp h7
    refine gj_iload_n d_Ro_placeFor_26 rfl ?_
    refine gj_iret rfl (Nat.zero_le _) (Nat.zero_le _) d_Ro_placeFor_27 ?_
    exact hend
  | succ m ih =>
    intro i hi hend
    refine gj_iload_n d_Ro_placeFor_2 rfl ?_
    refine gj_aload_n d_Ro_placeFor_3 rfl ?_
    refine gj_get d_Ro_placeFor_4 gf_Ro_9 hx rfl ?_
    refine gj_icmp_ge (tgt := 26) d_Ro_placeFor_7 (by decide) (fun h7 => by have m7 : sz ≤ i := (nI_leI (a := sz) (b := i) (by omega) (by omega)).mp h7; exact absurd m7 (show ¬ (sz ≤ i) from by omega)) (fun h7 => ?_)
    have m7 : ¬ (sz ≤ i) := fun q => h7 ((nI_leI (a := sz) (b := i) (by omega) (by omega)).mpr q)
    refine gj_aload_n d_Ro_placeFor_10 rfl ?_
    refine gj_get d_Ro_placeFor_11 gf_Ro_21 hx rfl ?_
    refine gj_iload_n d_Ro_placeFor_14 rfl ?_
    refine gj_iald d_Ro_placeFor_15 hf rfl (vp_in_nI (by omega) (by omega)) ?_
    refine gj_top (y := fr (i)) (congrArg fr (nI_clamp (by omega))) ?_
    refine gj_iload_n d_Ro_placeFor_16 rfl ?_
    refine gj_icmp_eq (tgt := 26) d_Ro_placeFor_17 (by decide) (fun h17 => ?_) (fun h17 => ?_)
    · refine gj_iload_n d_Ro_placeFor_26 rfl ?_
      refine gj_iret rfl (Nat.zero_le _) (Nat.zero_le _) d_Ro_placeFor_27 ?_
      have e : pf_pl fr v (m + 1) i = i := if_pos h17
      rw [e] at hend; exact hend
    · refine gj_iincN d_Ro_placeFor_20 rfl (by decide) ?_
      refine gj_goto (tgt := 2) d_Ro_placeFor_23 (by decide) ?_
      refine gj_less (lc' := [(0, .ref (x)), (1, .int (v)), (2, .int (nI (i + 1)))]) ⟨rfl, rfl, rfl, trivial⟩ ?_
      refine ih (i + 1) (by omega) ?_
      have e : pf_pl fr v (m + 1) i = pf_pl fr v m (i + 1) := if_neg h17
      rw [← e]; exact hend
set_option maxHeartbeats 2000000 in
theorem c_Ro_placeFor {d K N n x sz L : Nat} {C : Nat → va_E} {fr : Nat → Int32} (hx : C (x) = .inr (3, [.ref (x + 1), .ref (x + 2), .ref (x + 3), .int (nI sz)])) (hf : C (x + 1) = .inl (0, L, .inl fr)) (hs : sz ≤ L) (hL : L ≤ 8) {v : Int32} : gj_G md_Ro_placeFor (d) K N 0 0 0 [(0, .ref (x)), (1, .int (v))] [] n C (fun r => r = (gj_iv (nI (pf_pl fr v sz 0)), n, C)) := by
  refine gj_kc (v := 0) d_Ro_placeFor_0 (by decide) ?_
  refine gj_istore_n d_Ro_placeFor_1 (by decide) ?_
  refine gj_less (lc' := [(0, .ref (x)), (1, .int (v)), (2, .int (nI 0))]) ⟨rfl, rfl, rfl, trivial⟩ ?_
  exact c_Ro_placeFor_loop hx hf hs hL sz 0 (by omega) rfl
set_option maxHeartbeats 2000000 in
theorem c_Ro_hasRoomFor {d K N n x sz L : Nat} {C : Nat → va_E} {fr : Nat → Int32} (hx : C (x) = .inr (3, [.ref (x + 1), .ref (x + 2), .ref (x + 3), .int (nI sz)])) (hf : C (x + 1) = .inl (0, L, .inl fr)) (hs : sz ≤ L) (hL : L ≤ 8) {v : Int32} : gj_G md_Ro_hasRoomFor (d + 1) K N 0 0 0 [(0, .ref (x)), (1, .int (v))] [] n C (fun r => r = (gj_iv (if pf_pl fr v sz 0 < L then 1 else 0), n, C)) := by
  refine gj_aload_n d_Ro_hasRoomFor_0 rfl ?_
  refine gj_iload_n d_Ro_hasRoomFor_1 rfl ?_
  have hp := pf_pl_le fr v sz 0
  refine gj_callV (as := [.int (v)]) (rest := []) (K1 := 0) (N1 := 0) d_Ro_hasRoomFor_2 mo_Ro_placeFor gw_497 gw_499 gw_8 hx rfl pl_Ro_placeFor (Nat.le_of_ble_eq_true rfl) (Nat.le_of_ble_eq_true rfl) (Nat.zero_le _) (Nat.zero_le _) (c_Ro_placeFor hx hf hs hL) (fun E n' C' _ h => by cases h) (fun v n' C' _ h => ?_)
  cases h
  refine gj_aload_n d_Ro_hasRoomFor_5 rfl ?_
  refine gj_get d_Ro_hasRoomFor_6 gf_Ro_21 hx rfl ?_
  refine gj_alen d_Ro_hasRoomFor_9 hf rfl ?_
  refine gj_top (y := nI L) rfl ?_
  refine gj_icmp_ge (tgt := 17) d_Ro_hasRoomFor_10 (by decide) (fun h10 => ?_) (fun h10 => ?_)
  · have m10 : L ≤ pf_pl fr v sz 0 := (nI_leI (a := L) (b := pf_pl fr v sz 0) (by omega) (by omega)).mp h10
    refine gj_kc (v := 0) d_Ro_hasRoomFor_17 (by decide) ?_
    refine gj_zret rfl (by first | exact Or.inl rfl | exact Or.inr rfl) (Nat.zero_le _) (Nat.zero_le _) d_Ro_hasRoomFor_18 ?_
    exact gj_ei (if_neg (by omega)).symm
  · have m10 : ¬ (L ≤ pf_pl fr v sz 0) := fun q => h10 ((nI_leI (a := L) (b := pf_pl fr v sz 0) (by omega) (by omega)).mpr q)
    refine gj_kc (v := 1) d_Ro_hasRoomFor_13 (by decide) ?_
    refine gj_goto (tgt := 18) d_Ro_hasRoomFor_14 (by decide) ?_
    refine gj_zret rfl (by first | exact Or.inl rfl | exact Or.inr rfl) (Nat.zero_le _) (Nat.zero_le _) d_Ro_hasRoomFor_18 ?_
    exact gj_ei (if_pos (by omega)).symm
set_option maxHeartbeats 2000000 in
theorem c_Ro_put {d K N n x sz L : Nat} {C : Nat → va_E} {fr up dn : Nat → Int32} (hx : C (x) = .inr (3, [.ref (x + 1), .ref (x + 2), .ref (x + 3), .int (nI sz)])) (hf : C (x + 1) = .inl (0, L, .inl fr)) (hu : C (x + 2) = .inl (0, L, .inl up)) (hd : C (x + 3) = .inl (0, L, .inl dn)) (hs : sz ≤ L) (hL : L ≤ 8) {v a b : Int32} (hr : pf_pl fr v sz 0 < L) : gj_G md_Ro_put (d + 1) K N 0 0 0 [(0, .ref (x)), (1, .int (v)), (2, .int (a)), (3, .int (b))] [] n C (fun r => r.1 = .inl none ∧ r.2.1 = n ∧ r.2.2 x = .inr (3, [.ref (x + 1), .ref (x + 2), .ref (x + 3), .int (nI (max sz (pf_pl fr v sz 0 + 1)))]) ∧ r.2.2 (x + 1) = .inl (0, L, .inl (upd fr (pf_pl fr v sz 0) v)) ∧ r.2.2 (x + 2) = .inl (0, L, .inl (upd up (pf_pl fr v sz 0) a)) ∧ r.2.2 (x + 3) = .inl (0, L, .inl (upd dn (pf_pl fr v sz 0) b)) ∧ ∀ y, y ≠ x → y ≠ x + 1 → y ≠ x + 2 → y ≠ x + 3 → r.2.2 y = C y) := by
  refine gj_aload_n d_Ro_put_0 rfl ?_
  refine gj_iload_n d_Ro_put_1 rfl ?_
  have hp := pf_pl_le fr v sz 0
  refine gj_callV (as := [.int (v)]) (rest := []) (K1 := 0) (N1 := 0) d_Ro_put_2 mo_Ro_placeFor gw_497 gw_499 gw_8 hx rfl pl_Ro_placeFor (Nat.le_of_ble_eq_true rfl) (Nat.le_of_ble_eq_true rfl) (Nat.zero_le _) (Nat.zero_le _) (c_Ro_placeFor hx hf hs hL) (fun E n' C' _ h => by cases h) (fun v n' C' _ h => ?_)
  cases h
  refine gj_istore d_Ro_put_5 (by decide) ?_
  refine gj_iload d_Ro_put_7 rfl ?_
  refine gj_aload_n d_Ro_put_9 rfl ?_
  refine gj_get d_Ro_put_10 gf_Ro_21 hx rfl ?_
  refine gj_alen d_Ro_put_13 hf rfl ?_
  refine gj_top (y := nI L) rfl ?_
  refine gj_icmp_lt (tgt := 18) d_Ro_put_14 (by decide) (fun h14 => ?_) (fun h14 => by have m14 : ¬ (pf_pl fr v sz 0 < L) := fun q => h14 ((nI_ltI (a := pf_pl fr v sz 0) (b := L) (by omega) (by omega)).mpr q); exact absurd (show pf_pl fr v sz 0 < L from by omega) m14)
  have m14 : pf_pl fr v sz 0 < L := (nI_ltI (a := pf_pl fr v sz 0) (b := L) (by omega) (by omega)).mp h14
  refine gj_aload_n d_Ro_put_18 rfl ?_
  refine gj_get d_Ro_put_19 gf_Ro_21 hx rfl ?_
  refine gj_iload d_Ro_put_22 rfl ?_
  refine gj_iload_n d_Ro_put_24 rfl ?_
  refine gj_iast d_Ro_put_25 hf rfl (vp_in_nI (by omega) (by omega)) ?_
  obtain ⟨C1, eC1⟩ : ∃ z, z = va_up C (x + 1) (.inl (0, L, .inl (upd fr (pf_pl fr v sz 0) (v)))) := ⟨_, rfl⟩
  refine gj_mem (eC1.trans (by rw [nI_clamp (by omega)])) ?_
  have f2 : C1 (x) = .inr (3, [.ref (x + 1), .ref (x + 2), .ref (x + 3), .int (nI sz)]) := by rw [eC1, va_up_ne _ _ (by omega)]; exact hx
  have f3 : C1 (x + 1) = .inl (0, L, .inl (upd fr (pf_pl fr v sz 0) (v))) := by rw [eC1]; exact va_up_self _ _ _
  have f4 : C1 (x + 2) = .inl (0, L, .inl up) := by rw [eC1, va_up_ne _ _ (by omega)]; exact hu
  have f5 : C1 (x + 3) = .inl (0, L, .inl dn) := by rw [eC1, va_up_ne _ _ (by omega)]; exact hd
  refine gj_aload_n d_Ro_put_26 rfl ?_
  refine gj_get d_Ro_put_27 gf_Ro_25 f2 rfl ?_
  refine gj_iload d_Ro_put_30 rfl ?_
  refine gj_iload_n d_Ro_put_32 rfl ?_
  refine gj_iast d_Ro_put_33 f4 rfl (vp_in_nI (by omega) (by omega)) ?_
  obtain ⟨C6, eC6⟩ : ∃ z, z = va_up C1 (x + 2) (.inl (0, L, .inl (upd up (pf_pl fr v sz 0) (a)))) := ⟨_, rfl⟩
  refine gj_mem (eC6.trans (by rw [nI_clamp (by omega)])) ?_
  have f7 : C6 (x) = .inr (3, [.ref (x + 1), .ref (x + 2), .ref (x + 3), .int (nI sz)]) := by rw [eC6, va_up_ne _ _ (by omega)]; exact f2
  have f8 : C6 (x + 1) = .inl (0, L, .inl (upd fr (pf_pl fr v sz 0) (v))) := by rw [eC6, va_up_ne _ _ (by omega)]; exact f3
  have f9 : C6 (x + 2) = .inl (0, L, .inl (upd up (pf_pl fr v sz 0) (a))) := by rw [eC6]; exact va_up_self _ _ _
  have f10 : C6 (x + 3) = .inl (0, L, .inl dn) := by rw [eC6, va_up_ne _ _ (by omega)]; exact f5
  refine gj_aload_n d_Ro_put_34 rfl ?_
  refine gj_get d_Ro_put_35 gf_Ro_28 f7 rfl ?_
  refine gj_iload d_Ro_put_38 rfl ?_
  refine gj_iload_n d_Ro_put_40 rfl ?_
  refine gj_iast d_Ro_put_41 f10 rfl (vp_in_nI (by omega) (by omega)) ?_
  obtain ⟨C11, eC11⟩ : ∃ z, z = va_up C6 (x + 3) (.inl (0, L, .inl (upd dn (pf_pl fr v sz 0) (b)))) := ⟨_, rfl⟩
  refine gj_mem (eC11.trans (by rw [nI_clamp (by omega)])) ?_
  have f12 : C11 (x) = .inr (3, [.ref (x + 1), .ref (x + 2), .ref (x + 3), .int (nI sz)]) := by rw [eC11, va_up_ne _ _ (by omega)]; exact f7
  have f13 : C11 (x + 1) = .inl (0, L, .inl (upd fr (pf_pl fr v sz 0) (v))) := by rw [eC11, va_up_ne _ _ (by omega)]; exact f8
  have f14 : C11 (x + 2) = .inl (0, L, .inl (upd up (pf_pl fr v sz 0) (a))) := by rw [eC11, va_up_ne _ _ (by omega)]; exact f9
  have f15 : C11 (x + 3) = .inl (0, L, .inl (upd dn (pf_pl fr v sz 0) (b))) := by rw [eC11]; exact va_up_self _ _ _
  refine gj_aload_n d_Ro_put_42 rfl ?_
  refine gj_aload_n d_Ro_put_43 rfl ?_
  refine gj_get d_Ro_put_44 gf_Ro_9 f12 rfl ?_
  refine gj_iload d_Ro_put_47 rfl ?_
  refine gj_kc (v := 1) d_Ro_put_49 (by decide) ?_
  refine gj_iadd d_Ro_put_50 ?_
  refine gj_top (y := nI ((pf_pl fr v sz 0) + 1)) (nI_add (pf_pl fr v sz 0) (1)) ?_
  refine gj_max d_Ro_put_51 gw_117 gw_118 gw_24 gw_119 (Nat.le_of_ble_eq_true rfl) (Nat.zero_le _) (Nat.zero_le _) ?_
  refine gj_top (y := nI (max sz (pf_pl fr v sz 0 + 1))) (nI_max (by omega) (by omega)) ?_
  refine gj_put d_Ro_put_54 gp_Ro_9 f12 (Nat.le_of_ble_eq_true rfl) (fun _ => rfl) (fun _ => rfl) ?_
  obtain ⟨C16, eC16⟩ : ∃ z, z = va_up C11 (x) (.inr (3, [.ref (x + 1), .ref (x + 2), .ref (x + 3), .int (nI (max sz (pf_pl fr v sz 0 + 1)))])) := ⟨_, rfl⟩
  refine gj_mem eC16 ?_
  have f17 : C16 (x) = .inr (3, [.ref (x + 1), .ref (x + 2), .ref (x + 3), .int (nI (max sz (pf_pl fr v sz 0 + 1)))]) := by rw [eC16]; exact va_up_self _ _ _
  have f18 : C16 (x + 1) = .inl (0, L, .inl (upd fr (pf_pl fr v sz 0) (v))) := by rw [eC16, va_up_ne _ _ (by omega)]; exact f13
  have f19 : C16 (x + 2) = .inl (0, L, .inl (upd up (pf_pl fr v sz 0) (a))) := by rw [eC16, va_up_ne _ _ (by omega)]; exact f14
  have f20 : C16 (x + 3) = .inl (0, L, .inl (upd dn (pf_pl fr v sz 0) (b))) := by rw [eC16, va_up_ne _ _ (by omega)]; exact f15
  refine gj_vret rfl (Nat.zero_le _) (Nat.zero_le _) d_Ro_put_57 ?_
  exact ⟨rfl, rfl, f17, f18, f19, f20, fun y g0 g1 g2 g3 => by show C16 y = C y; rw [eC16, va_up_ne _ _ g0, eC11, va_up_ne _ _ g3, eC6, va_up_ne _ _ g2, eC1, va_up_ne _ _ g1]⟩
set_option maxHeartbeats 2000000 in
theorem c_Ro_latest_loop {d K N n x sz L : Nat} {C : Nat → va_E} {fr : Nat → Int32} (hx : C (x) = .inr (3, [.ref (x + 1), .ref (x + 2), .ref (x + 3), .int (nI sz)])) (hf : C (x + 1) = .inl (0, L, .inl fr)) (hs : sz ≤ L) (hL : L ≤ 8) {v : Int32} {Q : gj_R → Prop} : ∀ (m : Nat) (i : Nat) (b : Option Nat), i + m = sz → (∀ j, b = some j → j < i) → Q (gj_iv (pf_cd (pf_la fr v m i b)), n, C) → gj_G md_Ro_latest (d) K N 0 0 4 [(0, .ref (x)), (1, .int (v)), (2, .int (pf_cd b)), (3, .int (nI i))] [] n C Q := by
  intro m
  induction m with
  | zero =>
    intro i b hi hb hend
    refine gj_iload_n d_Ro_latest_4 rfl ?_
    refine gj_aload_n d_Ro_latest_5 rfl ?_
    refine gj_get d_Ro_latest_6 gf_Ro_9 hx rfl ?_
    refine gj_icmp_ge (tgt := 50) d_Ro_latest_9 (by decide) (fun h9 => ?_) (fun h9 => by have m9 : ¬ (sz ≤ i) := fun q => h9 ((nI_leI (a := sz) (b := i) (by omega) (by omega)).mpr q); exact absurd (show sz ≤ i from by omega) m9)
    have m9 : sz ≤ i := (nI_leI (a := sz) (b := i) (by omega) (by omega)).mp h9
    refine gj_iload_n d_Ro_latest_50 rfl ?_
    refine gj_iret rfl (Nat.zero_le _) (Nat.zero_le _) d_Ro_latest_51 ?_
    exact hend
  | succ m ih =>
    intro i b hi hb hend
    rcases b with _ | j
    · refine gj_less (lc' := [(0, .ref (x)), (1, .int (v)), (2, .int (-1)), (3, .int (nI i))]) ⟨rfl, rfl, rfl, rfl, trivial⟩ ?_
      refine gj_iload_n d_Ro_latest_4 rfl ?_
      refine gj_aload_n d_Ro_latest_5 rfl ?_
      refine gj_get d_Ro_latest_6 gf_Ro_9 hx rfl ?_
      refine gj_icmp_ge (tgt := 50) d_Ro_latest_9 (by decide) (fun h9 => by have m9 : sz ≤ i := (nI_leI (a := sz) (b := i) (by omega) (by omega)).mp h9; exact absurd m9 (show ¬ (sz ≤ i) from by omega)) (fun h9 => ?_)
      have m9 : ¬ (sz ≤ i) := fun q => h9 ((nI_leI (a := sz) (b := i) (by omega) (by omega)).mpr q)
      refine gj_aload_n d_Ro_latest_12 rfl ?_
      refine gj_get d_Ro_latest_13 gf_Ro_21 hx rfl ?_
      refine gj_iload_n d_Ro_latest_16 rfl ?_
      refine gj_iald d_Ro_latest_17 hf rfl (vp_in_nI (by omega) (by omega)) ?_
      refine gj_top (y := fr (i)) (congrArg fr (nI_clamp (by omega))) ?_
      refine gj_iload_n d_Ro_latest_18 rfl ?_
      refine gj_icmp_gt (tgt := 44) d_Ro_latest_19 (by decide) (fun h19 => ?_) (fun h19 => ?_)
      · refine gj_iincN d_Ro_latest_44 rfl (by decide) ?_
        refine gj_goto (tgt := 4) d_Ro_latest_47 (by decide) ?_
        refine gj_less (lc' := [(0, .ref (x)), (1, .int (v)), (2, .int (-1)), (3, .int (nI (i + 1)))]) ⟨rfl, rfl, rfl, rfl, trivial⟩ ?_
        refine ih (i + 1) none (by omega) (fun k hk => by cases hk) ?_
        have e : (@ite _ (fr i ≤ v ∧ pf_gt fr i none) (Classical.propDecidable _) (some i) none) = none := if_neg (fun q => by first | exact absurd h19 (Int32.not_lt.mpr q.1) | exact absurd h39 (Int32.not_le.mpr q.2))
        rw [← e]; exact hend
      · refine gj_iload_n d_Ro_latest_22 rfl ?_
        refine gj_kc (v := (-1)) d_Ro_latest_23 (by decide) ?_
        refine gj_icmp_eq (tgt := 42) d_Ro_latest_24 (by decide) (fun h24 => ?_) (fun h24 => absurd (rfl) h24)
        refine gj_iload_n d_Ro_latest_42 rfl ?_
        refine gj_istore_n d_Ro_latest_43 (by decide) ?_
        refine gj_iincN d_Ro_latest_44 rfl (by decide) ?_
        refine gj_goto (tgt := 4) d_Ro_latest_47 (by decide) ?_
        refine gj_less (lc' := [(0, .ref (x)), (1, .int (v)), (2, .int (nI i)), (3, .int (nI (i + 1)))]) ⟨rfl, rfl, rfl, rfl, trivial⟩ ?_
        refine ih (i + 1) (some i) (by omega) (fun k hk => by cases hk; omega) ?_
        have e : (@ite _ (fr i ≤ v ∧ pf_gt fr i none) (Classical.propDecidable _) (some i) none) = (some i) := if_pos ⟨Int32.not_lt.mp h19, trivial⟩
        rw [← e]; exact hend
    · have hj := hb j rfl
      refine gj_less (lc' := [(0, .ref (x)), (1, .int (v)), (2, .int (nI j)), (3, .int (nI i))]) ⟨rfl, rfl, rfl, rfl, trivial⟩ ?_
      refine gj_iload_n d_Ro_latest_4 rfl ?_
      refine gj_aload_n d_Ro_latest_5 rfl ?_
      refine gj_get d_Ro_latest_6 gf_Ro_9 hx rfl ?_
      refine gj_icmp_ge (tgt := 50) d_Ro_latest_9 (by decide) (fun h9 => by have m9 : sz ≤ i := (nI_leI (a := sz) (b := i) (by omega) (by omega)).mp h9; exact absurd m9 (show ¬ (sz ≤ i) from by omega)) (fun h9 => ?_)
      have m9 : ¬ (sz ≤ i) := fun q => h9 ((nI_leI (a := sz) (b := i) (by omega) (by omega)).mpr q)
      refine gj_aload_n d_Ro_latest_12 rfl ?_
      refine gj_get d_Ro_latest_13 gf_Ro_21 hx rfl ?_
      refine gj_iload_n d_Ro_latest_16 rfl ?_
      refine gj_iald d_Ro_latest_17 hf rfl (vp_in_nI (by omega) (by omega)) ?_
      refine gj_top (y := fr (i)) (congrArg fr (nI_clamp (by omega))) ?_
      refine gj_iload_n d_Ro_latest_18 rfl ?_
      refine gj_icmp_gt (tgt := 44) d_Ro_latest_19 (by decide) (fun h19 => ?_) (fun h19 => ?_)
      · refine gj_iincN d_Ro_latest_44 rfl (by decide) ?_
        refine gj_goto (tgt := 4) d_Ro_latest_47 (by decide) ?_
        refine gj_less (lc' := [(0, .ref (x)), (1, .int (v)), (2, .int (nI j)), (3, .int (nI (i + 1)))]) ⟨rfl, rfl, rfl, rfl, trivial⟩ ?_
        refine ih (i + 1) (some j) (by omega) (fun k hk => by cases hk; omega) ?_
        have e : (@ite _ (fr i ≤ v ∧ pf_gt fr i (some j)) (Classical.propDecidable _) (some i) (some j)) = (some j) := if_neg (fun q => by first | exact absurd h19 (Int32.not_lt.mpr q.1) | exact absurd h39 (Int32.not_le.mpr q.2))
        rw [← e]; exact hend
      · refine gj_iload_n d_Ro_latest_22 rfl ?_
        refine gj_kc (v := (-1)) d_Ro_latest_23 (by decide) ?_
        refine gj_icmp_eq (tgt := 42) d_Ro_latest_24 (by decide) (fun h24 => absurd h24 (nI_m1 (by omega))) (fun h24 => ?_)
        refine gj_aload_n d_Ro_latest_27 rfl ?_
        refine gj_get d_Ro_latest_28 gf_Ro_21 hx rfl ?_
        refine gj_iload_n d_Ro_latest_31 rfl ?_
        refine gj_iald d_Ro_latest_32 hf rfl (vp_in_nI (by omega) (by omega)) ?_
        refine gj_top (y := fr (i)) (congrArg fr (nI_clamp (by omega))) ?_
        refine gj_aload_n d_Ro_latest_33 rfl ?_
        refine gj_get d_Ro_latest_34 gf_Ro_21 hx rfl ?_
        refine gj_iload_n d_Ro_latest_37 rfl ?_
        refine gj_iald d_Ro_latest_38 hf rfl (vp_in_nI (by omega) (by omega)) ?_
        refine gj_top (y := fr (j)) (congrArg fr (nI_clamp (by omega))) ?_
        refine gj_icmp_le (tgt := 44) d_Ro_latest_39 (by decide) (fun h39 => ?_) (fun h39 => ?_)
        · refine gj_iincN d_Ro_latest_44 rfl (by decide) ?_
          refine gj_goto (tgt := 4) d_Ro_latest_47 (by decide) ?_
          refine gj_less (lc' := [(0, .ref (x)), (1, .int (v)), (2, .int (nI j)), (3, .int (nI (i + 1)))]) ⟨rfl, rfl, rfl, rfl, trivial⟩ ?_
          refine ih (i + 1) (some j) (by omega) (fun k hk => by cases hk; omega) ?_
          have e : (@ite _ (fr i ≤ v ∧ pf_gt fr i (some j)) (Classical.propDecidable _) (some i) (some j)) = (some j) := if_neg (fun q => by first | exact absurd h19 (Int32.not_lt.mpr q.1) | exact absurd h39 (Int32.not_le.mpr q.2))
          rw [← e]; exact hend
        · refine gj_iload_n d_Ro_latest_42 rfl ?_
          refine gj_istore_n d_Ro_latest_43 (by decide) ?_
          refine gj_iincN d_Ro_latest_44 rfl (by decide) ?_
          refine gj_goto (tgt := 4) d_Ro_latest_47 (by decide) ?_
          refine gj_less (lc' := [(0, .ref (x)), (1, .int (v)), (2, .int (nI i)), (3, .int (nI (i + 1)))]) ⟨rfl, rfl, rfl, rfl, trivial⟩ ?_
          refine ih (i + 1) (some i) (by omega) (fun k hk => by cases hk; omega) ?_
          have e : (@ite _ (fr i ≤ v ∧ pf_gt fr i (some j)) (Classical.propDecidable _) (some i) (some j)) = (some i) := if_pos ⟨Int32.not_lt.mp h19, Int32.not_le.mp h39⟩
          rw [← e]; exact hend
set_option maxHeartbeats 2000000 in
theorem c_Ro_latest {d K N n x sz L : Nat} {C : Nat → va_E} {fr : Nat → Int32} (hx : C (x) = .inr (3, [.ref (x + 1), .ref (x + 2), .ref (x + 3), .int (nI sz)])) (hf : C (x + 1) = .inl (0, L, .inl fr)) (hs : sz ≤ L) (hL : L ≤ 8) {v : Int32} : gj_G md_Ro_latest (d) K N 0 0 0 [(0, .ref (x)), (1, .int (v))] [] n C (fun r => r = (gj_iv (pf_cd (pf_la fr v sz 0 none)), n, C)) := by
  refine gj_kc (v := (-1)) d_Ro_latest_0 (by decide) ?_
  refine gj_istore_n d_Ro_latest_1 (by decide) ?_
  refine gj_kc (v := 0) d_Ro_latest_2 (by decide) ?_
  refine gj_istore_n d_Ro_latest_3 (by decide) ?_
  refine gj_less (lc' := [(0, .ref (x)), (1, .int (v)), (2, .int (-1)), (3, .int (nI 0))]) ⟨rfl, rfl, rfl, rfl, trivial⟩ ?_
  exact c_Ro_latest_loop hx hf hs hL sz 0 none (by omega) (fun _ h => nomatch h) rfl
set_option maxHeartbeats 2000000 in
theorem c_RB_needRoom {d K N n x sz L : Nat} {C : Nat → va_E} {fr : Nat → Int32} (hx : C (x) = .inr (3, [.ref (x + 1), .ref (x + 2), .ref (x + 3), .int (nI sz)])) (hf : C (x + 1) = .inl (0, L, .inl fr)) (hs : sz ≤ L) (hL : L ≤ 8) {v : Int32} (hr : pf_pl fr v sz 0 < L) : gj_G md_RB_needRoom (d + 2) K N 0 0 0 [(0, .ref (x)), (1, .int (v))] [] n C (fun r => r = (.inl none, n, C)) := by
  refine gj_aload_n d_RB_needRoom_0 rfl ?_
  refine gj_iload_n d_RB_needRoom_1 rfl ?_
  refine gj_callV (as := [.int (v)]) (rest := []) (K1 := 0) (N1 := 0) d_RB_needRoom_2 mo_Ro_hasRoomFor gw_493 gw_494 gw_495 hx rfl pl_Ro_hasRoomFor (Nat.le_of_ble_eq_true rfl) (Nat.le_of_ble_eq_true rfl) (Nat.zero_le _) (Nat.zero_le _) (c_Ro_hasRoomFor hx hf hs hL) (fun E n' C' _ h => by cases h) (fun v n' C' _ h => ?_)
  cases h
  refine gj_if_ne (tgt := 18) d_RB_needRoom_5 (by decide) (fun h5 => ?_) (fun h5 => absurd h5 (by rw [if_pos hr]; decide))
  refine gj_vret rfl (Nat.zero_le _) (Nat.zero_le _) d_RB_needRoom_18 ?_
  exact rfl
set_option maxHeartbeats 2000000 in
theorem c_RB_needRoom_x {d K N n x sz L : Nat} {C : Nat → va_E} {fr : Nat → Int32} (hx : C (x) = .inr (3, [.ref (x + 1), .ref (x + 2), .ref (x + 3), .int (nI sz)])) (hf : C (x + 1) = .inl (0, L, .inl fr)) (hs : sz ≤ L) (hL : L ≤ 8) {v : Int32} (hK : 1 ≤ K) (hN : 6 ≤ N) (hr : ¬ pf_pl fr v sz 0 < L) : gj_G md_RB_needRoom (d + 2) K N 0 0 0 [(0, .ref (x)), (1, .int (v))] [] n C (fun r => r = (.inr "java/lang/UnsupportedOperationException", n, C)) := by
  refine gj_aload_n d_RB_needRoom_0 rfl ?_
  refine gj_iload_n d_RB_needRoom_1 rfl ?_
  refine gj_callV (as := [.int (v)]) (rest := []) (K1 := 0) (N1 := 0) d_RB_needRoom_2 mo_Ro_hasRoomFor gw_493 gw_494 gw_495 hx rfl pl_Ro_hasRoomFor (Nat.le_of_ble_eq_true rfl) (Nat.le_of_ble_eq_true rfl) (Nat.zero_le _) (Nat.zero_le _) (c_Ro_hasRoomFor hx hf hs hL) (fun E n' C' _ h => by cases h) (fun v n' C' _ h => ?_)
  cases h
  refine gj_if_ne (tgt := 18) d_RB_needRoom_5 (by decide) (fun h5 => absurd (if_neg hr) h5) (fun h5 => ?_)
  refine gj_throw2 tk_RB_needRoom_8 d_RB_needRoom_8 d_RB_needRoom_11 d_RB_needRoom_12 d_RB_needRoom_14 d_RB_needRoom_17 rfl (Nat.le_of_ble_eq_true rfl) (by omega) (by omega) ?_
  exact rfl
end
section
/-! RateBreaks.Rates: a line is taken -/
abbrev pr_T : Type := (Nat → Int32) × (Nat → Int32) × (Nat → Int32) × (Nat → Int32) × (Nat → Int32) × (Nat → Int32) × (Nat → Int32) × (Nat → Int32) × Nat
/-- the cells of a Rates at x -/
def pr_M (C : Nat → va_E) (x : Nat) (T : pr_T) (li : Int32) : Prop := C x = .inr (2, [.ref (x + 1), .ref (x + 2), .ref (x + 3), .ref (x + 4), .ref (x + 5), .ref (x + 6), .ref (x + 7), .ref (x + 8), .int li, .int (nI T.2.2.2.2.2.2.2.2)]) ∧ C (x + 1) = .inl (0, 60, .inl T.1) ∧ C (x + 2) = .inl (0, 60, .inl T.2.1) ∧ C (x + 3) = .inl (0, 60, .inl T.2.2.1) ∧ C (x + 4) = .inl (0, 60, .inl T.2.2.2.1) ∧
  C (x + 5) = .inl (0, 10, .inl T.2.2.2.2.1) ∧ C (x + 6) = .inl (0, 10, .inl T.2.2.2.2.2.1) ∧ C (x + 7) = .inl (0, 10, .inl T.2.2.2.2.2.2.1) ∧ C (x + 8) = .inl (0, 10, .inl T.2.2.2.2.2.2.2.1)
/-- a line of letter L with the numbers j b c e may be taken -/
def pr_ok (L : Int32) (j : Nat) (b c e : Int32) (T : pr_T) : Prop :=
  (L = 82 ∧ j < 10 ∧ b < 10 ∧ c ≤ 100000 ∧ e ≤ 1000000 ∧ pr_hv T.1 T.2.2.1 (nI j * 10 + b) T.2.2.2.2.2.2.2.2 0 0 < c) ∨
  (L = 68 ∧ j < 10 ∧ T.2.2.2.2.1 j = -1 ∧ b ≤ 100000) ∨ (L = 77 ∧ j < 10 ∧ T.2.2.2.2.2.1 j = -1 ∧ b ≤ 1000000) ∨
  (L = 70 ∧ j < 10 ∧ 1 ≤ c ∧ T.2.2.2.2.2.2.2.1 j = -1 ∧ c ≤ 1000 ∧ T.2.2.2.2.2.2.1 j = -1 ∧ b ≤ c)
def pr_nx (L : Int32) (j : Nat) (b c e : Int32) : pr_T → pr_T
  | (la, ab, ut, ce, dv, mi, fu, fd, sp) => if L = 82 then (upd la sp (nI j * 10 + b), upd ab sp (pr_hv la ut (nI j * 10 + b) sp 0 0), upd ut sp c, upd ce sp e, dv, mi, fu, fd, sp + 1)
    else if L = 68 then (la, ab, ut, ce, upd dv j b, mi, fu, fd, sp) else if L = 77 then (la, ab, ut, ce, dv, upd mi j b, fu, fd, sp) else (la, ab, ut, ce, dv, mi, upd fu j b, upd fd j c, sp)
set_option maxHeartbeats 2000000 in
theorem c_Ra_takeStep {d K N n x li sp : Nat} {C : Nat → va_E} {la ab ut ce : Nat → Int32} (hx : C (x) = .inr (2, [.ref (x + 1), .ref (x + 2), .ref (x + 3), .ref (x + 4), .ref (x + 5), .ref (x + 6), .ref (x + 7), .ref (x + 8), .int (nI li), .int (nI sp)])) (hla : C (x + 1) = .inl (0, 60, .inl la)) (hab : C (x + 2) = .inl (0, 60, .inl ab)) (hut : C (x + 3) = .inl (0, 60, .inl ut)) (hce : C (x + 4) = .inl (0, 60, .inl ce)) {a b c e : Int32} (h60 : sp < 60) (ok : a < 10 ∧ b < 10 ∧ c ≤ 100000 ∧ e ≤ 1000000 ∧ pr_hv la ut (a * 10 + b) sp 0 0 < c) : gj_G md_Ra_takeStep (d + 1) K N 0 0 0 [(0, .ref (x)), (1, .int (a)), (2, .int (b)), (3, .int (c)), (4, .int (e))] [] n C (fun r => r.1 = gj_iv 1 ∧ r.2.1 = n ∧ r.2.2 x = .inr (2, [.ref (x + 1), .ref (x + 2), .ref (x + 3), .ref (x + 4), .ref (x + 5), .ref (x + 6), .ref (x + 7), .ref (x + 8), .int (nI li), .int (nI (sp + 1))]) ∧ r.2.2 (x + 1) = .inl (0, 60, .inl (upd la sp (a * 10 + b))) ∧ r.2.2 (x + 2) = .inl (0, 60, .inl (upd ab sp (pr_hv la ut (a * 10 + b) sp 0 0))) ∧ r.2.2 (x + 3) = .inl (0, 60, .inl (upd ut sp c)) ∧ r.2.2 (x + 4) = .inl (0, 60, .inl (upd ce sp e)) ∧ ∀ y, y ≠ x → y ≠ x + 1 → y ≠ x + 2 → y ≠ x + 3 → y ≠ x + 4 → r.2.2 y = C y) := by
  refine gj_iload_n d_Ra_takeStep_0 rfl ?_
  refine gj_kb (v := 10) d_Ra_takeStep_1 (by decide) ?_
  refine gj_icmp_ge (tgt := 25) d_Ra_takeStep_3 (by decide) (fun h3 => absurd h3 (Int32.not_le.mpr ok.1)) (fun h3 => ?_)
  refine gj_iload_n d_Ra_takeStep_6 rfl ?_
  refine gj_kb (v := 10) d_Ra_takeStep_7 (by decide) ?_
  refine gj_icmp_ge (tgt := 25) d_Ra_takeStep_9 (by decide) (fun h9 => absurd h9 (Int32.not_le.mpr ok.2.1)) (fun h9 => ?_)
  refine gj_iload_n d_Ra_takeStep_12 rfl ?_
  refine gj_ldc d_Ra_takeStep_13 gw_201 ?_
  refine gj_icmp_gt (tgt := 25) d_Ra_takeStep_15 (by decide) (fun h15 => absurd h15 (Int32.not_lt.mpr ok.2.2.1)) (fun h15 => ?_)
  refine gj_iload d_Ra_takeStep_18 rfl ?_
  refine gj_ldc d_Ra_takeStep_20 gw_202 ?_
  refine gj_icmp_le (tgt := 27) d_Ra_takeStep_22 (by decide) (fun h22 => ?_) (fun h22 => absurd (ok.2.2.2.1) h22)
  refine gj_iload_n d_Ra_takeStep_27 rfl ?_
  refine gj_iload_n d_Ra_takeStep_28 rfl ?_
  refine gj_callSN (as := [.int (a), .int (b)]) (rest := []) (K1 := 0) (N1 := 0) d_Ra_takeStep_29 mo_RB_laneOf gw_203 gw_204 gw_20 pl_RB_laneOf (Nat.le_of_ble_eq_true rfl) (Nat.le_of_ble_eq_true rfl) (Nat.zero_le _) (Nat.zero_le _) (c_RB_laneOf a b) (fun E n' C' _ h => by cases h) (fun v n' C' _ h => ?_)
  cases h
  refine gj_istore d_Ra_takeStep_32 (by decide) ?_
  refine gj_aload_n d_Ra_takeStep_34 rfl ?_
  refine gj_iload d_Ra_takeStep_35 rfl ?_
  refine gj_callV (as := [.int (a * 10 + b)]) (rest := []) (K1 := 0) (N1 := 0) d_Ra_takeStep_37 mo_Ra_heaviest gw_206 gw_208 gw_4 hx rfl pl_Ra_heaviest (Nat.le_of_ble_eq_true rfl) (Nat.le_of_ble_eq_true rfl) (Nat.zero_le _) (Nat.zero_le _) (c_Ra_heaviest hx hla hut (by omega)) (fun E n' C' _ h => by cases h) (fun v n' C' _ h => ?_)
  cases h
  refine gj_istore d_Ra_takeStep_40 (by decide) ?_
  refine gj_iload_n d_Ra_takeStep_42 rfl ?_
  refine gj_iload d_Ra_takeStep_43 rfl ?_
  refine gj_icmp_le (tgt := 57) d_Ra_takeStep_45 (by decide) (fun h45 => absurd h45 (Int32.not_le.mpr ok.2.2.2.2)) (fun h45 => ?_)
  refine gj_aload_n d_Ra_takeStep_48 rfl ?_
  refine gj_get d_Ra_takeStep_49 gf_Ra_43 hx rfl ?_
  refine gj_kb (v := 60) d_Ra_takeStep_52 (by decide) ?_
  refine gj_icmp_lt (tgt := 59) d_Ra_takeStep_54 (by decide) (fun h54 => ?_) (fun h54 => by have m54 : ¬ (sp < 60) := fun q => h54 ((nI_ltI (a := sp) (b := 60) (by omega) (by omega)).mpr q); exact absurd (show sp < 60 from by omega) m54)
  have m54 : sp < 60 := (nI_ltI (a := sp) (b := 60) (by omega) (by omega)).mp h54
  refine gj_aload_n d_Ra_takeStep_59 rfl ?_
  refine gj_get d_Ra_takeStep_60 gf_Ra_9 hx rfl ?_
  refine gj_aload_n d_Ra_takeStep_63 rfl ?_
  refine gj_get d_Ra_takeStep_64 gf_Ra_43 hx rfl ?_
  refine gj_iload d_Ra_takeStep_67 rfl ?_
  refine gj_iast d_Ra_takeStep_69 hla rfl (vp_in_nI (by omega) (by decide)) ?_
  obtain ⟨C1, eC1⟩ : ∃ z, z = va_up C (x + 1) (.inl (0, 60, .inl (upd la (sp) (a * 10 + b)))) := ⟨_, rfl⟩
  refine gj_mem (eC1.trans (by rw [nI_clamp (by omega)])) ?_
  have f2 : C1 (x) = .inr (2, [.ref (x + 1), .ref (x + 2), .ref (x + 3), .ref (x + 4), .ref (x + 5), .ref (x + 6), .ref (x + 7), .ref (x + 8), .int (nI li), .int (nI sp)]) := by rw [eC1, va_up_ne _ _ (by omega)]; exact hx
  have f3 : C1 (x + 1) = .inl (0, 60, .inl (upd la (sp) (a * 10 + b))) := by rw [eC1]; exact va_up_self _ _ _
  have f4 : C1 (x + 2) = .inl (0, 60, .inl ab) := by rw [eC1, va_up_ne _ _ (by omega)]; exact hab
  have f5 : C1 (x + 3) = .inl (0, 60, .inl ut) := by rw [eC1, va_up_ne _ _ (by omega)]; exact hut
  have f6 : C1 (x + 4) = .inl (0, 60, .inl ce) := by rw [eC1, va_up_ne _ _ (by omega)]; exact hce
  refine gj_aload_n d_Ra_takeStep_70 rfl ?_
  refine gj_get d_Ra_takeStep_71 gf_Ra_15 f2 rfl ?_
  refine gj_aload_n d_Ra_takeStep_74 rfl ?_
  refine gj_get d_Ra_takeStep_75 gf_Ra_43 f2 rfl ?_
  refine gj_iload d_Ra_takeStep_78 rfl ?_
  refine gj_iast d_Ra_takeStep_80 f4 rfl (vp_in_nI (by omega) (by decide)) ?_
  obtain ⟨C7, eC7⟩ : ∃ z, z = va_up C1 (x + 2) (.inl (0, 60, .inl (upd ab (sp) (pr_hv la ut (a * 10 + b) sp 0 0)))) := ⟨_, rfl⟩
  refine gj_mem (eC7.trans (by rw [nI_clamp (by omega)])) ?_
  have f8 : C7 (x) = .inr (2, [.ref (x + 1), .ref (x + 2), .ref (x + 3), .ref (x + 4), .ref (x + 5), .ref (x + 6), .ref (x + 7), .ref (x + 8), .int (nI li), .int (nI sp)]) := by rw [eC7, va_up_ne _ _ (by omega)]; exact f2
  have f9 : C7 (x + 1) = .inl (0, 60, .inl (upd la (sp) (a * 10 + b))) := by rw [eC7, va_up_ne _ _ (by omega)]; exact f3
  have f10 : C7 (x + 2) = .inl (0, 60, .inl (upd ab (sp) (pr_hv la ut (a * 10 + b) sp 0 0))) := by rw [eC7]; exact va_up_self _ _ _
  have f11 : C7 (x + 3) = .inl (0, 60, .inl ut) := by rw [eC7, va_up_ne _ _ (by omega)]; exact f5
  have f12 : C7 (x + 4) = .inl (0, 60, .inl ce) := by rw [eC7, va_up_ne _ _ (by omega)]; exact f6
  refine gj_aload_n d_Ra_takeStep_81 rfl ?_
  refine gj_get d_Ra_takeStep_82 gf_Ra_18 f8 rfl ?_
  refine gj_aload_n d_Ra_takeStep_85 rfl ?_
  refine gj_get d_Ra_takeStep_86 gf_Ra_43 f8 rfl ?_
  refine gj_iload_n d_Ra_takeStep_89 rfl ?_
  refine gj_iast d_Ra_takeStep_90 f11 rfl (vp_in_nI (by omega) (by decide)) ?_
  obtain ⟨C13, eC13⟩ : ∃ z, z = va_up C7 (x + 3) (.inl (0, 60, .inl (upd ut (sp) (c)))) := ⟨_, rfl⟩
  refine gj_mem (eC13.trans (by rw [nI_clamp (by omega)])) ?_
  have f14 : C13 (x) = .inr (2, [.ref (x + 1), .ref (x + 2), .ref (x + 3), .ref (x + 4), .ref (x + 5), .ref (x + 6), .ref (x + 7), .ref (x + 8), .int (nI li), .int (nI sp)]) := by rw [eC13, va_up_ne _ _ (by omega)]; exact f8
  have f15 : C13 (x + 1) = .inl (0, 60, .inl (upd la (sp) (a * 10 + b))) := by rw [eC13, va_up_ne _ _ (by omega)]; exact f9
  have f16 : C13 (x + 2) = .inl (0, 60, .inl (upd ab (sp) (pr_hv la ut (a * 10 + b) sp 0 0))) := by rw [eC13, va_up_ne _ _ (by omega)]; exact f10
  have f17 : C13 (x + 3) = .inl (0, 60, .inl (upd ut (sp) (c))) := by rw [eC13]; exact va_up_self _ _ _
  have f18 : C13 (x + 4) = .inl (0, 60, .inl ce) := by rw [eC13, va_up_ne _ _ (by omega)]; exact f12
  refine gj_aload_n d_Ra_takeStep_91 rfl ?_
  refine gj_get d_Ra_takeStep_92 gf_Ra_21 f14 rfl ?_
  refine gj_aload_n d_Ra_takeStep_95 rfl ?_
  refine gj_get d_Ra_takeStep_96 gf_Ra_43 f14 rfl ?_
  refine gj_iload d_Ra_takeStep_99 rfl ?_
  refine gj_iast d_Ra_takeStep_101 f18 rfl (vp_in_nI (by omega) (by decide)) ?_
  obtain ⟨C19, eC19⟩ : ∃ z, z = va_up C13 (x + 4) (.inl (0, 60, .inl (upd ce (sp) (e)))) := ⟨_, rfl⟩
  refine gj_mem (eC19.trans (by rw [nI_clamp (by omega)])) ?_
  have f20 : C19 (x) = .inr (2, [.ref (x + 1), .ref (x + 2), .ref (x + 3), .ref (x + 4), .ref (x + 5), .ref (x + 6), .ref (x + 7), .ref (x + 8), .int (nI li), .int (nI sp)]) := by rw [eC19, va_up_ne _ _ (by omega)]; exact f14
  have f21 : C19 (x + 1) = .inl (0, 60, .inl (upd la (sp) (a * 10 + b))) := by rw [eC19, va_up_ne _ _ (by omega)]; exact f15
  have f22 : C19 (x + 2) = .inl (0, 60, .inl (upd ab (sp) (pr_hv la ut (a * 10 + b) sp 0 0))) := by rw [eC19, va_up_ne _ _ (by omega)]; exact f16
  have f23 : C19 (x + 3) = .inl (0, 60, .inl (upd ut (sp) (c))) := by rw [eC19, va_up_ne _ _ (by omega)]; exact f17
  have f24 : C19 (x + 4) = .inl (0, 60, .inl (upd ce (sp) (e))) := by rw [eC19]; exact va_up_self _ _ _
  refine gj_aload_n d_Ra_takeStep_102 rfl ?_
  refine gj_dup d_Ra_takeStep_103 rfl ?_
  refine gj_get d_Ra_takeStep_104 gf_Ra_43 f20 rfl ?_
  refine gj_kc (v := 1) d_Ra_takeStep_107 (by decide) ?_
  refine gj_iadd d_Ra_takeStep_108 ?_
  refine gj_top (y := nI (sp + 1)) (nI_add (sp) (1)) ?_
  refine gj_put d_Ra_takeStep_109 gp_Ra_43 f20 (Nat.le_of_ble_eq_true rfl) (fun _ => rfl) (fun _ => rfl) ?_
  obtain ⟨C25, eC25⟩ : ∃ z, z = va_up C19 (x) (.inr (2, [.ref (x + 1), .ref (x + 2), .ref (x + 3), .ref (x + 4), .ref (x + 5), .ref (x + 6), .ref (x + 7), .ref (x + 8), .int (nI li), .int (nI (sp + 1))])) := ⟨_, rfl⟩
  refine gj_mem eC25 ?_
  have f26 : C25 (x) = .inr (2, [.ref (x + 1), .ref (x + 2), .ref (x + 3), .ref (x + 4), .ref (x + 5), .ref (x + 6), .ref (x + 7), .ref (x + 8), .int (nI li), .int (nI (sp + 1))]) := by rw [eC25]; exact va_up_self _ _ _
  have f27 : C25 (x + 1) = .inl (0, 60, .inl (upd la (sp) (a * 10 + b))) := by rw [eC25, va_up_ne _ _ (by omega)]; exact f21
  have f28 : C25 (x + 2) = .inl (0, 60, .inl (upd ab (sp) (pr_hv la ut (a * 10 + b) sp 0 0))) := by rw [eC25, va_up_ne _ _ (by omega)]; exact f22
  have f29 : C25 (x + 3) = .inl (0, 60, .inl (upd ut (sp) (c))) := by rw [eC25, va_up_ne _ _ (by omega)]; exact f23
  have f30 : C25 (x + 4) = .inl (0, 60, .inl (upd ce (sp) (e))) := by rw [eC25, va_up_ne _ _ (by omega)]; exact f24
  refine gj_kc (v := 1) d_Ra_takeStep_112 (by decide) ?_
  refine gj_zret rfl (by first | exact Or.inl rfl | exact Or.inr rfl) (Nat.zero_le _) (Nat.zero_le _) d_Ra_takeStep_113 ?_
  exact ⟨rfl, rfl, f26, f27, f28, f29, f30, fun y g0 g1 g2 g3 g4 => by show C25 y = C y; rw [eC25, va_up_ne _ _ g0, eC19, va_up_ne _ _ g4, eC13, va_up_ne _ _ g3, eC7, va_up_ne _ _ g2, eC1, va_up_ne _ _ g1]⟩
set_option maxHeartbeats 2000000 in
theorem c_Ra_takeStep_no {d K N n x li sp : Nat} {C : Nat → va_E} {la ab ut ce : Nat → Int32} (hx : C (x) = .inr (2, [.ref (x + 1), .ref (x + 2), .ref (x + 3), .ref (x + 4), .ref (x + 5), .ref (x + 6), .ref (x + 7), .ref (x + 8), .int (nI li), .int (nI sp)])) (hla : C (x + 1) = .inl (0, 60, .inl la)) (hab : C (x + 2) = .inl (0, 60, .inl ab)) (hut : C (x + 3) = .inl (0, 60, .inl ut)) (hce : C (x + 4) = .inl (0, 60, .inl ce)) {a b c e : Int32} (h60 : sp < 60) (ok : ¬ (a < 10 ∧ b < 10 ∧ c ≤ 100000 ∧ e ≤ 1000000 ∧ pr_hv la ut (a * 10 + b) sp 0 0 < c)) : gj_G md_Ra_takeStep (d + 1) K N 0 0 0 [(0, .ref (x)), (1, .int (a)), (2, .int (b)), (3, .int (c)), (4, .int (e))] [] n C (fun r => r = (gj_iv 0, n, C)) := by
  refine gj_iload_n d_Ra_takeStep_0 rfl ?_
  refine gj_kb (v := 10) d_Ra_takeStep_1 (by decide) ?_
  refine gj_icmp_ge (tgt := 25) d_Ra_takeStep_3 (by decide) (fun h3 => ?_) (fun h3 => ?_)
  · refine gj_kc (v := 0) d_Ra_takeStep_25 (by decide) ?_
    refine gj_zret rfl (by first | exact Or.inl rfl | exact Or.inr rfl) (Nat.zero_le _) (Nat.zero_le _) d_Ra_takeStep_26 ?_
    exact rfl
  · refine gj_iload_n d_Ra_takeStep_6 rfl ?_
    refine gj_kb (v := 10) d_Ra_takeStep_7 (by decide) ?_
    refine gj_icmp_ge (tgt := 25) d_Ra_takeStep_9 (by decide) (fun h9 => ?_) (fun h9 => ?_)
    · refine gj_kc (v := 0) d_Ra_takeStep_25 (by decide) ?_
      refine gj_zret rfl (by first | exact Or.inl rfl | exact Or.inr rfl) (Nat.zero_le _) (Nat.zero_le _) d_Ra_takeStep_26 ?_
      exact rfl
    · refine gj_iload_n d_Ra_takeStep_12 rfl ?_
      refine gj_ldc d_Ra_takeStep_13 gw_201 ?_
      refine gj_icmp_gt (tgt := 25) d_Ra_takeStep_15 (by decide) (fun h15 => ?_) (fun h15 => ?_)
      · refine gj_kc (v := 0) d_Ra_takeStep_25 (by decide) ?_
        refine gj_zret rfl (by first | exact Or.inl rfl | exact Or.inr rfl) (Nat.zero_le _) (Nat.zero_le _) d_Ra_takeStep_26 ?_
        exact rfl
      · refine gj_iload d_Ra_takeStep_18 rfl ?_
        refine gj_ldc d_Ra_takeStep_20 gw_202 ?_
        refine gj_icmp_le (tgt := 27) d_Ra_takeStep_22 (by decide) (fun h22 => ?_) (fun h22 => ?_)
        · refine gj_iload_n d_Ra_takeStep_27 rfl ?_
          refine gj_iload_n d_Ra_takeStep_28 rfl ?_
          refine gj_callSN (as := [.int (a), .int (b)]) (rest := []) (K1 := 0) (N1 := 0) d_Ra_takeStep_29 mo_RB_laneOf gw_203 gw_204 gw_20 pl_RB_laneOf (Nat.le_of_ble_eq_true rfl) (Nat.le_of_ble_eq_true rfl) (Nat.zero_le _) (Nat.zero_le _) (c_RB_laneOf a b) (fun E n' C' _ h => by cases h) (fun v n' C' _ h => ?_)
          cases h
          refine gj_istore d_Ra_takeStep_32 (by decide) ?_
          refine gj_aload_n d_Ra_takeStep_34 rfl ?_
          refine gj_iload d_Ra_takeStep_35 rfl ?_
          refine gj_callV (as := [.int (a * 10 + b)]) (rest := []) (K1 := 0) (N1 := 0) d_Ra_takeStep_37 mo_Ra_heaviest gw_206 gw_208 gw_4 hx rfl pl_Ra_heaviest (Nat.le_of_ble_eq_true rfl) (Nat.le_of_ble_eq_true rfl) (Nat.zero_le _) (Nat.zero_le _) (c_Ra_heaviest hx hla hut (by omega)) (fun E n' C' _ h => by cases h) (fun v n' C' _ h => ?_)
          cases h
          refine gj_istore d_Ra_takeStep_40 (by decide) ?_
          refine gj_iload_n d_Ra_takeStep_42 rfl ?_
          refine gj_iload d_Ra_takeStep_43 rfl ?_
          refine gj_icmp_le (tgt := 57) d_Ra_takeStep_45 (by decide) (fun h45 => ?_) (fun h45 => ?_)
          · refine gj_kc (v := 0) d_Ra_takeStep_57 (by decide) ?_
            refine gj_zret rfl (by first | exact Or.inl rfl | exact Or.inr rfl) (Nat.zero_le _) (Nat.zero_le _) d_Ra_takeStep_58 ?_
            exact rfl
          · refine gj_aload_n d_Ra_takeStep_48 rfl ?_
            refine gj_get d_Ra_takeStep_49 gf_Ra_43 hx rfl ?_
            refine gj_kb (v := 60) d_Ra_takeStep_52 (by decide) ?_
            refine gj_icmp_lt (tgt := 59) d_Ra_takeStep_54 (by decide) (fun h54 => ?_) (fun h54 => by have m54 : ¬ (sp < 60) := fun q => h54 ((nI_ltI (a := sp) (b := 60) (by omega) (by omega)).mpr q); exact absurd (show sp < 60 from by omega) m54)
            have m54 : sp < 60 := (nI_ltI (a := sp) (b := 60) (by omega) (by omega)).mp h54
            exact absurd ⟨Int32.not_le.mp h3, Int32.not_le.mp h9, Int32.not_lt.mp h15, h22, Int32.not_le.mp h45⟩ ok
        · refine gj_kc (v := 0) d_Ra_takeStep_25 (by decide) ?_
          refine gj_zret rfl (by first | exact Or.inl rfl | exact Or.inr rfl) (Nat.zero_le _) (Nat.zero_le _) d_Ra_takeStep_26 ?_
          exact rfl
set_option maxHeartbeats 2000000 in
theorem c_Ra_takeKind {d K N n x y li sp j : Nat} {C : Nat → va_E} {la ab ut ce dv mi fu fd g : Nat → Int32} (hx : C (x) = .inr (2, [.ref (x + 1), .ref (x + 2), .ref (x + 3), .ref (x + 4), .ref (x + 5), .ref (x + 6), .ref (x + 7), .ref (x + 8), .int (nI li), .int (nI sp)])) (hla : C (x + 1) = .inl (0, 60, .inl la)) (hab : C (x + 2) = .inl (0, 60, .inl ab)) (hut : C (x + 3) = .inl (0, 60, .inl ut)) (hce : C (x + 4) = .inl (0, 60, .inl ce)) (hdv : C (x + 5) = .inl (0, 10, .inl dv)) (hmi : C (x + 6) = .inl (0, 10, .inl mi)) (hfu : C (x + 7) = .inl (0, 10, .inl fu)) (hfd : C (x + 8) = .inl (0, 10, .inl fd)) (hy : C (y) = .inl (0, 4, .inl g)) {L : Int32} (hxy : y < x ∨ x + 8 < y) (h60 : sp < 60) (hj : g 0 = nI j) (hjb : j < 2 ^ 31) : gj_G md_Ra_takeKind (d + 2) K N 0 0 0 [(0, .ref (x)), (1, .int (L)), (2, .ref (y))] [] n C (fun r => r.2.1 = n ∧ (∀ z, z < x ∨ x + 8 < z → r.2.2 z = C z) ∧ ((pr_ok L j (g 1) (g 2) (g 3) (la, ab, ut, ce, dv, mi, fu, fd, sp) ∧ r.1 = gj_iv 1 ∧ pr_M r.2.2 x (pr_nx L j (g 1) (g 2) (g 3) (la, ab, ut, ce, dv, mi, fu, fd, sp)) (nI li)) ∨ (¬ pr_ok L j (g 1) (g 2) (g 3) (la, ab, ut, ce, dv, mi, fu, fd, sp) ∧ r.1 = gj_iv 0 ∧ ∃ T2 l2, pr_M r.2.2 x T2 l2))) := by
  refine gj_aload_n d_Ra_takeKind_0 rfl ?_
  refine gj_kc (v := 0) d_Ra_takeKind_1 (by decide) ?_
  refine gj_iald d_Ra_takeKind_2 hy rfl (vp_in_nI (n := 0) (by omega) (by decide)) ?_
  refine gj_top (y := g 0) (congrArg g (by decide)) ?_
  refine gj_top hj ?_
  refine gj_istore_n d_Ra_takeKind_3 (by decide) ?_
  refine gj_iload_n d_Ra_takeKind_4 rfl ?_
  -- switch
  by_cases s5_0 : L = 68
  · refine gj_lookup (off := 58) (tgt := 63) d_Ra_takeKind_5 (by decide) (by rw [s5_0]; decide) (by decide) ?_
    refine gj_aload_n d_Ra_takeKind_63 rfl ?_
    refine gj_get d_Ra_takeKind_64 gf_Ra_24 hx rfl ?_
    refine gj_iload_n d_Ra_takeKind_67 rfl ?_
    refine gj_aload_n d_Ra_takeKind_68 rfl ?_
    refine gj_kc (v := 1) d_Ra_takeKind_69 (by decide) ?_
    refine gj_iald d_Ra_takeKind_70 hy rfl (vp_in_nI (n := 1) (by omega) (by decide)) ?_
    refine gj_top (y := g 1) (congrArg g (by decide)) ?_
    refine gj_ldc d_Ra_takeKind_71 gw_201 ?_
    by_cases q73 : j < 10 ∧ dv j = -1 ∧ g 1 ≤ 100000
    · refine gj_callS (as := [.ref (x + 5), .int (nI j), .int (g 1), .int (100000)]) (rest := []) (K1 := 0) (N1 := 0) d_Ra_takeKind_73 mo_Ra_takeOnce gw_210 gw_211 gw_22 pl_Ra_takeOnce (Nat.le_of_ble_eq_true rfl) (Nat.le_of_ble_eq_true rfl) (Nat.zero_le _) (Nat.zero_le _) (c_Ra_takeOnce hdv q73.1 q73.2.1 q73.2.2) (fun E n' C' _ h => by obtain ⟨hv, -⟩ := h; exact nomatch hv) (fun v1 n1 C1 _ h1 => ?_)
      obtain ⟨hv1, hn1, u1_0, hr1⟩ := h1
      dsimp only [gj_iv, gj_vv, gj_lv2] at hv1 hn1 hr1 u1_0
      cases hv1; cases hn1
      have f2 : C1 (x) = .inr (2, [.ref (x + 1), .ref (x + 2), .ref (x + 3), .ref (x + 4), .ref (x + 5), .ref (x + 6), .ref (x + 7), .ref (x + 8), .int (nI li), .int (nI sp)]) := (hr1 _ (by omega)).trans hx
      have f3 : C1 (x + 1) = .inl (0, 60, .inl la) := (hr1 _ (by omega)).trans hla
      have f4 : C1 (x + 2) = .inl (0, 60, .inl ab) := (hr1 _ (by omega)).trans hab
      have f5 : C1 (x + 3) = .inl (0, 60, .inl ut) := (hr1 _ (by omega)).trans hut
      have f6 : C1 (x + 4) = .inl (0, 60, .inl ce) := (hr1 _ (by omega)).trans hce
      have f7 : C1 (x + 6) = .inl (0, 10, .inl mi) := (hr1 _ (by omega)).trans hmi
      have f8 : C1 (x + 7) = .inl (0, 10, .inl fu) := (hr1 _ (by omega)).trans hfu
      have f9 : C1 (x + 8) = .inl (0, 10, .inl fd) := (hr1 _ (by omega)).trans hfd
      have f10 : C1 (y) = .inl (0, 4, .inl g) := (hr1 _ (by omega)).trans hy
      refine gj_zret rfl (by first | exact Or.inl rfl | exact Or.inr rfl) (Nat.zero_le _) (Nat.zero_le _) d_Ra_takeKind_76 ?_
      subst s5_0
      exact ⟨rfl, fun z hz => (hr1 z (by omega)).trans (rfl), Or.inl ⟨Or.inr (Or.inl ⟨rfl, q73.1, q73.2.1, q73.2.2⟩), rfl, ⟨f2, f3, f4, f5, f6, u1_0, f7, f8, f9⟩⟩⟩
    · refine gj_callS (as := [.ref (x + 5), .int (nI j), .int (g 1), .int (100000)]) (rest := []) (K1 := 0) (N1 := 0) d_Ra_takeKind_73 mo_Ra_takeOnce gw_210 gw_211 gw_22 pl_Ra_takeOnce (Nat.le_of_ble_eq_true rfl) (Nat.le_of_ble_eq_true rfl) (Nat.zero_le _) (Nat.zero_le _) (c_Ra_takeOnce_no hdv hjb q73) (fun E n' C' _ h => by cases h) (fun v n' C' _ h => ?_)
      cases h
      refine gj_zret rfl (by first | exact Or.inl rfl | exact Or.inr rfl) (Nat.zero_le _) (Nat.zero_le _) d_Ra_takeKind_76 ?_
      have hno : ¬ pr_ok L j (g 1) (g 2) (g 3) (la, ab, ut, ce, dv, mi, fu, fd, sp) := by
        intro p
        subst s5_0
        rcases p with p | p | p | p
        · exact absurd p.1 (by decide)
        · exact q73 ⟨p.2.1, p.2.2.1, p.2.2.2⟩
        · exact absurd p.1 (by decide)
        · exact absurd p.1 (by decide)
      exact ⟨rfl, fun _ _ => rfl, Or.inr ⟨fun q => hno q, rfl, (la, ab, ut, ce, dv, mi, fu, fd, sp), nI li, ⟨hx, hla, hab, hut, hce, hdv, hmi, hfu, hfd⟩⟩⟩
  · by_cases s5_1 : L = 70
    · refine gj_lookup (off := 86) (tgt := 91) d_Ra_takeKind_5 (by decide) (by rw [s5_1]; decide) (by decide) ?_
      refine gj_aload_n d_Ra_takeKind_91 rfl ?_
      refine gj_kc (v := 2) d_Ra_takeKind_92 (by decide) ?_
      refine gj_iald d_Ra_takeKind_93 hy rfl (vp_in_nI (n := 2) (by omega) (by decide)) ?_
      refine gj_top (y := g 2) (congrArg g (by decide)) ?_
      refine gj_kc (v := 1) d_Ra_takeKind_94 (by decide) ?_
      refine gj_icmp_lt (tgt := 136) d_Ra_takeKind_95 (by decide) (fun h95 => ?_) (fun h95 => ?_)
      · refine gj_kc (v := 0) d_Ra_takeKind_136 (by decide) ?_
        refine gj_zret rfl (by first | exact Or.inl rfl | exact Or.inr rfl) (Nat.zero_le _) (Nat.zero_le _) d_Ra_takeKind_137 ?_
        have hno : ¬ pr_ok L j (g 1) (g 2) (g 3) (la, ab, ut, ce, dv, mi, fu, fd, sp) := by
          intro p
          subst s5_1
          rcases p with p | p | p | p
          · exact absurd p.1 (by decide)
          · exact absurd p.1 (by decide)
          · exact absurd p.1 (by decide)
          · exact absurd p.2.2.1 (Int32.not_le.mpr h95)
        exact ⟨rfl, fun _ _ => rfl, Or.inr ⟨fun q => hno q, rfl, (la, ab, ut, ce, dv, mi, fu, fd, sp), nI li, ⟨hx, hla, hab, hut, hce, hdv, hmi, hfu, hfd⟩⟩⟩
      · refine gj_aload_n d_Ra_takeKind_98 rfl ?_
        refine gj_get d_Ra_takeKind_99 gf_Ra_33 hx rfl ?_
        refine gj_iload_n d_Ra_takeKind_102 rfl ?_
        refine gj_aload_n d_Ra_takeKind_103 rfl ?_
        refine gj_kc (v := 2) d_Ra_takeKind_104 (by decide) ?_
        refine gj_iald d_Ra_takeKind_105 hy rfl (vp_in_nI (n := 2) (by omega) (by decide)) ?_
        refine gj_top (y := g 2) (congrArg g (by decide)) ?_
        refine gj_ks (v := 1000) d_Ra_takeKind_106 (by decide) ?_
        by_cases q109 : j < 10 ∧ fd j = -1 ∧ g 2 ≤ 1000
        · refine gj_callS (as := [.ref (x + 8), .int (nI j), .int (g 2), .int (1000)]) (rest := []) (K1 := 0) (N1 := 0) d_Ra_takeKind_109 mo_Ra_takeOnce gw_210 gw_211 gw_22 pl_Ra_takeOnce (Nat.le_of_ble_eq_true rfl) (Nat.le_of_ble_eq_true rfl) (Nat.zero_le _) (Nat.zero_le _) (c_Ra_takeOnce hfd q109.1 q109.2.1 q109.2.2) (fun E n' C' _ h => by obtain ⟨hv, -⟩ := h; exact nomatch hv) (fun v11 n11 C11 _ h11 => ?_)
          obtain ⟨hv11, hn11, u11_0, hr11⟩ := h11
          dsimp only [gj_iv, gj_vv, gj_lv2] at hv11 hn11 hr11 u11_0
          cases hv11; cases hn11
          have f12 : C11 (x) = .inr (2, [.ref (x + 1), .ref (x + 2), .ref (x + 3), .ref (x + 4), .ref (x + 5), .ref (x + 6), .ref (x + 7), .ref (x + 8), .int (nI li), .int (nI sp)]) := (hr11 _ (by omega)).trans hx
          have f13 : C11 (x + 1) = .inl (0, 60, .inl la) := (hr11 _ (by omega)).trans hla
          have f14 : C11 (x + 2) = .inl (0, 60, .inl ab) := (hr11 _ (by omega)).trans hab
          have f15 : C11 (x + 3) = .inl (0, 60, .inl ut) := (hr11 _ (by omega)).trans hut
          have f16 : C11 (x + 4) = .inl (0, 60, .inl ce) := (hr11 _ (by omega)).trans hce
          have f17 : C11 (x + 5) = .inl (0, 10, .inl dv) := (hr11 _ (by omega)).trans hdv
          have f18 : C11 (x + 6) = .inl (0, 10, .inl mi) := (hr11 _ (by omega)).trans hmi
          have f19 : C11 (x + 7) = .inl (0, 10, .inl fu) := (hr11 _ (by omega)).trans hfu
          have f20 : C11 (y) = .inl (0, 4, .inl g) := (hr11 _ (by omega)).trans hy
          refine gj_if_eq (tgt := 136) d_Ra_takeKind_112 (by decide) (fun h112 => absurd h112 (by decide)) (fun h112 => ?_)
          refine gj_aload_n d_Ra_takeKind_115 rfl ?_
          refine gj_get d_Ra_takeKind_116 gf_Ra_30 f12 rfl ?_
          refine gj_iload_n d_Ra_takeKind_119 rfl ?_
          refine gj_aload_n d_Ra_takeKind_120 rfl ?_
          refine gj_kc (v := 1) d_Ra_takeKind_121 (by decide) ?_
          refine gj_iald d_Ra_takeKind_122 f20 rfl (vp_in_nI (n := 1) (by omega) (by decide)) ?_
          refine gj_top (y := g 1) (congrArg g (by decide)) ?_
          refine gj_aload_n d_Ra_takeKind_123 rfl ?_
          refine gj_kc (v := 2) d_Ra_takeKind_124 (by decide) ?_
          refine gj_iald d_Ra_takeKind_125 f20 rfl (vp_in_nI (n := 2) (by omega) (by decide)) ?_
          refine gj_top (y := g 2) (congrArg g (by decide)) ?_
          by_cases q126 : j < 10 ∧ fu j = -1 ∧ g 1 ≤ g 2
          · refine gj_callS (as := [.ref (x + 7), .int (nI j), .int (g 1), .int (g 2)]) (rest := []) (K1 := 0) (N1 := 0) d_Ra_takeKind_126 mo_Ra_takeOnce gw_210 gw_211 gw_22 pl_Ra_takeOnce (Nat.le_of_ble_eq_true rfl) (Nat.le_of_ble_eq_true rfl) (Nat.zero_le _) (Nat.zero_le _) (c_Ra_takeOnce f19 q126.1 q126.2.1 q126.2.2) (fun E n' C' _ h => by obtain ⟨hv, -⟩ := h; exact nomatch hv) (fun v21 n21 C21 _ h21 => ?_)
            obtain ⟨hv21, hn21, u21_0, hr21⟩ := h21
            dsimp only [gj_iv, gj_vv, gj_lv2] at hv21 hn21 hr21 u21_0
            cases hv21; cases hn21
            have f22 : C21 (x + 8) = .inl (0, 10, .inl (upd fd j (g 2))) := (hr21 _ (by omega)).trans u11_0
            have f23 : C21 (x) = .inr (2, [.ref (x + 1), .ref (x + 2), .ref (x + 3), .ref (x + 4), .ref (x + 5), .ref (x + 6), .ref (x + 7), .ref (x + 8), .int (nI li), .int (nI sp)]) := (hr21 _ (by omega)).trans f12
            have f24 : C21 (x + 1) = .inl (0, 60, .inl la) := (hr21 _ (by omega)).trans f13
            have f25 : C21 (x + 2) = .inl (0, 60, .inl ab) := (hr21 _ (by omega)).trans f14
            have f26 : C21 (x + 3) = .inl (0, 60, .inl ut) := (hr21 _ (by omega)).trans f15
            have f27 : C21 (x + 4) = .inl (0, 60, .inl ce) := (hr21 _ (by omega)).trans f16
            have f28 : C21 (x + 5) = .inl (0, 10, .inl dv) := (hr21 _ (by omega)).trans f17
            have f29 : C21 (x + 6) = .inl (0, 10, .inl mi) := (hr21 _ (by omega)).trans f18
            have f30 : C21 (y) = .inl (0, 4, .inl g) := (hr21 _ (by omega)).trans f20
            refine gj_if_eq (tgt := 136) d_Ra_takeKind_129 (by decide) (fun h129 => absurd h129 (by decide)) (fun h129 => ?_)
            refine gj_kc (v := 1) d_Ra_takeKind_132 (by decide) ?_
            refine gj_goto (tgt := 137) d_Ra_takeKind_133 (by decide) ?_
            refine gj_zret rfl (by first | exact Or.inl rfl | exact Or.inr rfl) (Nat.zero_le _) (Nat.zero_le _) d_Ra_takeKind_137 ?_
            subst s5_1
            exact ⟨rfl, fun z hz => (hr21 z (by omega)).trans ((hr11 z (by omega)).trans (rfl)), Or.inl ⟨Or.inr (Or.inr (Or.inr ⟨rfl, q109.1, Int32.not_lt.mp h95, q109.2.1, q109.2.2, q126.2.1, q126.2.2⟩)), rfl, ⟨f23, f24, f25, f26, f27, f28, f29, u21_0, f22⟩⟩⟩
          · refine gj_callS (as := [.ref (x + 7), .int (nI j), .int (g 1), .int (g 2)]) (rest := []) (K1 := 0) (N1 := 0) d_Ra_takeKind_126 mo_Ra_takeOnce gw_210 gw_211 gw_22 pl_Ra_takeOnce (Nat.le_of_ble_eq_true rfl) (Nat.le_of_ble_eq_true rfl) (Nat.zero_le _) (Nat.zero_le _) (c_Ra_takeOnce_no f19 hjb q126) (fun E n' C' _ h => by cases h) (fun v n' C' _ h => ?_)
            cases h
            refine gj_if_eq (tgt := 136) d_Ra_takeKind_129 (by decide) (fun h129 => ?_) (fun h129 => absurd (rfl) h129)
            refine gj_kc (v := 0) d_Ra_takeKind_136 (by decide) ?_
            refine gj_zret rfl (by first | exact Or.inl rfl | exact Or.inr rfl) (Nat.zero_le _) (Nat.zero_le _) d_Ra_takeKind_137 ?_
            have hno : ¬ pr_ok L j (g 1) (g 2) (g 3) (la, ab, ut, ce, dv, mi, fu, fd, sp) := by
              intro p
              subst s5_1
              rcases p with p | p | p | p
              · exact absurd p.1 (by decide)
              · exact absurd p.1 (by decide)
              · exact absurd p.1 (by decide)
              · exact q126 ⟨p.2.1, p.2.2.2.2.2.1, p.2.2.2.2.2.2⟩
            exact ⟨rfl, fun z hz => (hr11 z (by omega)).trans (rfl), Or.inr ⟨fun q => hno q, rfl, (la, ab, ut, ce, dv, mi, fu, (upd fd j (g 2)), sp), nI li, ⟨f12, f13, f14, f15, f16, f17, f18, f19, u11_0⟩⟩⟩
        · refine gj_callS (as := [.ref (x + 8), .int (nI j), .int (g 2), .int (1000)]) (rest := []) (K1 := 0) (N1 := 0) d_Ra_takeKind_109 mo_Ra_takeOnce gw_210 gw_211 gw_22 pl_Ra_takeOnce (Nat.le_of_ble_eq_true rfl) (Nat.le_of_ble_eq_true rfl) (Nat.zero_le _) (Nat.zero_le _) (c_Ra_takeOnce_no hfd hjb q109) (fun E n' C' _ h => by cases h) (fun v n' C' _ h => ?_)
          cases h
          refine gj_if_eq (tgt := 136) d_Ra_takeKind_112 (by decide) (fun h112 => ?_) (fun h112 => absurd (rfl) h112)
          refine gj_kc (v := 0) d_Ra_takeKind_136 (by decide) ?_
          refine gj_zret rfl (by first | exact Or.inl rfl | exact Or.inr rfl) (Nat.zero_le _) (Nat.zero_le _) d_Ra_takeKind_137 ?_
          have hno : ¬ pr_ok L j (g 1) (g 2) (g 3) (la, ab, ut, ce, dv, mi, fu, fd, sp) := by
            intro p
            subst s5_1
            rcases p with p | p | p | p
            · exact absurd p.1 (by decide)
            · exact absurd p.1 (by decide)
            · exact absurd p.1 (by decide)
            · exact q109 ⟨p.2.1, p.2.2.2.1, p.2.2.2.2.1⟩
          exact ⟨rfl, fun _ _ => rfl, Or.inr ⟨fun q => hno q, rfl, (la, ab, ut, ce, dv, mi, fu, fd, sp), nI li, ⟨hx, hla, hab, hut, hce, hdv, hmi, hfu, hfd⟩⟩⟩
    · by_cases s5_2 : L = 77
      · refine gj_lookup (off := 72) (tgt := 77) d_Ra_takeKind_5 (by decide) (by rw [s5_2]; decide) (by decide) ?_
        refine gj_aload_n d_Ra_takeKind_77 rfl ?_
        refine gj_get d_Ra_takeKind_78 gf_Ra_27 hx rfl ?_
        refine gj_iload_n d_Ra_takeKind_81 rfl ?_
        refine gj_aload_n d_Ra_takeKind_82 rfl ?_
        refine gj_kc (v := 1) d_Ra_takeKind_83 (by decide) ?_
        refine gj_iald d_Ra_takeKind_84 hy rfl (vp_in_nI (n := 1) (by omega) (by decide)) ?_
        refine gj_top (y := g 1) (congrArg g (by decide)) ?_
        refine gj_ldc d_Ra_takeKind_85 gw_202 ?_
        by_cases q87 : j < 10 ∧ mi j = -1 ∧ g 1 ≤ 1000000
        · refine gj_callS (as := [.ref (x + 6), .int (nI j), .int (g 1), .int (1000000)]) (rest := []) (K1 := 0) (N1 := 0) d_Ra_takeKind_87 mo_Ra_takeOnce gw_210 gw_211 gw_22 pl_Ra_takeOnce (Nat.le_of_ble_eq_true rfl) (Nat.le_of_ble_eq_true rfl) (Nat.zero_le _) (Nat.zero_le _) (c_Ra_takeOnce hmi q87.1 q87.2.1 q87.2.2) (fun E n' C' _ h => by obtain ⟨hv, -⟩ := h; exact nomatch hv) (fun v31 n31 C31 _ h31 => ?_)
          obtain ⟨hv31, hn31, u31_0, hr31⟩ := h31
          dsimp only [gj_iv, gj_vv, gj_lv2] at hv31 hn31 hr31 u31_0
          cases hv31; cases hn31
          have f32 : C31 (x) = .inr (2, [.ref (x + 1), .ref (x + 2), .ref (x + 3), .ref (x + 4), .ref (x + 5), .ref (x + 6), .ref (x + 7), .ref (x + 8), .int (nI li), .int (nI sp)]) := (hr31 _ (by omega)).trans hx
          have f33 : C31 (x + 1) = .inl (0, 60, .inl la) := (hr31 _ (by omega)).trans hla
          have f34 : C31 (x + 2) = .inl (0, 60, .inl ab) := (hr31 _ (by omega)).trans hab
          have f35 : C31 (x + 3) = .inl (0, 60, .inl ut) := (hr31 _ (by omega)).trans hut
          have f36 : C31 (x + 4) = .inl (0, 60, .inl ce) := (hr31 _ (by omega)).trans hce
          have f37 : C31 (x + 5) = .inl (0, 10, .inl dv) := (hr31 _ (by omega)).trans hdv
          have f38 : C31 (x + 7) = .inl (0, 10, .inl fu) := (hr31 _ (by omega)).trans hfu
          have f39 : C31 (x + 8) = .inl (0, 10, .inl fd) := (hr31 _ (by omega)).trans hfd
          have f40 : C31 (y) = .inl (0, 4, .inl g) := (hr31 _ (by omega)).trans hy
          refine gj_zret rfl (by first | exact Or.inl rfl | exact Or.inr rfl) (Nat.zero_le _) (Nat.zero_le _) d_Ra_takeKind_90 ?_
          subst s5_2
          exact ⟨rfl, fun z hz => (hr31 z (by omega)).trans (rfl), Or.inl ⟨Or.inr (Or.inr (Or.inl ⟨rfl, q87.1, q87.2.1, q87.2.2⟩)), rfl, ⟨f32, f33, f34, f35, f36, f37, u31_0, f38, f39⟩⟩⟩
        · refine gj_callS (as := [.ref (x + 6), .int (nI j), .int (g 1), .int (1000000)]) (rest := []) (K1 := 0) (N1 := 0) d_Ra_takeKind_87 mo_Ra_takeOnce gw_210 gw_211 gw_22 pl_Ra_takeOnce (Nat.le_of_ble_eq_true rfl) (Nat.le_of_ble_eq_true rfl) (Nat.zero_le _) (Nat.zero_le _) (c_Ra_takeOnce_no hmi hjb q87) (fun E n' C' _ h => by cases h) (fun v n' C' _ h => ?_)
          cases h
          refine gj_zret rfl (by first | exact Or.inl rfl | exact Or.inr rfl) (Nat.zero_le _) (Nat.zero_le _) d_Ra_takeKind_90 ?_
          have hno : ¬ pr_ok L j (g 1) (g 2) (g 3) (la, ab, ut, ce, dv, mi, fu, fd, sp) := by
            intro p
            subst s5_2
            rcases p with p | p | p | p
            · exact absurd p.1 (by decide)
            · exact absurd p.1 (by decide)
            · exact q87 ⟨p.2.1, p.2.2.1, p.2.2.2⟩
            · exact absurd p.1 (by decide)
          exact ⟨rfl, fun _ _ => rfl, Or.inr ⟨fun q => hno q, rfl, (la, ab, ut, ce, dv, mi, fu, fd, sp), nI li, ⟨hx, hla, hab, hut, hce, hdv, hmi, hfu, hfd⟩⟩⟩
      · by_cases s5_3 : L = 82
        · refine gj_lookup (off := 43) (tgt := 48) d_Ra_takeKind_5 (by decide) (by rw [s5_3]; decide) (by decide) ?_
          refine gj_aload_n d_Ra_takeKind_48 rfl ?_
          refine gj_iload_n d_Ra_takeKind_49 rfl ?_
          refine gj_aload_n d_Ra_takeKind_50 rfl ?_
          refine gj_kc (v := 1) d_Ra_takeKind_51 (by decide) ?_
          refine gj_iald d_Ra_takeKind_52 hy rfl (vp_in_nI (n := 1) (by omega) (by decide)) ?_
          refine gj_top (y := g 1) (congrArg g (by decide)) ?_
          refine gj_aload_n d_Ra_takeKind_53 rfl ?_
          refine gj_kc (v := 2) d_Ra_takeKind_54 (by decide) ?_
          refine gj_iald d_Ra_takeKind_55 hy rfl (vp_in_nI (n := 2) (by omega) (by decide)) ?_
          refine gj_top (y := g 2) (congrArg g (by decide)) ?_
          refine gj_aload_n d_Ra_takeKind_56 rfl ?_
          refine gj_kc (v := 3) d_Ra_takeKind_57 (by decide) ?_
          refine gj_iald d_Ra_takeKind_58 hy rfl (vp_in_nI (n := 3) (by omega) (by decide)) ?_
          refine gj_top (y := g 3) (congrArg g (by decide)) ?_
          by_cases q59 : nI j < 10 ∧ g 1 < 10 ∧ g 2 ≤ 100000 ∧ g 3 ≤ 1000000 ∧ pr_hv la ut (nI j * 10 + g 1) sp 0 0 < g 2
          · refine gj_callV (as := [.int (nI j), .int (g 1), .int (g 2), .int (g 3)]) (rest := []) (K1 := 0) (N1 := 0) d_Ra_takeKind_59 mo_Ra_takeStep gw_197 gw_199 gw_3 hx rfl pl_Ra_takeStep (Nat.le_of_ble_eq_true rfl) (Nat.le_of_ble_eq_true rfl) (Nat.zero_le _) (Nat.zero_le _) (c_Ra_takeStep hx hla hab hut hce h60 q59) (fun E n' C' _ h => by obtain ⟨hv, -⟩ := h; exact nomatch hv) (fun v41 n41 C41 _ h41 => ?_)
            obtain ⟨hv41, hn41, u41_0, u41_1, u41_2, u41_3, u41_4, hr41⟩ := h41
            dsimp only [gj_iv, gj_vv, gj_lv2] at hv41 hn41 hr41 u41_0 u41_1 u41_2 u41_3 u41_4
            cases hv41; cases hn41
            have f42 : C41 (x + 5) = .inl (0, 10, .inl dv) := (hr41 _ (by omega) (by omega) (by omega) (by omega) (by omega)).trans hdv
            have f43 : C41 (x + 6) = .inl (0, 10, .inl mi) := (hr41 _ (by omega) (by omega) (by omega) (by omega) (by omega)).trans hmi
            have f44 : C41 (x + 7) = .inl (0, 10, .inl fu) := (hr41 _ (by omega) (by omega) (by omega) (by omega) (by omega)).trans hfu
            have f45 : C41 (x + 8) = .inl (0, 10, .inl fd) := (hr41 _ (by omega) (by omega) (by omega) (by omega) (by omega)).trans hfd
            have f46 : C41 (y) = .inl (0, 4, .inl g) := (hr41 _ (by omega) (by omega) (by omega) (by omega) (by omega)).trans hy
            refine gj_zret rfl (by first | exact Or.inl rfl | exact Or.inr rfl) (Nat.zero_le _) (Nat.zero_le _) d_Ra_takeKind_62 ?_
            subst s5_3
            exact ⟨rfl, fun z hz => (hr41 z (by omega) (by omega) (by omega) (by omega) (by omega)).trans (rfl), Or.inl ⟨Or.inl ⟨rfl, (nI_ltI hjb (by decide)).mp q59.1, q59.2⟩, rfl, ⟨u41_0, u41_1, u41_2, u41_3, u41_4, f42, f43, f44, f45⟩⟩⟩
          · refine gj_callV (as := [.int (nI j), .int (g 1), .int (g 2), .int (g 3)]) (rest := []) (K1 := 0) (N1 := 0) d_Ra_takeKind_59 mo_Ra_takeStep gw_197 gw_199 gw_3 hx rfl pl_Ra_takeStep (Nat.le_of_ble_eq_true rfl) (Nat.le_of_ble_eq_true rfl) (Nat.zero_le _) (Nat.zero_le _) (c_Ra_takeStep_no hx hla hab hut hce h60 q59) (fun E n' C' _ h => by cases h) (fun v n' C' _ h => ?_)
            cases h
            refine gj_zret rfl (by first | exact Or.inl rfl | exact Or.inr rfl) (Nat.zero_le _) (Nat.zero_le _) d_Ra_takeKind_62 ?_
            have hno : ¬ pr_ok L j (g 1) (g 2) (g 3) (la, ab, ut, ce, dv, mi, fu, fd, sp) := by
              intro p
              subst s5_3
              rcases p with p | p | p | p
              · exact q59 ⟨(nI_ltI (b := 10) hjb (by decide)).mpr p.2.1, p.2.2⟩
              · exact absurd p.1 (by decide)
              · exact absurd p.1 (by decide)
              · exact absurd p.1 (by decide)
            exact ⟨rfl, fun _ _ => rfl, Or.inr ⟨fun q => hno q, rfl, (la, ab, ut, ce, dv, mi, fu, fd, sp), nI li, ⟨hx, hla, hab, hut, hce, hdv, hmi, hfu, hfd⟩⟩⟩
        · refine gj_lookup (off := 133) (tgt := 138) d_Ra_takeKind_5 (by decide) (by rw [lv_osw s5_0 (by decide), lv_osw s5_1 (by decide), lv_osw s5_2 (by decide), lv_osw s5_3 (by decide)]; rfl) (by decide) ?_
          refine gj_kc (v := 0) d_Ra_takeKind_138 (by decide) ?_
          refine gj_zret rfl (by first | exact Or.inl rfl | exact Or.inr rfl) (Nat.zero_le _) (Nat.zero_le _) d_Ra_takeKind_139 ?_
          have hno : ¬ pr_ok L j (g 1) (g 2) (g 3) (la, ab, ut, ce, dv, mi, fu, fd, sp) := by
            intro p
            rcases p with p | p | p | p
            · exact s5_3 p.1
            · exact s5_0 p.1
            · exact s5_2 p.1
            · exact s5_1 p.1
          exact ⟨rfl, fun _ _ => rfl, Or.inr ⟨fun q => hno q, rfl, (la, ab, ut, ce, dv, mi, fu, fd, sp), nI li, ⟨hx, hla, hab, hut, hce, hdv, hmi, hfu, hfd⟩⟩⟩
set_option maxHeartbeats 2000000 in
theorem c_Ra_take {d K N n x y li sp j : Nat} {C : Nat → va_E} {la ab ut ce dv mi fu fd g : Nat → Int32} (hx : C (x) = .inr (2, [.ref (x + 1), .ref (x + 2), .ref (x + 3), .ref (x + 4), .ref (x + 5), .ref (x + 6), .ref (x + 7), .ref (x + 8), .int (nI li), .int (nI sp)])) (hla : C (x + 1) = .inl (0, 60, .inl la)) (hab : C (x + 2) = .inl (0, 60, .inl ab)) (hut : C (x + 3) = .inl (0, 60, .inl ut)) (hce : C (x + 4) = .inl (0, 60, .inl ce)) (hdv : C (x + 5) = .inl (0, 10, .inl dv)) (hmi : C (x + 6) = .inl (0, 10, .inl mi)) (hfu : C (x + 7) = .inl (0, 10, .inl fu)) (hfd : C (x + 8) = .inl (0, 10, .inl fd)) (hy : C (y) = .inl (0, 4, .inl g)) {L : Int32} (hxy : y < x ∨ x + 8 < y) (h60 : sp < 60) (hj : g 0 = nI j) (hjb : j < 2 ^ 31) : gj_G md_Ra_take (d + 3) K N 0 0 0 [(0, .ref (x)), (1, .int (L)), (2, .ref (y))] [] n C (fun r => r.2.1 = n ∧ (∀ z, z < x ∨ x + 8 < z → r.2.2 z = C z) ∧ ((pr_ok L j (g 1) (g 2) (g 3) (la, ab, ut, ce, dv, mi, fu, fd, sp) ∧ r.1 = gj_iv 1 ∧ pr_M r.2.2 x (pr_nx L j (g 1) (g 2) (g 3) (la, ab, ut, ce, dv, mi, fu, fd, sp)) (nI (li + 1))) ∨ (¬ pr_ok L j (g 1) (g 2) (g 3) (la, ab, ut, ce, dv, mi, fu, fd, sp) ∧ r.1 = gj_iv 0 ∧ ∃ T2 l2, pr_M r.2.2 x T2 l2))) := by
  refine gj_aload_n d_Ra_take_0 rfl ?_
  refine gj_alen d_Ra_take_1 hy rfl ?_
  refine gj_top (y := 4) rfl ?_
  refine gj_kc (v := 4) d_Ra_take_2 (by decide) ?_
  refine gj_icmp_lt (tgt := 15) d_Ra_take_3 (by decide) (fun h3 => absurd h3 (by decide)) (fun h3 => ?_)
  refine gj_aload_n d_Ra_take_6 rfl ?_
  refine gj_iload_n d_Ra_take_7 rfl ?_
  refine gj_aload_n d_Ra_take_8 rfl ?_
  refine gj_callV (as := [.int (L), .ref (y)]) (rest := []) (K1 := 0) (N1 := 0) d_Ra_take_9 mo_Ra_takeKind gw_193 gw_195 gw_2 hx rfl pl_Ra_takeKind (Nat.le_of_ble_eq_true rfl) (Nat.le_of_ble_eq_true rfl) (Nat.zero_le _) (Nat.zero_le _) (c_Ra_takeKind hx hla hab hut hce hdv hmi hfu hfd hy hxy h60 hj hjb) (fun E n2 C2 _ h => ?_) (fun v n2 C2 _ h => ?_)
  · obtain ⟨-, -, h | h⟩ := h
    · exact nomatch h.2.1
    · exact nomatch h.2.1
  obtain ⟨hn, hfr, h | h⟩ := h
  · obtain ⟨h0, hv, hM⟩ := h
    dsimp only [gj_iv] at hv hn
    cases hv; cases hn
    obtain ⟨k0, k1, k2, k3, k4, k5, k6, k7, k8⟩ := hM
    refine gj_if_ne (tgt := 17) d_Ra_take_12 (by decide) (fun h12 => ?_) (fun h12 => absurd h12 (by decide))
    refine gj_aload_n d_Ra_take_17 rfl ?_
    refine gj_dup d_Ra_take_18 rfl ?_
    refine gj_get d_Ra_take_19 gf_Ra_39 k0 rfl ?_
    refine gj_kc (v := 1) d_Ra_take_22 (by decide) ?_
    refine gj_iadd d_Ra_take_23 ?_
    refine gj_top (y := nI (li + 1)) (nI_add (li) (1)) ?_
    refine gj_put d_Ra_take_24 gp_Ra_39 k0 (Nat.le_of_ble_eq_true rfl) (fun _ => rfl) (fun _ => rfl) ?_
    obtain ⟨C1, eC1⟩ : ∃ z, z = va_up C2 (x) (.inr (2, [.ref (x + 1), .ref (x + 2), .ref (x + 3), .ref (x + 4), .ref (x + 5), .ref (x + 6), .ref (x + 7), .ref (x + 8), .int (nI (li + 1)), .int (nI (pr_nx L j (g 1) (g 2) (g 3) (la, ab, ut, ce, dv, mi, fu, fd, sp)).2.2.2.2.2.2.2.2)])) := ⟨_, rfl⟩
    refine gj_mem eC1 ?_
    have f2 : C1 (x) = .inr (2, [.ref (x + 1), .ref (x + 2), .ref (x + 3), .ref (x + 4), .ref (x + 5), .ref (x + 6), .ref (x + 7), .ref (x + 8), .int (nI (li + 1)), .int (nI (pr_nx L j (g 1) (g 2) (g 3) (la, ab, ut, ce, dv, mi, fu, fd, sp)).2.2.2.2.2.2.2.2)]) := by rw [eC1]; exact va_up_self _ _ _
    have f3 : C1 (x + 1) = .inl (0, 60, .inl (pr_nx L j (g 1) (g 2) (g 3) (la, ab, ut, ce, dv, mi, fu, fd, sp)).1) := by rw [eC1, va_up_ne _ _ (by omega)]; exact k1
    have f4 : C1 (x + 2) = .inl (0, 60, .inl (pr_nx L j (g 1) (g 2) (g 3) (la, ab, ut, ce, dv, mi, fu, fd, sp)).2.1) := by rw [eC1, va_up_ne _ _ (by omega)]; exact k2
    have f5 : C1 (x + 3) = .inl (0, 60, .inl (pr_nx L j (g 1) (g 2) (g 3) (la, ab, ut, ce, dv, mi, fu, fd, sp)).2.2.1) := by rw [eC1, va_up_ne _ _ (by omega)]; exact k3
    have f6 : C1 (x + 4) = .inl (0, 60, .inl (pr_nx L j (g 1) (g 2) (g 3) (la, ab, ut, ce, dv, mi, fu, fd, sp)).2.2.2.1) := by rw [eC1, va_up_ne _ _ (by omega)]; exact k4
    have f7 : C1 (x + 5) = .inl (0, 10, .inl (pr_nx L j (g 1) (g 2) (g 3) (la, ab, ut, ce, dv, mi, fu, fd, sp)).2.2.2.2.1) := by rw [eC1, va_up_ne _ _ (by omega)]; exact k5
    have f8 : C1 (x + 6) = .inl (0, 10, .inl (pr_nx L j (g 1) (g 2) (g 3) (la, ab, ut, ce, dv, mi, fu, fd, sp)).2.2.2.2.2.1) := by rw [eC1, va_up_ne _ _ (by omega)]; exact k6
    have f9 : C1 (x + 7) = .inl (0, 10, .inl (pr_nx L j (g 1) (g 2) (g 3) (la, ab, ut, ce, dv, mi, fu, fd, sp)).2.2.2.2.2.2.1) := by rw [eC1, va_up_ne _ _ (by omega)]; exact k7
    have f10 : C1 (x + 8) = .inl (0, 10, .inl (pr_nx L j (g 1) (g 2) (g 3) (la, ab, ut, ce, dv, mi, fu, fd, sp)).2.2.2.2.2.2.2.1) := by rw [eC1, va_up_ne _ _ (by omega)]; exact k8
    refine gj_kc (v := 1) d_Ra_take_27 (by decide) ?_
    refine gj_zret rfl (by first | exact Or.inl rfl | exact Or.inr rfl) (Nat.zero_le _) (Nat.zero_le _) d_Ra_take_28 ?_
    exact ⟨rfl, fun z hz => by show C1 z = C z; rw [eC1, va_up_ne _ _ (by omega)]; exact hfr z hz, Or.inl ⟨h0, rfl, ⟨f2, f3, f4, f5, f6, f7, f8, f9, f10⟩⟩⟩
  · obtain ⟨h0, hv, T2, l2, hM⟩ := h
    dsimp only [gj_iv] at hv hn
    cases hv; cases hn
    refine gj_if_ne (tgt := 17) d_Ra_take_12 (by decide) (fun h12 => absurd (rfl) h12) (fun h12 => ?_)
    refine gj_kc (v := 0) d_Ra_take_15 (by decide) ?_
    refine gj_zret rfl (by first | exact Or.inl rfl | exact Or.inr rfl) (Nat.zero_le _) (Nat.zero_le _) d_Ra_take_16 ?_
    exact ⟨rfl, hfr, Or.inr ⟨h0, rfl, T2, l2, hM⟩⟩
end
section
/-! weightToPay, charged, leastCents, present, addend, priceNow -/
theorem l64_ne0 {a : Int32} (h : ¬ a = 0) : ¬ a.toInt64 = 0 := fun e => h (Int32.toInt_inj.mp (by
  have := congrArg Int64.toInt e
  rw [Int32.toInt_toInt64] at this
  rw [this]; decide))
theorem l64_0 {a : Int32} (h : a = 0) : a.toInt64 = 0 := by rw [h]; decide
def pr_up (a b : Int64) : Int64 := (a + b - 1) / b
def pr_w (dv g v : Int32) : Int32 := if dv = -1 then g else if g < (pr_up v.toInt64 dv.toInt64).toInt32 then (pr_up v.toInt64 dv.toInt64).toInt32 else g
def pr_am (ce fu fd : Int32) : Int64 := if fd = -1 then ce.toInt64 else ce.toInt64 + pr_up (ce.toInt64 * fu.toInt64) fd.toInt64
def pr_ch (ce fu fd mi : Int32) : Int64 := if mi.toInt64 < pr_am ce fu fd then pr_am ce fu fd else mi.toInt64
theorem pr_st_cases (la ut : Nat → Int32) (l w : Int32) : ∀ m i, pr_st la ut l w m i = -1 ∨ ∃ k, k < i + m ∧ pr_st la ut l w m i = nI k
  | 0, _ => Or.inl rfl
  | m + 1, i => by
    unfold pr_st
    split
    · exact Or.inr ⟨i, by omega, rfl⟩
    · rcases pr_st_cases la ut l w m (i + 1) with h | ⟨k, hk, h⟩
      · exact Or.inl h
      · exact Or.inr ⟨k, by omega, h⟩
def pr_ll (F : Nat → Int32 → Int32 → Int32) (la ab ut ce : Nat → Int32) (l lo hi : Int32) : Nat → Nat → Int32 → Int32
  | 0, _, b => b
  | m + 1, i, b => pr_ll F la ab ut ce l lo hi m (i + 1) (if la i = l ∧ ¬ F i (lo - ut i) (hi - ab i - 1) = -1 ∧ (b = -1 ∨ F i (lo - ut i) (hi - ab i - 1) + ce i < b) then F i (lo - ut i) (hi - ab i - 1) + ce i else b)
/-- the least cents of p parcels -/
def pr_lc (la ab ut ce : Nat → Int32) (sp : Nat) (l : Int32) : Nat → Nat → Int32 → Int32 → Int32
  | 0, _, lo, hi => if lo ≤ 0 ∧ 0 ≤ hi then 0 else -1
  | p + 1, i, lo, hi => if lo ≤ 0 ∧ 0 ≤ hi then 0 else if hi < 0 then -1 else pr_ll (pr_lc la ab ut ce sp l p) la ab ut ce l lo hi (sp - i) i (-1)
def pr_px (ch : Int64) (up dn : Nat → Int32) : Option Nat → Int32
  | none => ch.toInt32
  | some p => (pr_up (ch * (up p).toInt64) (dn p).toInt64).toInt32
/-- the shipment of a number -/
def pr_pn (sh : Nat → Option Nat) (s : Int32) : Option Nat := if 0 ≤ s ∧ s < 20 then sh s.toNatClampNeg else none
theorem pr_pn_some {sh : Nat → Option Nat} {s : Int32} {y : Nat} (h : pr_pn sh s = some y) : ∃ j, j < 20 ∧ s = nI j ∧ sh j = some y := by
  unfold pr_pn at h
  split at h
  · rename_i hs
    obtain ⟨j, hj, e⟩ := nI_of (Int32.not_lt.mpr hs.1)
    subst e
    rw [nI_clamp hj] at h
    exact ⟨j, (nI_ltI (b := 20) hj (by decide)).mp hs.2, rfl, h⟩
  · cases h
theorem pr_pn_of {sh : Nat → Option Nat} {j : Nat} (h : j < 20) : pr_pn sh (nI j) = sh j := by
  unfold pr_pn
  rw [if_pos ⟨nI_pos' (by omega), (nI_ltI (b := 20) (by omega) (by decide)).mpr h⟩, nI_clamp (by omega)]
set_option maxHeartbeats 2000000 in
theorem c_Ra_weightToPay {d K N n x y li sp a : Nat} {C : Nat → va_E} {dv : Nat → Int32} {z g v s c l : Int32} (hx : C (x) = .inr (2, [.ref (x + 1), .ref (x + 2), .ref (x + 3), .ref (x + 4), .ref (x + 5), .ref (x + 6), .ref (x + 7), .ref (x + 8), .int (nI li), .int (nI sp)])) (hdv : C (x + 5) = .inl (0, 10, .inl dv)) (hy : C (y) = .inr (4, [.int (z), .int (g), .int (v), .int (s), .int (c), .int (l)])) (ha : a < 10) (h0 : ¬ dv a = 0) : gj_G md_Ra_weightToPay (d + 2) K N 0 0 0 [(0, .ref (x)), (1, .ref (y)), (2, .int (nI a))] [] n C (fun r => r = (gj_iv (pr_w (dv a) g v), n, C)) := by
  refine gj_aload_n d_Ra_weightToPay_0 rfl ?_
  refine gj_get d_Ra_weightToPay_1 gf_Ra_24 hx rfl ?_
  refine gj_iload_n d_Ra_weightToPay_4 rfl ?_
  refine gj_iald d_Ra_weightToPay_5 hdv rfl (vp_in_nI (by omega) (by decide)) ?_
  refine gj_top (y := dv (a)) (congrArg dv (nI_clamp (by omega))) ?_
  refine gj_istore_n d_Ra_weightToPay_6 (by decide) ?_
  refine gj_iload_n d_Ra_weightToPay_7 rfl ?_
  refine gj_kc (v := (-1)) d_Ra_weightToPay_8 (by decide) ?_
  refine gj_icmp_ne (tgt := 17) d_Ra_weightToPay_9 (by decide) (fun h9 => ?_) (fun h9 => ?_)
  · refine gj_aload_n d_Ra_weightToPay_17 rfl ?_
    refine gj_get d_Ra_weightToPay_18 gf_Ra_73 hy rfl ?_
    refine gj_i2l d_Ra_weightToPay_21 ?_
    refine gj_iload_n d_Ra_weightToPay_22 rfl ?_
    refine gj_i2l d_Ra_weightToPay_23 ?_
    refine gj_callSN (as := [.long ((v : Int32).toInt64), .long ((dv (a) : Int32).toInt64)]) (rest := []) (K1 := 0) (N1 := 0) d_Ra_weightToPay_24 mo_RB_dividedUp gw_413 gw_414 gw_20 pl_RB_dividedUp (Nat.le_of_ble_eq_true rfl) (Nat.le_of_ble_eq_true rfl) (Nat.zero_le _) (Nat.zero_le _) (c_RB_dividedUp (l64_ne0 h0)) (fun E n' C' _ h => by cases h) (fun v n' C' _ h => ?_)
    cases h
    refine gj_l2i d_Ra_weightToPay_27 ?_
    refine gj_istore d_Ra_weightToPay_28 (by decide) ?_
    refine gj_aload_n d_Ra_weightToPay_30 rfl ?_
    refine gj_get d_Ra_weightToPay_31 gf_Ra_68 hy rfl ?_
    refine gj_iload d_Ra_weightToPay_34 rfl ?_
    refine gj_max d_Ra_weightToPay_36 gw_435 gw_118 gw_24 gw_119 (Nat.le_of_ble_eq_true rfl) (Nat.zero_le _) (Nat.zero_le _) ?_
    refine gj_iret rfl (Nat.zero_le _) (Nat.zero_le _) d_Ra_weightToPay_39 ?_
    exact gj_ei (if_neg h9).symm
  · refine gj_aload_n d_Ra_weightToPay_12 rfl ?_
    refine gj_get d_Ra_weightToPay_13 gf_Ra_68 hy rfl ?_
    refine gj_iret rfl (Nat.zero_le _) (Nat.zero_le _) d_Ra_weightToPay_16 ?_
    exact gj_ei (if_pos h9).symm
set_option maxHeartbeats 2000000 in
theorem c_Ra_weightToPay_x {d K N n x y li sp a : Nat} {C : Nat → va_E} {dv : Nat → Int32} {z g v s c l : Int32} (hx : C (x) = .inr (2, [.ref (x + 1), .ref (x + 2), .ref (x + 3), .ref (x + 4), .ref (x + 5), .ref (x + 6), .ref (x + 7), .ref (x + 8), .int (nI li), .int (nI sp)])) (hdv : C (x + 5) = .inl (0, 10, .inl dv)) (hy : C (y) = .inr (4, [.int (z), .int (g), .int (v), .int (s), .int (c), .int (l)])) (ha : a < 10) (hK : 1 ≤ K) (hN : 6 ≤ N) (h0 : dv a = 0) : gj_G md_Ra_weightToPay (d + 2) K N 0 0 0 [(0, .ref (x)), (1, .ref (y)), (2, .int (nI a))] [] n C (fun r => r = (.inr "java/lang/ArithmeticException", n, C)) := by
  refine gj_aload_n d_Ra_weightToPay_0 rfl ?_
  refine gj_get d_Ra_weightToPay_1 gf_Ra_24 hx rfl ?_
  refine gj_iload_n d_Ra_weightToPay_4 rfl ?_
  refine gj_iald d_Ra_weightToPay_5 hdv rfl (vp_in_nI (by omega) (by decide)) ?_
  refine gj_top (y := dv (a)) (congrArg dv (nI_clamp (by omega))) ?_
  refine gj_istore_n d_Ra_weightToPay_6 (by decide) ?_
  refine gj_iload_n d_Ra_weightToPay_7 rfl ?_
  refine gj_kc (v := (-1)) d_Ra_weightToPay_8 (by decide) ?_
  refine gj_icmp_ne (tgt := 17) d_Ra_weightToPay_9 (by decide) (fun h9 => ?_) (fun h9 => absurd h9 (by rw [h0]; decide))
  refine gj_aload_n d_Ra_weightToPay_17 rfl ?_
  refine gj_get d_Ra_weightToPay_18 gf_Ra_73 hy rfl ?_
  refine gj_i2l d_Ra_weightToPay_21 ?_
  refine gj_iload_n d_Ra_weightToPay_22 rfl ?_
  refine gj_i2l d_Ra_weightToPay_23 ?_
  refine gj_callSN (as := [.long ((v : Int32).toInt64), .long ((dv (a) : Int32).toInt64)]) (rest := []) (K1 := 1) (N1 := 6) d_Ra_weightToPay_24 mo_RB_dividedUp gw_413 gw_414 gw_20 pl_RB_dividedUp (Nat.le_of_ble_eq_true rfl) (Nat.le_of_ble_eq_true rfl) (by omega) (by omega) (c_RB_dividedUp_x (Nat.le_refl 1) (Nat.le_refl 6) (l64_0 h0)) (fun E n24 C24 g24 q24 => ?_) (fun v n' C' _ h => by cases h)
  cases q24
  exact gj_xout rfl (by omega) (by omega) rfl
set_option maxHeartbeats 2000000 in
theorem c_Ra_charged {d K N n x li sp a i : Nat} {C : Nat → va_E} {ce mi fu fd : Nat → Int32} (hx : C (x) = .inr (2, [.ref (x + 1), .ref (x + 2), .ref (x + 3), .ref (x + 4), .ref (x + 5), .ref (x + 6), .ref (x + 7), .ref (x + 8), .int (nI li), .int (nI sp)])) (hce : C (x + 4) = .inl (0, 60, .inl ce)) (hmi : C (x + 6) = .inl (0, 10, .inl mi)) (hfu : C (x + 7) = .inl (0, 10, .inl fu)) (hfd : C (x + 8) = .inl (0, 10, .inl fd)) (ha : a < 10) (hi : i < 60) (h0 : ¬ fd a = 0) : gj_G md_Ra_charged (d + 2) K N 0 0 0 [(0, .ref (x)), (1, .int (nI i)), (2, .int (nI a))] [] n C (fun r => r = (gj_lv2 (pr_ch (ce i) (fu a) (fd a) (mi a)), n, C)) := by
  refine gj_aload_n d_Ra_charged_0 rfl ?_
  refine gj_get d_Ra_charged_1 gf_Ra_21 hx rfl ?_
  refine gj_iload_n d_Ra_charged_4 rfl ?_
  refine gj_iald d_Ra_charged_5 hce rfl (vp_in_nI (by omega) (by decide)) ?_
  refine gj_top (y := ce (i)) (congrArg ce (nI_clamp (by omega))) ?_
  refine gj_i2l d_Ra_charged_6 ?_
  refine gj_lstore_n d_Ra_charged_7 (by decide) ?_
  refine gj_aload_n d_Ra_charged_8 rfl ?_
  refine gj_get d_Ra_charged_9 gf_Ra_33 hx rfl ?_
  refine gj_iload_n d_Ra_charged_12 rfl ?_
  refine gj_iald d_Ra_charged_13 hfd rfl (vp_in_nI (by omega) (by decide)) ?_
  refine gj_top (y := fd (a)) (congrArg fd (nI_clamp (by omega))) ?_
  refine gj_kc (v := (-1)) d_Ra_charged_14 (by decide) ?_
  refine gj_icmp_eq (tgt := 40) d_Ra_charged_15 (by decide) (fun h15 => ?_) (fun h15 => ?_)
  · refine gj_lload_n d_Ra_charged_40 rfl ?_
    refine gj_aload_n d_Ra_charged_41 rfl ?_
    refine gj_get d_Ra_charged_42 gf_Ra_27 hx rfl ?_
    refine gj_iload_n d_Ra_charged_45 rfl ?_
    refine gj_iald d_Ra_charged_46 hmi rfl (vp_in_nI (by omega) (by decide)) ?_
    refine gj_top (y := mi (a)) (congrArg mi (nI_clamp (by omega))) ?_
    refine gj_i2l d_Ra_charged_47 ?_
    refine gj_maxL d_Ra_charged_48 gw_456 gw_457 gw_24 gw_458 (Nat.le_of_ble_eq_true rfl) (Nat.zero_le _) (Nat.zero_le _) ?_
    refine gj_lret rfl (Nat.zero_le _) (Nat.zero_le _) d_Ra_charged_51 ?_
    have e : pr_am (ce i) (fu a) (fd a) = _ := if_pos h15
    exact gj_el (by unfold pr_ch; rw [e]; try rfl)
  · refine gj_lload_n d_Ra_charged_18 rfl ?_
    refine gj_lload_n d_Ra_charged_19 rfl ?_
    refine gj_aload_n d_Ra_charged_20 rfl ?_
    refine gj_get d_Ra_charged_21 gf_Ra_30 hx rfl ?_
    refine gj_iload_n d_Ra_charged_24 rfl ?_
    refine gj_iald d_Ra_charged_25 hfu rfl (vp_in_nI (by omega) (by decide)) ?_
    refine gj_top (y := fu (a)) (congrArg fu (nI_clamp (by omega))) ?_
    refine gj_i2l d_Ra_charged_26 ?_
    refine gj_lmul d_Ra_charged_27 ?_
    refine gj_aload_n d_Ra_charged_28 rfl ?_
    refine gj_get d_Ra_charged_29 gf_Ra_33 hx rfl ?_
    refine gj_iload_n d_Ra_charged_32 rfl ?_
    refine gj_iald d_Ra_charged_33 hfd rfl (vp_in_nI (by omega) (by decide)) ?_
    refine gj_top (y := fd (a)) (congrArg fd (nI_clamp (by omega))) ?_
    refine gj_i2l d_Ra_charged_34 ?_
    refine gj_callSN (as := [.long (((ce (i) : Int32).toInt64) * ((fu (a) : Int32).toInt64)), .long ((fd (a) : Int32).toInt64)]) (rest := [.long ((ce (i) : Int32).toInt64)]) (K1 := 0) (N1 := 0) d_Ra_charged_35 mo_RB_dividedUp gw_413 gw_414 gw_20 pl_RB_dividedUp (Nat.le_of_ble_eq_true rfl) (Nat.le_of_ble_eq_true rfl) (Nat.zero_le _) (Nat.zero_le _) (c_RB_dividedUp (l64_ne0 h0)) (fun E n' C' _ h => by cases h) (fun v n' C' _ h => ?_)
    cases h
    refine gj_ladd d_Ra_charged_38 ?_
    refine gj_lstore_n d_Ra_charged_39 (by decide) ?_
    refine gj_lload_n d_Ra_charged_40 rfl ?_
    refine gj_aload_n d_Ra_charged_41 rfl ?_
    refine gj_get d_Ra_charged_42 gf_Ra_27 hx rfl ?_
    refine gj_iload_n d_Ra_charged_45 rfl ?_
    refine gj_iald d_Ra_charged_46 hmi rfl (vp_in_nI (by omega) (by decide)) ?_
    refine gj_top (y := mi (a)) (congrArg mi (nI_clamp (by omega))) ?_
    refine gj_i2l d_Ra_charged_47 ?_
    refine gj_maxL d_Ra_charged_48 gw_456 gw_457 gw_24 gw_458 (Nat.le_of_ble_eq_true rfl) (Nat.zero_le _) (Nat.zero_le _) ?_
    refine gj_lret rfl (Nat.zero_le _) (Nat.zero_le _) d_Ra_charged_51 ?_
    have e : pr_am (ce i) (fu a) (fd a) = _ := if_neg h15
    exact gj_el (by unfold pr_ch; rw [e]; try rfl)
set_option maxHeartbeats 2000000 in
theorem c_Ra_leastCents_loop {d K N n x li sp i0 p : Nat} {C : Nat → va_E} {la ab ut ce : Nat → Int32} (hx : C (x) = .inr (2, [.ref (x + 1), .ref (x + 2), .ref (x + 3), .ref (x + 4), .ref (x + 5), .ref (x + 6), .ref (x + 7), .ref (x + 8), .int (nI li), .int (nI sp)])) (hla : C (x + 1) = .inl (0, 60, .inl la)) (hab : C (x + 2) = .inl (0, 60, .inl ab)) (hut : C (x + 3) = .inl (0, 60, .inl ut)) (hce : C (x + 4) = .inl (0, 60, .inl ce)) (h60 : sp ≤ 60) {l lo hi : Int32} {F : Nat → Int32 → Int32 → Int32} (hF : ∀ (i : Nat) (lo hi : Int32), i ≤ sp → gj_G md_Ra_leastCents d 0 0 0 0 0 [(0, .ref x), (1, .int l), (2, .int (nI p)), (3, .int (nI i)), (4, .int lo), (5, .int hi)] [] n C (fun r => r = (gj_iv (F i lo hi), n, C))) {Q : gj_R → Prop} : ∀ (m : Nat) (i : Nat) (b : Int32), i + m = sp → Q (gj_iv (pr_ll F la ab ut ce l lo hi m i b), n, C) → gj_G md_Ra_leastCents (d + 1) K N 0 0 29 [(0, .ref (x)), (1, .int (l)), (2, .int (nI (p + 1))), (3, .int (nI i0)), (4, .int (lo)), (5, .int (hi)), (6, .int (b)), (7, .int (nI i))] [] n C Q := by
  intro m
  induction m with
  | zero =>
    intro i b hm hend
    refine gj_iload d_Ra_leastCents_29 rfl ?_
    refine gj_aload_n d_Ra_leastCents_31 rfl ?_
    refine gj_get d_Ra_leastCents_32 gf_Ra_43 hx rfl ?_
    refine gj_icmp_ge (tgt := 128) d_Ra_leastCents_35 (by decide) (fun h35 => ?_) (fun h35 => by have m35 : ¬ (sp ≤ i) := fun q => h35 ((nI_leI (a := sp) (b := i) (by omega) (by omega)).mpr q); exact absurd (show sp ≤ i from by omega) m35)
    have m35 : sp ≤ i := (nI_leI (a := sp) (b := i) (by omega) (by omega)).mp h35
    refine gj_iload d_Ra_leastCents_128 rfl ?_
    refine gj_iret rfl (Nat.zero_le _) (Nat.zero_le _) d_Ra_leastCents_130 ?_
    exact hend
  | succ m ih =>
    intro i b hm hend
    refine gj_iload d_Ra_leastCents_29 rfl ?_
    refine gj_aload_n d_Ra_leastCents_31 rfl ?_
    refine gj_get d_Ra_leastCents_32 gf_Ra_43 hx rfl ?_
    refine gj_icmp_ge (tgt := 128) d_Ra_leastCents_35 (by decide) (fun h35 => by have m35 : sp ≤ i := (nI_leI (a := sp) (b := i) (by omega) (by omega)).mp h35; exact absurd m35 (show ¬ (sp ≤ i) from by omega)) (fun h35 => ?_)
    have m35 : ¬ (sp ≤ i) := fun q => h35 ((nI_leI (a := sp) (b := i) (by omega) (by omega)).mpr q)
    refine gj_aload_n d_Ra_leastCents_38 rfl ?_
    refine gj_get d_Ra_leastCents_39 gf_Ra_9 hx rfl ?_
    refine gj_iload d_Ra_leastCents_42 rfl ?_
    refine gj_iald d_Ra_leastCents_44 hla rfl (vp_in_nI (by omega) (by decide)) ?_
    refine gj_top (y := la (i)) (congrArg la (nI_clamp (by omega))) ?_
    refine gj_iload_n d_Ra_leastCents_45 rfl ?_
    refine gj_icmp_ne (tgt := 122) d_Ra_leastCents_46 (by decide) (fun h46 => ?_) (fun h46 => ?_)
    · refine gj_iincN d_Ra_leastCents_122 rfl (by decide) ?_
      refine gj_goto (tgt := 29) d_Ra_leastCents_125 (by decide) ?_
      refine gj_less (lc' := [(0, .ref (x)), (1, .int (l)), (2, .int (nI (p + 1))), (3, .int (nI i0)), (4, .int (lo)), (5, .int (hi)), (6, .int (b)), (7, .int (nI (i + 1)))]) ⟨rfl, rfl, rfl, rfl, rfl, rfl, rfl, rfl, trivial⟩ ?_
      refine ih (i + 1) (b) (by omega) ?_
      have e : (if la i = l ∧ ¬ F i (lo - ut i) (hi - ab i - 1) = -1 ∧ (b = -1 ∨ F i (lo - ut i) (hi - ab i - 1) + ce i < b) then F i (lo - ut i) (hi - ab i - 1) + ce i else b) = b := if_neg (fun q => by first | exact h46 q.1 | exact q.2.1 h86 | exact q.2.2.elim h92 (fun z => absurd h107 (Int32.not_le.mpr z)))
      rw [← e]; exact hend
    · refine gj_aload_n d_Ra_leastCents_49 rfl ?_
      refine gj_iload_n d_Ra_leastCents_50 rfl ?_
      refine gj_iload_n d_Ra_leastCents_51 rfl ?_
      refine gj_kc (v := 1) d_Ra_leastCents_52 (by decide) ?_
      refine gj_isub d_Ra_leastCents_53 ?_
      refine gj_top (y := nI p) (nI_pred p) ?_
      refine gj_iload d_Ra_leastCents_54 rfl ?_
      refine gj_iload d_Ra_leastCents_56 rfl ?_
      refine gj_aload_n d_Ra_leastCents_58 rfl ?_
      refine gj_get d_Ra_leastCents_59 gf_Ra_18 hx rfl ?_
      refine gj_iload d_Ra_leastCents_62 rfl ?_
      refine gj_iald d_Ra_leastCents_64 hut rfl (vp_in_nI (by omega) (by decide)) ?_
      refine gj_top (y := ut (i)) (congrArg ut (nI_clamp (by omega))) ?_
      refine gj_isub d_Ra_leastCents_65 ?_
      refine gj_iload d_Ra_leastCents_66 rfl ?_
      refine gj_aload_n d_Ra_leastCents_68 rfl ?_
      refine gj_get d_Ra_leastCents_69 gf_Ra_15 hx rfl ?_
      refine gj_iload d_Ra_leastCents_72 rfl ?_
      refine gj_iald d_Ra_leastCents_74 hab rfl (vp_in_nI (by omega) (by decide)) ?_
      refine gj_top (y := ab (i)) (congrArg ab (nI_clamp (by omega))) ?_
      refine gj_isub d_Ra_leastCents_75 ?_
      refine gj_kc (v := 1) d_Ra_leastCents_76 (by decide) ?_
      refine gj_isub d_Ra_leastCents_77 ?_
      refine gj_callV (as := [.int (l), .int (nI p), .int (nI i), .int ((lo) - (ut (i))), .int (((hi) - (ab (i))) - (1))]) (rest := []) (K1 := 0) (N1 := 0) d_Ra_leastCents_78 mo_Ra_leastCents gw_482 gw_479 gw_480 hx rfl pl_Ra_leastCents (Nat.le_of_ble_eq_true rfl) (Nat.le_of_ble_eq_true rfl) (Nat.zero_le _) (Nat.zero_le _) (hF i (lo - ut i) (hi - ab i - 1) (by omega)) (fun E n' C' _ h => by cases h) (fun v n' C' _ h => ?_)
      cases h
      refine gj_istore d_Ra_leastCents_81 (by decide) ?_
      refine gj_iload d_Ra_leastCents_83 rfl ?_
      refine gj_kc (v := (-1)) d_Ra_leastCents_85 (by decide) ?_
      refine gj_icmp_eq (tgt := 122) d_Ra_leastCents_86 (by decide) (fun h86 => ?_) (fun h86 => ?_)
      · refine gj_iincN d_Ra_leastCents_122 rfl (by decide) ?_
        refine gj_goto (tgt := 29) d_Ra_leastCents_125 (by decide) ?_
        refine gj_less (lc' := [(0, .ref (x)), (1, .int (l)), (2, .int (nI (p + 1))), (3, .int (nI i0)), (4, .int (lo)), (5, .int (hi)), (6, .int (b)), (7, .int (nI (i + 1)))]) ⟨rfl, rfl, rfl, rfl, rfl, rfl, rfl, rfl, trivial⟩ ?_
        refine ih (i + 1) (b) (by omega) ?_
        have e : (if la i = l ∧ ¬ F i (lo - ut i) (hi - ab i - 1) = -1 ∧ (b = -1 ∨ F i (lo - ut i) (hi - ab i - 1) + ce i < b) then F i (lo - ut i) (hi - ab i - 1) + ce i else b) = b := if_neg (fun q => by first | exact h46 q.1 | exact q.2.1 h86 | exact q.2.2.elim h92 (fun z => absurd h107 (Int32.not_le.mpr z)))
        rw [← e]; exact hend
      · refine gj_iload d_Ra_leastCents_89 rfl ?_
        refine gj_kc (v := (-1)) d_Ra_leastCents_91 (by decide) ?_
        refine gj_icmp_eq (tgt := 110) d_Ra_leastCents_92 (by decide) (fun h92 => ?_) (fun h92 => ?_)
        · refine gj_iload d_Ra_leastCents_110 rfl ?_
          refine gj_aload_n d_Ra_leastCents_112 rfl ?_
          refine gj_get d_Ra_leastCents_113 gf_Ra_21 hx rfl ?_
          refine gj_iload d_Ra_leastCents_116 rfl ?_
          refine gj_iald d_Ra_leastCents_118 hce rfl (vp_in_nI (by omega) (by decide)) ?_
          refine gj_top (y := ce (i)) (congrArg ce (nI_clamp (by omega))) ?_
          refine gj_iadd d_Ra_leastCents_119 ?_
          refine gj_istore d_Ra_leastCents_120 (by decide) ?_
          refine gj_iincN d_Ra_leastCents_122 rfl (by decide) ?_
          refine gj_goto (tgt := 29) d_Ra_leastCents_125 (by decide) ?_
          refine gj_less (lc' := [(0, .ref (x)), (1, .int (l)), (2, .int (nI (p + 1))), (3, .int (nI i0)), (4, .int (lo)), (5, .int (hi)), (6, .int ((F i (lo - ut i) (hi - ab i - 1)) + (ce (i)))), (7, .int (nI (i + 1)))]) ⟨rfl, rfl, rfl, rfl, rfl, rfl, rfl, rfl, trivial⟩ ?_
          refine ih (i + 1) ((F i (lo - ut i) (hi - ab i - 1)) + (ce (i))) (by omega) ?_
          have e : (if la i = l ∧ ¬ F i (lo - ut i) (hi - ab i - 1) = -1 ∧ (b = -1 ∨ F i (lo - ut i) (hi - ab i - 1) + ce i < b) then F i (lo - ut i) (hi - ab i - 1) + ce i else b) = (F i (lo - ut i) (hi - ab i - 1)) + (ce (i)) := if_pos ⟨h46, h86, by first | exact Or.inl h92 | exact Or.inr (Int32.not_le.mp h107)⟩
          rw [← e]; exact hend
        · refine gj_iload d_Ra_leastCents_95 rfl ?_
          refine gj_aload_n d_Ra_leastCents_97 rfl ?_
          refine gj_get d_Ra_leastCents_98 gf_Ra_21 hx rfl ?_
          refine gj_iload d_Ra_leastCents_101 rfl ?_
          refine gj_iald d_Ra_leastCents_103 hce rfl (vp_in_nI (by omega) (by decide)) ?_
          refine gj_top (y := ce (i)) (congrArg ce (nI_clamp (by omega))) ?_
          refine gj_iadd d_Ra_leastCents_104 ?_
          refine gj_iload d_Ra_leastCents_105 rfl ?_
          refine gj_icmp_ge (tgt := 122) d_Ra_leastCents_107 (by decide) (fun h107 => ?_) (fun h107 => ?_)
          · refine gj_iincN d_Ra_leastCents_122 rfl (by decide) ?_
            refine gj_goto (tgt := 29) d_Ra_leastCents_125 (by decide) ?_
            refine gj_less (lc' := [(0, .ref (x)), (1, .int (l)), (2, .int (nI (p + 1))), (3, .int (nI i0)), (4, .int (lo)), (5, .int (hi)), (6, .int (b)), (7, .int (nI (i + 1)))]) ⟨rfl, rfl, rfl, rfl, rfl, rfl, rfl, rfl, trivial⟩ ?_
            refine ih (i + 1) (b) (by omega) ?_
            have e : (if la i = l ∧ ¬ F i (lo - ut i) (hi - ab i - 1) = -1 ∧ (b = -1 ∨ F i (lo - ut i) (hi - ab i - 1) + ce i < b) then F i (lo - ut i) (hi - ab i - 1) + ce i else b) = b := if_neg (fun q => by first | exact h46 q.1 | exact q.2.1 h86 | exact q.2.2.elim h92 (fun z => absurd h107 (Int32.not_le.mpr z)))
            rw [← e]; exact hend
          · refine gj_iload d_Ra_leastCents_110 rfl ?_
            refine gj_aload_n d_Ra_leastCents_112 rfl ?_
            refine gj_get d_Ra_leastCents_113 gf_Ra_21 hx rfl ?_
            refine gj_iload d_Ra_leastCents_116 rfl ?_
            refine gj_iald d_Ra_leastCents_118 hce rfl (vp_in_nI (by omega) (by decide)) ?_
            refine gj_top (y := ce (i)) (congrArg ce (nI_clamp (by omega))) ?_
            refine gj_iadd d_Ra_leastCents_119 ?_
            refine gj_istore d_Ra_leastCents_120 (by decide) ?_
            refine gj_iincN d_Ra_leastCents_122 rfl (by decide) ?_
            refine gj_goto (tgt := 29) d_Ra_leastCents_125 (by decide) ?_
            refine gj_less (lc' := [(0, .ref (x)), (1, .int (l)), (2, .int (nI (p + 1))), (3, .int (nI i0)), (4, .int (lo)), (5, .int (hi)), (6, .int ((F i (lo - ut i) (hi - ab i - 1)) + (ce (i)))), (7, .int (nI (i + 1)))]) ⟨rfl, rfl, rfl, rfl, rfl, rfl, rfl, rfl, trivial⟩ ?_
            refine ih (i + 1) ((F i (lo - ut i) (hi - ab i - 1)) + (ce (i))) (by omega) ?_
            have e : (if la i = l ∧ ¬ F i (lo - ut i) (hi - ab i - 1) = -1 ∧ (b = -1 ∨ F i (lo - ut i) (hi - ab i - 1) + ce i < b) then F i (lo - ut i) (hi - ab i - 1) + ce i else b) = (F i (lo - ut i) (hi - ab i - 1)) + (ce (i)) := if_pos ⟨h46, h86, by first | exact Or.inl h92 | exact Or.inr (Int32.not_le.mp h107)⟩
            rw [← e]; exact hend
set_option maxHeartbeats 2000000 in
theorem c_Ra_leastCents {d n x li sp : Nat} {C : Nat → va_E} {la ab ut ce : Nat → Int32} (hx : C (x) = .inr (2, [.ref (x + 1), .ref (x + 2), .ref (x + 3), .ref (x + 4), .ref (x + 5), .ref (x + 6), .ref (x + 7), .ref (x + 8), .int (nI li), .int (nI sp)])) (hla : C (x + 1) = .inl (0, 60, .inl la)) (hab : C (x + 2) = .inl (0, 60, .inl ab)) (hut : C (x + 3) = .inl (0, 60, .inl ut)) (hce : C (x + 4) = .inl (0, 60, .inl ce)) (h60 : sp ≤ 60) {l : Int32} : ∀ (p : Nat), p ≤ 60 → ∀ (i : Nat) (lo hi : Int32) {K N : Nat}, i ≤ sp → gj_G md_Ra_leastCents (d + p) K N 0 0 0 [(0, .ref (x)), (1, .int (l)), (2, .int (nI p)), (3, .int (nI i)), (4, .int (lo)), (5, .int (hi))] [] n C (fun r => r = (gj_iv (pr_lc la ab ut ce sp l p i lo hi), n, C)) := by
  intro p
  induction p with
  | zero =>
    intro hp i lo hi K N hm
    have hm := hm
    refine gj_iload d_Ra_leastCents_0 rfl ?_
    refine gj_if_gt (tgt := 12) d_Ra_leastCents_2 (by decide) (fun h2 => ?_) (fun h2 => ?_)
    · refine gj_iload_n d_Ra_leastCents_12 rfl ?_
      refine gj_if_le (tgt := 21) d_Ra_leastCents_13 (by decide) (fun h13 => ?_) (fun h13 => by have m13 : ¬ (0 ≤ 0) := fun q => h13 ((nI_leI (a := 0) (b := 0) (by omega) (by omega)).mpr q); exact absurd (show 0 ≤ 0 from by omega) m13)
      have m13 : 0 ≤ 0 := (nI_leI (a := 0) (b := 0) (by omega) (by omega)).mp h13
      refine gj_kc (v := (-1)) d_Ra_leastCents_21 (by decide) ?_
      refine gj_iret rfl (Nat.zero_le _) (Nat.zero_le _) d_Ra_leastCents_22 ?_
      exact gj_ei (if_neg (by first | exact fun q => absurd q.1 (Int32.not_le.mpr h2) | exact fun q => absurd q.2 (Int32.not_le.mpr h7))).symm
    · refine gj_iload d_Ra_leastCents_5 rfl ?_
      refine gj_if_lt (tgt := 12) d_Ra_leastCents_7 (by decide) (fun h7 => ?_) (fun h7 => ?_)
      · refine gj_iload_n d_Ra_leastCents_12 rfl ?_
        refine gj_if_le (tgt := 21) d_Ra_leastCents_13 (by decide) (fun h13 => ?_) (fun h13 => by have m13 : ¬ (0 ≤ 0) := fun q => h13 ((nI_leI (a := 0) (b := 0) (by omega) (by omega)).mpr q); exact absurd (show 0 ≤ 0 from by omega) m13)
        have m13 : 0 ≤ 0 := (nI_leI (a := 0) (b := 0) (by omega) (by omega)).mp h13
        refine gj_kc (v := (-1)) d_Ra_leastCents_21 (by decide) ?_
        refine gj_iret rfl (Nat.zero_le _) (Nat.zero_le _) d_Ra_leastCents_22 ?_
        exact gj_ei (if_neg (by first | exact fun q => absurd q.1 (Int32.not_le.mpr h2) | exact fun q => absurd q.2 (Int32.not_le.mpr h7))).symm
      · refine gj_kc (v := 0) d_Ra_leastCents_10 (by decide) ?_
        refine gj_iret rfl (Nat.zero_le _) (Nat.zero_le _) d_Ra_leastCents_11 ?_
        exact gj_ei (if_pos ⟨Int32.not_lt.mp h2, Int32.not_lt.mp h7⟩).symm
  | succ p ihp =>
    intro hp i lo hi K N hm
    have ih := fun (i : Nat) (lo hi : Int32) (h : i ≤ sp) => ihp (by omega) i lo hi (K := 0) (N := 0) h
    refine gj_iload d_Ra_leastCents_0 rfl ?_
    refine gj_if_gt (tgt := 12) d_Ra_leastCents_2 (by decide) (fun h2 => ?_) (fun h2 => ?_)
    · refine gj_iload_n d_Ra_leastCents_12 rfl ?_
      refine gj_if_le (tgt := 21) d_Ra_leastCents_13 (by decide) (fun h13 => by have m13 : p + 1 ≤ 0 := (nI_leI (a := p + 1) (b := 0) (by omega) (by omega)).mp h13; exact absurd m13 (show ¬ (p + 1 ≤ 0) from by omega)) (fun h13 => ?_)
      have m13 : ¬ (p + 1 ≤ 0) := fun q => h13 ((nI_leI (a := p + 1) (b := 0) (by omega) (by omega)).mpr q)
      refine gj_iload d_Ra_leastCents_16 rfl ?_
      refine gj_if_ge (tgt := 23) d_Ra_leastCents_18 (by decide) (fun h18 => ?_) (fun h18 => ?_)
      · refine gj_kc (v := (-1)) d_Ra_leastCents_23 (by decide) ?_
        refine gj_istore d_Ra_leastCents_24 (by decide) ?_
        refine gj_iload_n d_Ra_leastCents_26 rfl ?_
        refine gj_istore d_Ra_leastCents_27 (by decide) ?_
        refine gj_less (lc' := [(0, .ref (x)), (1, .int (l)), (2, .int (nI (p + 1))), (3, .int (nI i)), (4, .int (lo)), (5, .int (hi)), (6, .int (-1)), (7, .int (nI i))]) ⟨rfl, rfl, rfl, rfl, rfl, rfl, rfl, rfl, trivial⟩ ?_
        refine c_Ra_leastCents_loop hx hla hab hut hce h60 (fun i lo hi h => ih i lo hi h) (sp - i) i (-1) (by omega) ?_
        have e : pr_lc la ab ut ce sp l (p + 1) i lo hi = pr_ll (pr_lc la ab ut ce sp l p) la ab ut ce l lo hi (sp - i) i (-1) := (if_neg (by first | exact fun q => absurd q.1 (Int32.not_le.mpr h2) | exact fun q => absurd q.2 (Int32.not_le.mpr h7))).trans (if_neg (Int32.not_lt.mpr h18))
        rw [e]
      · refine gj_kc (v := (-1)) d_Ra_leastCents_21 (by decide) ?_
        refine gj_iret rfl (Nat.zero_le _) (Nat.zero_le _) d_Ra_leastCents_22 ?_
        exact gj_ei ((if_neg (by first | exact fun q => absurd q.1 (Int32.not_le.mpr h2) | exact fun q => absurd q.2 (Int32.not_le.mpr h7))).trans (if_pos (Int32.not_le.mp h18))).symm
    · refine gj_iload d_Ra_leastCents_5 rfl ?_
      refine gj_if_lt (tgt := 12) d_Ra_leastCents_7 (by decide) (fun h7 => ?_) (fun h7 => ?_)
      · refine gj_iload_n d_Ra_leastCents_12 rfl ?_
        refine gj_if_le (tgt := 21) d_Ra_leastCents_13 (by decide) (fun h13 => by have m13 : p + 1 ≤ 0 := (nI_leI (a := p + 1) (b := 0) (by omega) (by omega)).mp h13; exact absurd m13 (show ¬ (p + 1 ≤ 0) from by omega)) (fun h13 => ?_)
        have m13 : ¬ (p + 1 ≤ 0) := fun q => h13 ((nI_leI (a := p + 1) (b := 0) (by omega) (by omega)).mpr q)
        refine gj_iload d_Ra_leastCents_16 rfl ?_
        refine gj_if_ge (tgt := 23) d_Ra_leastCents_18 (by decide) (fun h18 => ?_) (fun h18 => ?_)
        · refine gj_kc (v := (-1)) d_Ra_leastCents_23 (by decide) ?_
          refine gj_istore d_Ra_leastCents_24 (by decide) ?_
          refine gj_iload_n d_Ra_leastCents_26 rfl ?_
          refine gj_istore d_Ra_leastCents_27 (by decide) ?_
          refine gj_less (lc' := [(0, .ref (x)), (1, .int (l)), (2, .int (nI (p + 1))), (3, .int (nI i)), (4, .int (lo)), (5, .int (hi)), (6, .int (-1)), (7, .int (nI i))]) ⟨rfl, rfl, rfl, rfl, rfl, rfl, rfl, rfl, trivial⟩ ?_
          refine c_Ra_leastCents_loop hx hla hab hut hce h60 (fun i lo hi h => ih i lo hi h) (sp - i) i (-1) (by omega) ?_
          have e : pr_lc la ab ut ce sp l (p + 1) i lo hi = pr_ll (pr_lc la ab ut ce sp l p) la ab ut ce l lo hi (sp - i) i (-1) := (if_neg (by first | exact fun q => absurd q.1 (Int32.not_le.mpr h2) | exact fun q => absurd q.2 (Int32.not_le.mpr h7))).trans (if_neg (Int32.not_lt.mpr h18))
          rw [e]
        · refine gj_kc (v := (-1)) d_Ra_leastCents_21 (by decide) ?_
          refine gj_iret rfl (Nat.zero_le _) (Nat.zero_le _) d_Ra_leastCents_22 ?_
          exact gj_ei ((if_neg (by first | exact fun q => absurd q.1 (Int32.not_le.mpr h2) | exact fun q => absurd q.2 (Int32.not_le.mpr h7))).trans (if_pos (Int32.not_le.mp h18))).symm
      · refine gj_kc (v := 0) d_Ra_leastCents_10 (by decide) ?_
        refine gj_iret rfl (Nat.zero_le _) (Nat.zero_le _) d_Ra_leastCents_11 ?_
        exact gj_ei (if_pos ⟨Int32.not_lt.mp h2, Int32.not_lt.mp h7⟩).symm
theorem c_RB_present {d K N n x q mk : Nat} {C : Nat → va_E} {sh : Nat → Option Nat} (o1 : C (1) = .inr (0, [.ref (2), .ref (x), .ref (q), .ref (23), .int (nI mk), .ref (24), .ref (65), .ref (66)])) (hsh : C (23) = .inl (3, 20, .inr (.inr (.inr (.inr sh))))) {s : Int32} {y : Nat} (hp : pr_pn sh s = some y) : gj_G md_RB_present d K N 0 0 0 [(0, .ref 1), (1, .int s)] [] n C (fun r => r = (.inl (some (.ref y)), n, C)) := by
  obtain ⟨j, hj, hj1, hj2⟩ := pr_pn_some hp
  subst hj1
  refine gj_iload_n d_RB_present_0 rfl ?_
  refine gj_if_lt (tgt := 19) d_RB_present_1 (by decide) (fun h1 => by have m1 : j < 0 := (nI_ltI (a := j) (b := 0) (by omega) (by omega)).mp h1; exact absurd m1 (show ¬ (j < 0) from by omega)) (fun h1 => ?_)
  have m1 : ¬ (j < 0) := fun q => h1 ((nI_ltI (a := j) (b := 0) (by omega) (by omega)).mpr q)
  refine gj_iload_n d_RB_present_4 rfl ?_
  refine gj_kb (v := 20) d_RB_present_5 (by decide) ?_
  refine gj_icmp_ge (tgt := 19) d_RB_present_7 (by decide) (fun h7 => by have m7 : 20 ≤ j := (nI_leI (a := 20) (b := j) (by omega) (by omega)).mp h7; exact absurd m7 (show ¬ (20 ≤ j) from by omega)) (fun h7 => ?_)
  have m7 : ¬ (20 ≤ j) := fun q => h7 ((nI_leI (a := 20) (b := j) (by omega) (by omega)).mpr q)
  refine gj_aload_n d_RB_present_10 rfl ?_
  refine gj_get d_RB_present_11 gf_RB_28 o1 rfl ?_
  refine gj_iload_n d_RB_present_14 rfl ?_
  refine gj_aald d_RB_present_15 hsh rfl (vp_in_nI (by omega) (by decide)) ?_
  refine gj_topv (v := .ref (y)) (by rw [nI_clamp (by omega), hj2]; rfl) ?_
  refine gj_goto (tgt := 20) d_RB_present_16 (by decide) ?_
  refine gj_astore_n d_RB_present_20 (by decide) ?_
  refine gj_aload_n d_RB_present_21 rfl ?_
  refine gj_ifnonnull (tgt := 35) d_RB_present_22 (by decide) ?_
  refine gj_aload_n d_RB_present_35 rfl ?_
  refine gj_aret rfl (by first | exact Or.inr ⟨_, rfl⟩ | exact Or.inl rfl) (Nat.zero_le _) (Nat.zero_le _) d_RB_present_36 ?_
  exact rfl
set_option maxHeartbeats 2000000 in
theorem c_RB_present_x {d K N n x q mk : Nat} {C : Nat → va_E} {sh : Nat → Option Nat} (o1 : C (1) = .inr (0, [.ref (2), .ref (x), .ref (q), .ref (23), .int (nI mk), .ref (24), .ref (65), .ref (66)])) (hsh : C (23) = .inl (3, 20, .inr (.inr (.inr (.inr sh))))) {s : Int32} (hK : 1 ≤ K) (hN : 6 ≤ N) (hp : pr_pn sh s = none) : gj_G md_RB_present (d) K N 0 0 0 [(0, .ref (1)), (1, .int (s))] [] n C (fun r => r = (.inr "java/util/NoSuchElementException", n, C)) := by
  refine gj_iload_n d_RB_present_0 rfl ?_
  refine gj_if_lt (tgt := 19) d_RB_present_1 (by decide) (fun h1 => ?_) (fun h1 => ?_)
  · refine gj_null d_RB_present_19 ?_
    refine gj_astore_nN d_RB_present_20 (by decide) ?_
    refine gj_aload_nN d_RB_present_21 rfl ?_
    refine gj_ifnonnullN d_RB_present_22 ?_
    refine gj_throw2 tk_RB_present_25 d_RB_present_25 d_RB_present_28 d_RB_present_29 d_RB_present_31 d_RB_present_34 rfl (Nat.le_of_ble_eq_true rfl) (by omega) (by omega) ?_
    exact rfl
  · refine gj_iload_n d_RB_present_4 rfl ?_
    refine gj_kb (v := 20) d_RB_present_5 (by decide) ?_
    refine gj_icmp_ge (tgt := 19) d_RB_present_7 (by decide) (fun h7 => ?_) (fun h7 => ?_)
    · refine gj_null d_RB_present_19 ?_
      refine gj_astore_nN d_RB_present_20 (by decide) ?_
      refine gj_aload_nN d_RB_present_21 rfl ?_
      refine gj_ifnonnullN d_RB_present_22 ?_
      refine gj_throw2 tk_RB_present_25 d_RB_present_25 d_RB_present_28 d_RB_present_29 d_RB_present_31 d_RB_present_34 rfl (Nat.le_of_ble_eq_true rfl) (by omega) (by omega) ?_
      exact rfl
    · obtain ⟨j, hj, e⟩ := nI_of h1
      subst e
      have hj2 : j < 20 := Nat.lt_of_not_le (fun q => h7 ((nI_leI (a := 20) (by decide) hj).mpr q))
      have hn := hp
      rw [pr_pn_of hj2] at hn
      refine gj_aload_n d_RB_present_10 rfl ?_
      refine gj_get d_RB_present_11 gf_RB_28 o1 rfl ?_
      refine gj_iload_n d_RB_present_14 rfl ?_
      refine gj_aald d_RB_present_15 hsh rfl (vp_in_nI (by omega) (by decide)) ?_
      refine gj_topv (v := .null) (by rw [nI_clamp (by omega), hn]; rfl) ?_
      refine gj_goto (tgt := 20) d_RB_present_16 (by decide) ?_
      refine gj_astore_nN d_RB_present_20 (by decide) ?_
      refine gj_aload_nN d_RB_present_21 rfl ?_
      refine gj_ifnonnullN d_RB_present_22 ?_
      refine gj_throw2 tk_RB_present_25 d_RB_present_25 d_RB_present_28 d_RB_present_29 d_RB_present_31 d_RB_present_34 rfl (Nat.le_of_ble_eq_true rfl) (by omega) (by omega) ?_
      exact rfl
def pr_ad (s c l w : Int32) : Int32 := if w = 2 then 1 else if w = 3 then (if s = -1 then 0 else 1) else if w = 4 then (if s = -1 then 0 else c) else if w = 5 then (if l = -1 then 0 else l) else 0
set_option maxHeartbeats 2000000 in
theorem c_RB_addend {d K N n y : Nat} {C : Nat → va_E} {z g v s c l : Int32} (hy : C (y) = .inr (4, [.int (z), .int (g), .int (v), .int (s), .int (c), .int (l)])) {w : Int32} : gj_G md_RB_addend (d + 1) K N 0 0 0 [(0, .ref (y)), (1, .int (w))] [] n C (fun r => r = (gj_iv (pr_ad s c l w), n, C)) := by
  refine gj_iload_n d_RB_addend_0 rfl ?_
  -- switch
  by_cases s1_0 : w = 2
  · refine gj_tableIn (off := 31) (tgt := 32) d_RB_addend_1 (by rw [s1_0]; decide) (by rw [s1_0]; decide) (by rw [s1_0]; decide) (by decide) ?_
    refine gj_kc (v := 1) d_RB_addend_32 (by decide) ?_
    refine gj_iret rfl (Nat.zero_le _) (Nat.zero_le _) d_RB_addend_33 ?_
    subst s1_0
    exact gj_ei rfl
  · by_cases s1_1 : w = 3
    · refine gj_tableIn (off := 33) (tgt := 34) d_RB_addend_1 (by rw [s1_1]; decide) (by rw [s1_1]; decide) (by rw [s1_1]; decide) (by decide) ?_
      refine gj_aload_n d_RB_addend_34 rfl ?_
      refine gj_callV (as := []) (rest := []) (K1 := 0) (N1 := 0) d_RB_addend_35 mo_Sh_isBooked gw_224 gw_225 gw_226 hy rfl pl_Sh_isBooked (Nat.le_of_ble_eq_true rfl) (Nat.le_of_ble_eq_true rfl) (Nat.zero_le _) (Nat.zero_le _) (c_Sh_isBooked hy) (fun E n' C' _ h => by cases h) (fun v n' C' _ h => ?_)
      cases h
      refine gj_if_eq (tgt := 45) d_RB_addend_38 (by decide) (fun h38 => ?_) (fun h38 => ?_)
      · refine gj_kc (v := 0) d_RB_addend_45 (by decide) ?_
        refine gj_iret rfl (Nat.zero_le _) (Nat.zero_le _) d_RB_addend_46 ?_
        subst s1_1
        have e : s = -1 := by
          by_cases q : s = -1
          · exact q
          · rw [if_neg q] at h38; exact absurd h38 (by decide)
        exact gj_ei (by unfold pr_ad; simp [e])
      · refine gj_kc (v := 1) d_RB_addend_41 (by decide) ?_
        refine gj_goto (tgt := 46) d_RB_addend_42 (by decide) ?_
        refine gj_iret rfl (Nat.zero_le _) (Nat.zero_le _) d_RB_addend_46 ?_
        subst s1_1
        have e : ¬ s = -1 := by
          by_cases q : s = -1
          · exact absurd (if_pos q) h38
          · exact q
        exact gj_ei (by unfold pr_ad; simp [e])
    · by_cases s1_2 : w = 4
      · refine gj_tableIn (off := 46) (tgt := 47) d_RB_addend_1 (by rw [s1_2]; decide) (by rw [s1_2]; decide) (by rw [s1_2]; decide) (by decide) ?_
        refine gj_aload_n d_RB_addend_47 rfl ?_
        refine gj_callV (as := []) (rest := []) (K1 := 0) (N1 := 0) d_RB_addend_48 mo_Sh_isBooked gw_224 gw_225 gw_226 hy rfl pl_Sh_isBooked (Nat.le_of_ble_eq_true rfl) (Nat.le_of_ble_eq_true rfl) (Nat.zero_le _) (Nat.zero_le _) (c_Sh_isBooked hy) (fun E n' C' _ h => by cases h) (fun v n' C' _ h => ?_)
        cases h
        refine gj_if_eq (tgt := 61) d_RB_addend_51 (by decide) (fun h51 => ?_) (fun h51 => ?_)
        · refine gj_kc (v := 0) d_RB_addend_61 (by decide) ?_
          refine gj_iret rfl (Nat.zero_le _) (Nat.zero_le _) d_RB_addend_62 ?_
          subst s1_2
          have e : s = -1 := by
            by_cases q : s = -1
            · exact q
            · rw [if_neg q] at h51; exact absurd h51 (by decide)
          exact gj_ei (by unfold pr_ad; simp [e])
        · refine gj_aload_n d_RB_addend_54 rfl ?_
          refine gj_get d_RB_addend_55 gf_RB_141 hy rfl ?_
          refine gj_goto (tgt := 62) d_RB_addend_58 (by decide) ?_
          refine gj_iret rfl (Nat.zero_le _) (Nat.zero_le _) d_RB_addend_62 ?_
          subst s1_2
          have e : ¬ s = -1 := by
            by_cases q : s = -1
            · exact absurd (if_pos q) h51
            · exact q
          exact gj_ei (by unfold pr_ad; simp [e])
      · by_cases s1_3 : w = 5
        · refine gj_tableIn (off := 62) (tgt := 63) d_RB_addend_1 (by rw [s1_3]; decide) (by rw [s1_3]; decide) (by rw [s1_3]; decide) (by decide) ?_
          refine gj_aload_n d_RB_addend_63 rfl ?_
          refine gj_callV (as := []) (rest := []) (K1 := 0) (N1 := 0) d_RB_addend_64 mo_Sh_isInvoiced gw_228 gw_229 gw_230 hy rfl pl_Sh_isInvoiced (Nat.le_of_ble_eq_true rfl) (Nat.le_of_ble_eq_true rfl) (Nat.zero_le _) (Nat.zero_le _) (c_Sh_isInvoiced hy) (fun E n' C' _ h => by cases h) (fun v n' C' _ h => ?_)
          cases h
          refine gj_if_eq (tgt := 77) d_RB_addend_67 (by decide) (fun h67 => ?_) (fun h67 => ?_)
          · refine gj_kc (v := 0) d_RB_addend_77 (by decide) ?_
            refine gj_iret rfl (Nat.zero_le _) (Nat.zero_le _) d_RB_addend_78 ?_
            subst s1_3
            have e : l = -1 := by
              by_cases q : l = -1
              · exact q
              · rw [if_neg q] at h67; exact absurd h67 (by decide)
            exact gj_ei (by unfold pr_ad; simp [e])
          · refine gj_aload_n d_RB_addend_70 rfl ?_
            refine gj_get d_RB_addend_71 gf_RB_161 hy rfl ?_
            refine gj_goto (tgt := 78) d_RB_addend_74 (by decide) ?_
            refine gj_iret rfl (Nat.zero_le _) (Nat.zero_le _) d_RB_addend_78 ?_
            subst s1_3
            have e : ¬ l = -1 := by
              by_cases q : l = -1
              · exact absurd (if_pos q) h67
              · exact q
            exact gj_ei (by unfold pr_ad; simp [e])
        · have a1_0 : ¬ (w : Int32).toInt = 2 := fun h => s1_0 (Int32.toInt_inj.mp (h.trans (by decide)))
          have a1_1 : ¬ (w : Int32).toInt = 3 := fun h => s1_1 (Int32.toInt_inj.mp (h.trans (by decide)))
          have a1_2 : ¬ (w : Int32).toInt = 4 := fun h => s1_2 (Int32.toInt_inj.mp (h.trans (by decide)))
          have a1_3 : ¬ (w : Int32).toInt = 5 := fun h => s1_3 (Int32.toInt_inj.mp (h.trans (by decide)))
          refine gj_tableOut (tgt := 79) d_RB_addend_1 (by omega) (by decide) ?_
          refine gj_kc (v := 0) d_RB_addend_79 (by decide) ?_
          refine gj_iret rfl (Nat.zero_le _) (Nat.zero_le _) d_RB_addend_80 ?_
          exact gj_ei (by unfold pr_ad; rw [if_neg s1_0, if_neg s1_1, if_neg s1_2, if_neg s1_3])
end
section
/-! numbers are naturals -/
theorem pt_dg {c : Int32} (h : 48 ≤ c ∧ c ≤ 57) : ∃ k : Nat, k ≤ 9 ∧ c - 48 = nI k := by
  have h1 := Int32.le_iff_toInt_le.mp h.1
  have h2 := Int32.le_iff_toInt_le.mp h.2
  have e1 : (48 : Int32).toInt = 48 := by decide
  have e2 : (57 : Int32).toInt = 57 := by decide
  have hn : ¬ c < 0 := by
    rw [Int32.lt_iff_toInt_lt]
    have e3 : (0 : Int32).toInt = 0 := by decide
    omega
  obtain ⟨j, hj, rfl⟩ := nI_of hn
  rw [nI_toInt hj] at h1 h2
  obtain ⟨k, rfl⟩ : ∃ k, j = k + 48 := ⟨j - 48, by omega⟩
  refine ⟨k, by omega, ?_⟩
  rw [← nI_add]
  show nI k + 48 - 48 = nI k
  rw [Int32.add_sub_cancel]
theorem pt_vl_nat (f : Nat → Int32) (ln : Nat) : ∀ m q v, ∃ u, u < (v + 1) * 10 ^ m ∧ pt_vl f ln q (nI v) m = nI u
  | 0, _, v => ⟨v, by omega, rfl⟩
  | m + 1, q, v => by
    unfold pt_vl
    split
    · rename_i h
      obtain ⟨k, hk, e⟩ := pt_dg h
      rw [e, show nI v * 10 = nI (v * 10) from nI_mul v 10, nI_add]
      obtain ⟨u, hu, eu⟩ := pt_vl_nat f ln m (q + 1) (v * 10 + k)
      refine ⟨u, Nat.lt_of_lt_of_le hu ?_, eu⟩
      rw [Nat.pow_succ, Nat.mul_comm (10 ^ m) 10, ← Nat.mul_assoc]
      exact Nat.mul_le_mul_right _ (by omega)
    · refine ⟨v, ?_, rfl⟩
      have h10 : 1 ≤ 10 ^ (m + 1) := Nat.one_le_pow _ _ (by omega)
      calc v < v + 1 := Nat.lt_succ_self v
        _ = (v + 1) * 1 := (Nat.mul_one _).symm
        _ ≤ _ := Nat.mul_le_mul_left _ h10
theorem pt_num_nat (f : Nat → Int32) (ln p : Nat) (h : ¬ pt_num f ln p = -1) : ∃ u, u < 2 ^ 31 ∧ pt_num f ln p = nI u := by
  unfold pt_num at h ⊢
  split
  · rename_i h1
    rw [if_pos h1] at h
    split
    · rename_i h2
      exact absurd (if_pos h2) h
    · obtain ⟨u, hu, e⟩ := pt_vl_nat f ln 9 (p + 1) 0
      exact ⟨u, by omega, e⟩
  · rename_i h1
    exact absurd (if_neg h1) h
theorem pt_run_nat (f : Nat → Int32) (ln : Nat) : ∀ m i p g, (pt_run f ln m i p g).1 = true → (∀ k, k < i → (pt_run f ln m i p g).2.2 k = g k) ∧ ∀ k, i ≤ k → k < i + m → ∃ u, u < 2 ^ 31 ∧ (pt_run f ln m i p g).2.2 k = nI u
  | 0, i, _, _, _ => ⟨fun _ _ => rfl, fun k h1 h2 => by omega⟩
  | m + 1, i, p, g, h => by
    unfold pt_run at h ⊢
    split
    · rename_i h1
      rw [if_pos h1] at h
      exact nomatch h
    · rename_i h1
      rw [if_neg h1] at h
      obtain ⟨a1, a2⟩ := pt_run_nat f ln m (i + 1) (pt_np f ln p) (upd g i (pt_num f ln p)) h
      refine ⟨fun k hk => (a1 k (by omega)).trans (upd_ne _ _ (by omega)), fun k hk1 hk2 => ?_⟩
      by_cases hk : k = i
      · subst hk
        rw [a1 k (by omega), upd_self]
        exact pt_num_nat f ln p h1
      · exact a2 k (by omega) (by omega)
theorem pt_at_lt {f : Nat → Int32} {ln q : Nat} (h : ¬ pt_at f ln q = -1) : q < ln := by
  rcases Nat.lt_or_ge q ln with h1 | h1
  · exact h1
  · exact absurd (if_neg (Nat.not_lt.mpr h1)) h
theorem pt_blv_cases (f : Nat → Int32) (ln q : Nat) (g : Nat → Int32) : pt_blv f ln q g = -1 ∨ ∃ p2, p2 < ln ∧ pt_blv f ln q g = nI (p2 + 1) := by
  unfold pt_blv
  split
  · exact Or.inl rfl
  · split
    · rename_i h
      exact Or.inr ⟨_, pt_at_lt (by rw [h.2]; decide), rfl⟩
    · exact Or.inl rfl
theorem pt_blg_nat {f : Nat → Int32} {ln q : Nat} {g : Nat → Int32} (h : ¬ pt_blv f ln q g = -1) : ∃ u, u < 2 ^ 31 ∧ pt_blg f ln q g 0 = nI u := by
  unfold pt_blv at h
  unfold pt_blg
  split
  · rename_i h1
    exact absurd (if_pos h1) h
  · rename_i h1
    rw [if_neg h1] at h
    by_cases h2 : (pt_lr f ln q g).1 = true
    · exact (pt_run_nat f ln _ 0 _ _ h2).2 0 (Nat.le_refl 0) (by omega)
    · exact absurd (if_neg (fun x => h2 x.1)) h
set_option maxHeartbeats 2000000 in
theorem c_RB_priceNow_x {d K N n x q mk y li sp a sz : Nat} {C : Nat → va_E} {la ut ce dv mi fu fd bk fr up dn : Nat → Int32} {co : Nat → Option Nat} {z g v s c l : Int32} (o1 : C (1) = .inr (0, [.ref (2), .ref (x), .ref (q), .ref (23), .int (nI mk), .ref (24), .ref (65), .ref (66)])) (hx : C (x) = .inr (2, [.ref (x + 1), .ref (x + 2), .ref (x + 3), .ref (x + 4), .ref (x + 5), .ref (x + 6), .ref (x + 7), .ref (x + 8), .int (nI li), .int (nI sp)])) (hla : C (x + 1) = .inl (0, 60, .inl la)) (hut : C (x + 3) = .inl (0, 60, .inl ut)) (hce : C (x + 4) = .inl (0, 60, .inl ce)) (hdv : C (x + 5) = .inl (0, 10, .inl dv)) (hmi : C (x + 6) = .inl (0, 10, .inl mi)) (hfu : C (x + 7) = .inl (0, 10, .inl fu)) (hfd : C (x + 8) = .inl (0, 10, .inl fd)) (hy : C (y) = .inr (4, [.int (z), .int (g), .int (v), .int (s), .int (c), .int (l)])) (o24 : C (24) = .inl (4, 10, .inr (.inr (.inr (.inr co))))) (o65 : C (65) = .inl (0, 10, .inl bk)) (r0 : C (25 + 4 * a) = .inr (3, [.ref (25 + 4 * a + 1), .ref (25 + 4 * a + 2), .ref (25 + 4 * a + 3), .int (nI sz)])) (r1 : C (25 + 4 * a + 1) = .inl (0, 4, .inl fr)) (r2 : C (25 + 4 * a + 2) = .inl (0, 4, .inl up)) (r3 : C (25 + 4 * a + 3) = .inl (0, 4, .inl dn)) (ha : a < 10) (h60 : sp ≤ 60) (h0 : dv a = 0) (hK : 1 ≤ K) (hN : 6 ≤ N) : gj_G md_RB_priceNow (d + 3) K N 0 0 0 [(0, .ref (1)), (1, .ref (y)), (2, .int (nI a))] [] n C (fun r => r = (.inr "java/lang/ArithmeticException", n, C)) := by
  refine gj_aload_n d_RB_priceNow_0 rfl ?_
  refine gj_get d_RB_priceNow_1 gf_RB_19 o1 rfl ?_
  refine gj_iload_n d_RB_priceNow_4 rfl ?_
  refine gj_aload_n d_RB_priceNow_5 rfl ?_
  refine gj_get d_RB_priceNow_6 gf_RB_103 hy rfl ?_
  refine gj_callS (as := [.int (nI a), .int (z)]) (rest := [.ref (x)]) (K1 := 0) (N1 := 0) d_RB_priceNow_9 mo_RB_laneOf gw_447 gw_204 gw_20 pl_RB_laneOf (Nat.le_of_ble_eq_true rfl) (Nat.le_of_ble_eq_true rfl) (Nat.zero_le _) (Nat.zero_le _) (c_RB_laneOf (nI a) z) (fun E n' C' _ h => by cases h) (fun v n' C' _ h => ?_)
  cases h
  refine gj_aload_n d_RB_priceNow_12 rfl ?_
  refine gj_get d_RB_priceNow_13 gf_RB_19 o1 rfl ?_
  refine gj_aload_n d_RB_priceNow_16 rfl ?_
  refine gj_iload_n d_RB_priceNow_17 rfl ?_
  refine gj_callV (as := [.ref (y), .int (nI a)]) (rest := [.int (nI a * 10 + z), .ref (x)]) (K1 := 1) (N1 := 6) d_RB_priceNow_18 mo_Ra_weightToPay gw_409 gw_410 gw_411 hx rfl pl_Ra_weightToPay (Nat.le_of_ble_eq_true rfl) (Nat.le_of_ble_eq_true rfl) (by omega) (by omega) (c_Ra_weightToPay_x hx hdv hy ha (Nat.le_refl 1) (Nat.le_refl 6) h0) (fun E n18 C18 g18 q18 => ?_) (fun v n' C' _ h => by cases h)
  cases q18
  exact gj_xout rfl (by omega) (by omega) rfl
set_option maxHeartbeats 2000000 in
theorem c_RB_priceNow_no {d K N n x q mk y li sp a sz : Nat} {C : Nat → va_E} {la ut ce dv mi fu fd bk fr up dn : Nat → Int32} {co : Nat → Option Nat} {z g v s c l : Int32} (o1 : C (1) = .inr (0, [.ref (2), .ref (x), .ref (q), .ref (23), .int (nI mk), .ref (24), .ref (65), .ref (66)])) (hx : C (x) = .inr (2, [.ref (x + 1), .ref (x + 2), .ref (x + 3), .ref (x + 4), .ref (x + 5), .ref (x + 6), .ref (x + 7), .ref (x + 8), .int (nI li), .int (nI sp)])) (hla : C (x + 1) = .inl (0, 60, .inl la)) (hut : C (x + 3) = .inl (0, 60, .inl ut)) (hce : C (x + 4) = .inl (0, 60, .inl ce)) (hdv : C (x + 5) = .inl (0, 10, .inl dv)) (hmi : C (x + 6) = .inl (0, 10, .inl mi)) (hfu : C (x + 7) = .inl (0, 10, .inl fu)) (hfd : C (x + 8) = .inl (0, 10, .inl fd)) (hy : C (y) = .inr (4, [.int (z), .int (g), .int (v), .int (s), .int (c), .int (l)])) (o24 : C (24) = .inl (4, 10, .inr (.inr (.inr (.inr co))))) (o65 : C (65) = .inl (0, 10, .inl bk)) (r0 : C (25 + 4 * a) = .inr (3, [.ref (25 + 4 * a + 1), .ref (25 + 4 * a + 2), .ref (25 + 4 * a + 3), .int (nI sz)])) (r1 : C (25 + 4 * a + 1) = .inl (0, 4, .inl fr)) (r2 : C (25 + 4 * a + 2) = .inl (0, 4, .inl up)) (r3 : C (25 + 4 * a + 3) = .inl (0, 4, .inl dn)) (ha : a < 10) (h60 : sp ≤ 60) (h0 : ¬ dv a = 0) (hs : pr_st la ut (nI a * 10 + z) (pr_w (dv a) g v) sp 0 = -1) : gj_G md_RB_priceNow (d + 3) K N 0 0 0 [(0, .ref (1)), (1, .ref (y)), (2, .int (nI a))] [] n C (fun r => r = (gj_iv (-1), n, C)) := by
  refine gj_aload_n d_RB_priceNow_0 rfl ?_
  refine gj_get d_RB_priceNow_1 gf_RB_19 o1 rfl ?_
  refine gj_iload_n d_RB_priceNow_4 rfl ?_
  refine gj_aload_n d_RB_priceNow_5 rfl ?_
  refine gj_get d_RB_priceNow_6 gf_RB_103 hy rfl ?_
  refine gj_callS (as := [.int (nI a), .int (z)]) (rest := [.ref (x)]) (K1 := 0) (N1 := 0) d_RB_priceNow_9 mo_RB_laneOf gw_447 gw_204 gw_20 pl_RB_laneOf (Nat.le_of_ble_eq_true rfl) (Nat.le_of_ble_eq_true rfl) (Nat.zero_le _) (Nat.zero_le _) (c_RB_laneOf (nI a) z) (fun E n' C' _ h => by cases h) (fun v n' C' _ h => ?_)
  cases h
  refine gj_aload_n d_RB_priceNow_12 rfl ?_
  refine gj_get d_RB_priceNow_13 gf_RB_19 o1 rfl ?_
  refine gj_aload_n d_RB_priceNow_16 rfl ?_
  refine gj_iload_n d_RB_priceNow_17 rfl ?_
  refine gj_callV (as := [.ref (y), .int (nI a)]) (rest := [.int (nI a * 10 + z), .ref (x)]) (K1 := 0) (N1 := 0) d_RB_priceNow_18 mo_Ra_weightToPay gw_409 gw_410 gw_411 hx rfl pl_Ra_weightToPay (Nat.le_of_ble_eq_true rfl) (Nat.le_of_ble_eq_true rfl) (Nat.zero_le _) (Nat.zero_le _) (c_Ra_weightToPay hx hdv hy ha h0) (fun E n' C' _ h => by cases h) (fun v n' C' _ h => ?_)
  cases h
  refine gj_callV (as := [.int (nI a * 10 + z), .int (pr_w (dv a) g v)]) (rest := []) (K1 := 0) (N1 := 0) d_RB_priceNow_21 mo_Ra_stepFor gw_448 gw_449 gw_450 hx rfl pl_Ra_stepFor (Nat.le_of_ble_eq_true rfl) (Nat.le_of_ble_eq_true rfl) (Nat.zero_le _) (Nat.zero_le _) (c_Ra_stepFor hx hla hut h60) (fun E n' C' _ h => by cases h) (fun v n' C' _ h => ?_)
  cases h
  refine gj_top hs ?_
  refine gj_istore_n d_RB_priceNow_24 (by decide) ?_
  refine gj_iload_n d_RB_priceNow_25 rfl ?_
  refine gj_kc (v := (-1)) d_RB_priceNow_26 (by decide) ?_
  refine gj_icmp_ne (tgt := 32) d_RB_priceNow_27 (by decide) (fun h27 => absurd (rfl) h27) (fun h27 => ?_)
  refine gj_kc (v := (-1)) d_RB_priceNow_30 (by decide) ?_
  refine gj_iret rfl (Nat.zero_le _) (Nat.zero_le _) d_RB_priceNow_31 ?_
  exact rfl
set_option maxHeartbeats 2000000 in
theorem c_RB_priceNow {d K N n x q mk y li sp a sz : Nat} {C : Nat → va_E} {la ut ce dv mi fu fd bk fr up dn : Nat → Int32} {co : Nat → Option Nat} {z g v s c l : Int32} (o1 : C (1) = .inr (0, [.ref (2), .ref (x), .ref (q), .ref (23), .int (nI mk), .ref (24), .ref (65), .ref (66)])) (hx : C (x) = .inr (2, [.ref (x + 1), .ref (x + 2), .ref (x + 3), .ref (x + 4), .ref (x + 5), .ref (x + 6), .ref (x + 7), .ref (x + 8), .int (nI li), .int (nI sp)])) (hla : C (x + 1) = .inl (0, 60, .inl la)) (hut : C (x + 3) = .inl (0, 60, .inl ut)) (hce : C (x + 4) = .inl (0, 60, .inl ce)) (hdv : C (x + 5) = .inl (0, 10, .inl dv)) (hmi : C (x + 6) = .inl (0, 10, .inl mi)) (hfu : C (x + 7) = .inl (0, 10, .inl fu)) (hfd : C (x + 8) = .inl (0, 10, .inl fd)) (hy : C (y) = .inr (4, [.int (z), .int (g), .int (v), .int (s), .int (c), .int (l)])) (o24 : C (24) = .inl (4, 10, .inr (.inr (.inr (.inr co))))) (o65 : C (65) = .inl (0, 10, .inl bk)) (r0 : C (25 + 4 * a) = .inr (3, [.ref (25 + 4 * a + 1), .ref (25 + 4 * a + 2), .ref (25 + 4 * a + 3), .int (nI sz)])) (r1 : C (25 + 4 * a + 1) = .inl (0, 4, .inl fr)) (r2 : C (25 + 4 * a + 2) = .inl (0, 4, .inl up)) (r3 : C (25 + 4 * a + 3) = .inl (0, 4, .inl dn)) (ha : a < 10) (h60 : sp ≤ 60) (h0 : ¬ dv a = 0) {i : Nat} (hi : i < 60) (hs : pr_st la ut (nI a * 10 + z) (pr_w (dv a) g v) sp 0 = nI i) (hf : ¬ fd a = 0) (hco : co a = some (25 + 4 * a)) (hsz : sz ≤ 4) (hdn : ∀ p, p < sz → ¬ dn p = 0) : gj_G md_RB_priceNow (d + 3) K N 0 0 0 [(0, .ref (1)), (1, .ref (y)), (2, .int (nI a))] [] n C (fun r => r = (gj_iv (pr_px (pr_ch (ce i) (fu a) (fd a) (mi a)) up dn (pf_la fr (bk a) sz 0 none)), n, C)) := by
  refine gj_aload_n d_RB_priceNow_0 rfl ?_
  refine gj_get d_RB_priceNow_1 gf_RB_19 o1 rfl ?_
  refine gj_iload_n d_RB_priceNow_4 rfl ?_
  refine gj_aload_n d_RB_priceNow_5 rfl ?_
  refine gj_get d_RB_priceNow_6 gf_RB_103 hy rfl ?_
  refine gj_callS (as := [.int (nI a), .int (z)]) (rest := [.ref (x)]) (K1 := 0) (N1 := 0) d_RB_priceNow_9 mo_RB_laneOf gw_447 gw_204 gw_20 pl_RB_laneOf (Nat.le_of_ble_eq_true rfl) (Nat.le_of_ble_eq_true rfl) (Nat.zero_le _) (Nat.zero_le _) (c_RB_laneOf (nI a) z) (fun E n' C' _ h => by cases h) (fun v n' C' _ h => ?_)
  cases h
  refine gj_aload_n d_RB_priceNow_12 rfl ?_
  refine gj_get d_RB_priceNow_13 gf_RB_19 o1 rfl ?_
  refine gj_aload_n d_RB_priceNow_16 rfl ?_
  refine gj_iload_n d_RB_priceNow_17 rfl ?_
  refine gj_callV (as := [.ref (y), .int (nI a)]) (rest := [.int (nI a * 10 + z), .ref (x)]) (K1 := 0) (N1 := 0) d_RB_priceNow_18 mo_Ra_weightToPay gw_409 gw_410 gw_411 hx rfl pl_Ra_weightToPay (Nat.le_of_ble_eq_true rfl) (Nat.le_of_ble_eq_true rfl) (Nat.zero_le _) (Nat.zero_le _) (c_Ra_weightToPay hx hdv hy ha h0) (fun E n' C' _ h => by cases h) (fun v n' C' _ h => ?_)
  cases h
  refine gj_callV (as := [.int (nI a * 10 + z), .int (pr_w (dv a) g v)]) (rest := []) (K1 := 0) (N1 := 0) d_RB_priceNow_21 mo_Ra_stepFor gw_448 gw_449 gw_450 hx rfl pl_Ra_stepFor (Nat.le_of_ble_eq_true rfl) (Nat.le_of_ble_eq_true rfl) (Nat.zero_le _) (Nat.zero_le _) (c_Ra_stepFor hx hla hut h60) (fun E n' C' _ h => by cases h) (fun v n' C' _ h => ?_)
  cases h
  refine gj_top hs ?_
  refine gj_istore_n d_RB_priceNow_24 (by decide) ?_
  refine gj_iload_n d_RB_priceNow_25 rfl ?_
  refine gj_kc (v := (-1)) d_RB_priceNow_26 (by decide) ?_
  refine gj_icmp_ne (tgt := 32) d_RB_priceNow_27 (by decide) (fun h27 => ?_) (fun h27 => absurd h27 (nI_m1 (by omega)))
  refine gj_aload_n d_RB_priceNow_32 rfl ?_
  refine gj_get d_RB_priceNow_33 gf_RB_19 o1 rfl ?_
  refine gj_iload_n d_RB_priceNow_36 rfl ?_
  refine gj_iload_n d_RB_priceNow_37 rfl ?_
  refine gj_callV (as := [.int (nI i), .int (nI a)]) (rest := []) (K1 := 0) (N1 := 0) d_RB_priceNow_38 mo_Ra_charged gw_452 gw_453 gw_454 hx rfl pl_Ra_charged (Nat.le_of_ble_eq_true rfl) (Nat.le_of_ble_eq_true rfl) (Nat.zero_le _) (Nat.zero_le _) (c_Ra_charged hx hce hmi hfu hfd ha hi hf) (fun E n' C' _ h => by cases h) (fun v n' C' _ h => ?_)
  cases h
  refine gj_lstore d_RB_priceNow_41 (by decide) ?_
  refine gj_aload_n d_RB_priceNow_43 rfl ?_
  refine gj_get d_RB_priceNow_44 gf_RB_38 o1 rfl ?_
  refine gj_iload_n d_RB_priceNow_47 rfl ?_
  refine gj_aald d_RB_priceNow_48 o24 rfl (vp_in_nI (by omega) (by decide)) ?_
  refine gj_topv (v := .ref (25 + 4 * a)) (by rw [nI_clamp (by omega), hco]; rfl) ?_
  refine gj_astore d_RB_priceNow_49 (by decide) ?_
  refine gj_aload d_RB_priceNow_51 rfl ?_
  refine gj_aload_n d_RB_priceNow_53 rfl ?_
  refine gj_get d_RB_priceNow_54 gf_RB_45 o1 rfl ?_
  refine gj_iload_n d_RB_priceNow_57 rfl ?_
  refine gj_iald d_RB_priceNow_58 o65 rfl (vp_in_nI (by omega) (by decide)) ?_
  refine gj_top (y := bk (a)) (congrArg bk (nI_clamp (by omega))) ?_
  refine gj_callV (as := [.int (bk (a))]) (rest := []) (K1 := 0) (N1 := 0) d_RB_priceNow_59 mo_Ro_latest gw_459 gw_460 gw_461 r0 rfl pl_Ro_latest (Nat.le_of_ble_eq_true rfl) (Nat.le_of_ble_eq_true rfl) (Nat.zero_le _) (Nat.zero_le _) (c_Ro_latest r0 r1 hsz (by omega)) (fun E n' C' _ h => by cases h) (fun v n' C' _ h => ?_)
  cases h
  rcases ho : pf_la fr (bk a) sz 0 none with _ | p
  · refine gj_top (y := -1) rfl ?_
    refine gj_istore d_RB_priceNow_62 (by decide) ?_
    refine gj_iload d_RB_priceNow_64 rfl ?_
    refine gj_kc (v := (-1)) d_RB_priceNow_66 (by decide) ?_
    refine gj_icmp_eq (tgt := 96) d_RB_priceNow_67 (by decide) (fun h67 => ?_) (fun h67 => absurd (rfl) h67)
    refine gj_lload d_RB_priceNow_96 rfl ?_
    refine gj_l2i d_RB_priceNow_98 ?_
    refine gj_iret rfl (Nat.zero_le _) (Nat.zero_le _) d_RB_priceNow_99 ?_
    exact rfl
  · have hp := pf_la_lt fr (bk a) sz 0 none (fun _ h => nomatch h) p ho
    refine gj_top (y := nI p) rfl ?_
    refine gj_istore d_RB_priceNow_62 (by decide) ?_
    refine gj_iload d_RB_priceNow_64 rfl ?_
    refine gj_kc (v := (-1)) d_RB_priceNow_66 (by decide) ?_
    refine gj_icmp_eq (tgt := 96) d_RB_priceNow_67 (by decide) (fun h67 => absurd h67 (nI_m1 (by omega))) (fun h67 => ?_)
    refine gj_lload d_RB_priceNow_70 rfl ?_
    refine gj_aload d_RB_priceNow_72 rfl ?_
    refine gj_get d_RB_priceNow_74 gf_RB_177 r0 rfl ?_
    refine gj_iload d_RB_priceNow_77 rfl ?_
    refine gj_iald d_RB_priceNow_79 r2 rfl (vp_in_nI (by omega) (by decide)) ?_
    refine gj_top (y := up (p)) (congrArg up (nI_clamp (by omega))) ?_
    refine gj_i2l d_RB_priceNow_80 ?_
    refine gj_lmul d_RB_priceNow_81 ?_
    refine gj_aload d_RB_priceNow_82 rfl ?_
    refine gj_get d_RB_priceNow_84 gf_RB_180 r0 rfl ?_
    refine gj_iload d_RB_priceNow_87 rfl ?_
    refine gj_iald d_RB_priceNow_89 r3 rfl (vp_in_nI (by omega) (by decide)) ?_
    refine gj_top (y := dn (p)) (congrArg dn (nI_clamp (by omega))) ?_
    refine gj_i2l d_RB_priceNow_90 ?_
    refine gj_callS (as := [.long ((pr_ch (ce i) (fu a) (fd a) (mi a)) * ((up (p) : Int32).toInt64)), .long ((dn (p) : Int32).toInt64)]) (rest := []) (K1 := 0) (N1 := 0) d_RB_priceNow_91 mo_RB_dividedUp gw_463 gw_414 gw_20 pl_RB_dividedUp (Nat.le_of_ble_eq_true rfl) (Nat.le_of_ble_eq_true rfl) (Nat.zero_le _) (Nat.zero_le _) (c_RB_dividedUp (l64_ne0 (hdn p (by omega)))) (fun E n' C' _ h => by cases h) (fun v n' C' _ h => ?_)
    cases h
    refine gj_lstore d_RB_priceNow_94 (by decide) ?_
    refine gj_lload d_RB_priceNow_96 rfl ?_
    refine gj_l2i d_RB_priceNow_98 ?_
    refine gj_iret rfl (Nat.zero_le _) (Nat.zero_le _) d_RB_priceNow_99 ?_
    exact rfl
end
section
/-! readInto: the class's reading, line by line -/
noncomputable def pt_rd (f : Nat → Int32) (ln : Nat) : Nat → Nat → Nat → (Nat → Int32) → pr_T → Option (pr_T × Nat) × Nat
  | 0, li, pl, _, T => if pl < ln then (none, pl) else (some (T, li), pl)
  | m + 1, li, pl, g, T => if pl < ln then (@ite _ (¬ pt_blv f ln pl g = -1 ∧ pr_ok (pt_at f ln pl) (pt_blg f ln pl g 0).toNatClampNeg (pt_blg f ln pl g 1) (pt_blg f ln pl g 2) (pt_blg f ln pl g 3) T) (Classical.propDecidable _)
      (pt_rd f ln m (li + 1) (pt_blv f ln pl g).toNatClampNeg (pt_blg f ln pl g) (pr_nx (pt_at f ln pl) (pt_blg f ln pl g 0).toNatClampNeg (pt_blg f ln pl g 1) (pt_blg f ln pl g 2) (pt_blg f ln pl g 3) T)) (none, pl))
    else (some (T, li), pl)
def pt_res (R : Option (pr_T × Nat) × Nat) (t : Nat) (C : Nat → va_E) (v : Int32) : Prop := match R with
  | (some (T, l), _) => v = -1 ∧ pr_M C t T (nI l)
  | (none, p) => v = nI p ∧ ∃ T l, pr_M C t T l
theorem pr_nx_sp (L : Int32) (j : Nat) (b c e : Int32) (T : pr_T) : (pr_nx L j b c e T).2.2.2.2.2.2.2.2 ≤ T.2.2.2.2.2.2.2.2 + 1 := by
  obtain ⟨la, ab, ut, ce, dv, mi, fu, fd, sp⟩ := T
  unfold pr_nx
  dsimp only
  split
  · exact Nat.le_refl _
  · split
    · exact Nat.le_succ _
    · split <;> exact Nat.le_succ _
set_option maxHeartbeats 2000000 in
theorem c_RB_readInto_loop {d K N n x q mk ln t : Nat} {f : Nat → Int32} (h6 : ln ≤ 600) (ht : 4 < t) {Q : gj_R → Prop} : ∀ (m : Nat) (li : Nat) (pl : Nat) (pp : Int32) (g : Nat → Int32) (T : pr_T) (C : Nat → va_E), li + m = 60 → pl ≤ 600 → C 1 = .inr (0, [.ref (2), .ref (x), .ref (q), .ref (23), .int (nI mk), .ref (24), .ref (65), .ref (66)]) → C 2 = .inr (1, [.ref (3), .ref (4), .int (nI ln), .int (pp)]) → C 3 = .inl (0, 600, .inl f) → C 4 = .inl (0, 4, .inl g) → pr_M C t T (nI li) → T.2.2.2.2.2.2.2.2 ≤ li → (∀ (C2 : Nat → va_E) (pp2 : Int32) (g2 : Nat → Int32) (v : Int32), C2 2 = .inr (1, [.ref 3, .ref 4, .int (nI ln), .int pp2]) → C2 4 = .inl (0, 4, .inl g2) → (∀ y, y ≠ 2 → y ≠ 4 → (y < t ∨ t + 8 < y) → C2 y = C y) → pt_res (pt_rd f ln m li pl g T) t C2 v → Q (gj_iv v, n, C2)) → gj_G md_RB_readInto (d + 4) K N 0 0 8 [(0, .ref (1)), (1, .ref (t)), (2, .int (nI pl)), (3, .int (nI li))] [] n C Q := by
  intro m
  induction m with
  | zero =>
    intro li pl pp g T C hm hpl o1 o2 o3 o4 hM hsp hend
    obtain ⟨la, ab, ut, ce, dv, mi, fu, fd, sp⟩ := T
    obtain ⟨k0, k1, k2, k3, k4, k5, k6, k7, k8⟩ := hM
    dsimp only at hsp k0 k1 k2 k3 k4 k5 k6 k7 k8
    refine gj_iload_n d_RB_readInto_8 rfl ?_
    refine gj_kb (v := 60) d_RB_readInto_9 (by decide) ?_
    refine gj_icmp_ge (tgt := 74) d_RB_readInto_11 (by decide) (fun h11 => ?_) (fun h11 => by have m11 : ¬ (60 ≤ li) := fun q => h11 ((nI_leI (a := 60) (b := li) (by omega) (by omega)).mpr q); exact absurd (show 60 ≤ li from by omega) m11)
    have m11 : 60 ≤ li := (nI_leI (a := 60) (b := li) (by omega) (by omega)).mp h11
    refine gj_iload_n d_RB_readInto_74 rfl ?_
    refine gj_aload_n d_RB_readInto_75 rfl ?_
    refine gj_get d_RB_readInto_76 gf_RB_10 o1 rfl ?_
    refine gj_get d_RB_readInto_79 gf_RB_57 o2 rfl ?_
    refine gj_icmp_ge (tgt := 89) d_RB_readInto_82 (by decide) (fun h82 => ?_) (fun h82 => ?_)
    · have m82 : ln ≤ pl := (nI_leI (a := ln) (b := pl) (by omega) (by omega)).mp h82
      refine gj_kc (v := (-1)) d_RB_readInto_89 (by decide) ?_
      refine gj_iret rfl (Nat.zero_le _) (Nat.zero_le _) d_RB_readInto_90 ?_
      exact hend C pp g (-1) o2 o4 (fun _ _ _ _ => rfl) (by rw [show pt_rd f ln 0 li pl g (la, ab, ut, ce, dv, mi, fu, fd, sp) = (some ((la, ab, ut, ce, dv, mi, fu, fd, sp), li), pl) from if_neg (by omega)]; exact ⟨rfl, k0, k1, k2, k3, k4, k5, k6, k7, k8⟩)
    · have m82 : ¬ (ln ≤ pl) := fun q => h82 ((nI_leI (a := ln) (b := pl) (by omega) (by omega)).mpr q)
      refine gj_iload_n d_RB_readInto_85 rfl ?_
      refine gj_goto (tgt := 90) d_RB_readInto_86 (by decide) ?_
      refine gj_iret rfl (Nat.zero_le _) (Nat.zero_le _) d_RB_readInto_90 ?_
      exact hend C pp g (nI pl) o2 o4 (fun _ _ _ _ => rfl) (by rw [show pt_rd f ln 0 li pl g (la, ab, ut, ce, dv, mi, fu, fd, sp) = (none, pl) from if_pos (by omega)]; exact ⟨rfl, (la, ab, ut, ce, dv, mi, fu, fd, sp), nI li, k0, k1, k2, k3, k4, k5, k6, k7, k8⟩)
  | succ m ih =>
    intro li pl pp g T C hm hpl o1 o2 o3 o4 hM hsp hend
    obtain ⟨la, ab, ut, ce, dv, mi, fu, fd, sp⟩ := T
    obtain ⟨k0, k1, k2, k3, k4, k5, k6, k7, k8⟩ := hM
    dsimp only at hsp k0 k1 k2 k3 k4 k5 k6 k7 k8
    refine gj_iload_n d_RB_readInto_8 rfl ?_
    refine gj_kb (v := 60) d_RB_readInto_9 (by decide) ?_
    refine gj_icmp_ge (tgt := 74) d_RB_readInto_11 (by decide) (fun h11 => by have m11 : 60 ≤ li := (nI_leI (a := 60) (b := li) (by omega) (by omega)).mp h11; exact absurd m11 (show ¬ (60 ≤ li) from by omega)) (fun h11 => ?_)
    have m11 : ¬ (60 ≤ li) := fun q => h11 ((nI_leI (a := 60) (b := li) (by omega) (by omega)).mpr q)
    refine gj_iload_n d_RB_readInto_14 rfl ?_
    refine gj_aload_n d_RB_readInto_15 rfl ?_
    refine gj_get d_RB_readInto_16 gf_RB_10 o1 rfl ?_
    refine gj_get d_RB_readInto_19 gf_RB_57 o2 rfl ?_
    refine gj_icmp_ge (tgt := 74) d_RB_readInto_22 (by decide) (fun h22 => ?_) (fun h22 => ?_)
    · have m22 : ln ≤ pl := (nI_leI (a := ln) (b := pl) (by omega) (by omega)).mp h22
      refine gj_iload_n d_RB_readInto_74 rfl ?_
      refine gj_aload_n d_RB_readInto_75 rfl ?_
      refine gj_get d_RB_readInto_76 gf_RB_10 o1 rfl ?_
      refine gj_get d_RB_readInto_79 gf_RB_57 o2 rfl ?_
      refine gj_icmp_ge (tgt := 89) d_RB_readInto_82 (by decide) (fun h82 => ?_) (fun h82 => by have m82 : ¬ (ln ≤ pl) := fun q => h82 ((nI_leI (a := ln) (b := pl) (by omega) (by omega)).mpr q); exact absurd (show ln ≤ pl from by omega) m82)
      have m82 : ln ≤ pl := (nI_leI (a := ln) (b := pl) (by omega) (by omega)).mp h82
      refine gj_kc (v := (-1)) d_RB_readInto_89 (by decide) ?_
      refine gj_iret rfl (Nat.zero_le _) (Nat.zero_le _) d_RB_readInto_90 ?_
      exact hend C pp g (-1) o2 o4 (fun _ _ _ _ => rfl) (by rw [show pt_rd f ln (m + 1) li pl g (la, ab, ut, ce, dv, mi, fu, fd, sp) = (some ((la, ab, ut, ce, dv, mi, fu, fd, sp), li), pl) from if_neg (by omega)]; exact ⟨rfl, k0, k1, k2, k3, k4, k5, k6, k7, k8⟩)
    · have m22 : ¬ (ln ≤ pl) := fun q => h22 ((nI_leI (a := ln) (b := pl) (by omega) (by omega)).mpr q)
      refine gj_aload_n d_RB_readInto_25 rfl ?_
      refine gj_get d_RB_readInto_26 gf_RB_10 o1 rfl ?_
      refine gj_iload_n d_RB_readInto_29 rfl ?_
      refine gj_callV (as := [.int (nI pl)]) (rest := []) (K1 := 0) (N1 := 0) d_RB_readInto_30 mo_Tx_behindLine gw_170 gw_171 gw_172 o2 rfl pl_Tx_behindLine (Nat.le_of_ble_eq_true rfl) (Nat.le_of_ble_eq_true rfl) (Nat.zero_le _) (Nat.zero_le _) (c_Tx_behindLine (x := 2) o2 o3 o4 h6 (by omega)) (fun E n' C' _ h => by obtain ⟨hv, -⟩ := h; exact nomatch hv) (fun v1 n1 C1 _ h1 => ?_)
      obtain ⟨hv1, hn1, u1_0, u1_1, hr1⟩ := h1
      dsimp only [gj_iv, gj_vv, gj_lv2] at hv1 hn1 hr1 u1_0 u1_1
      cases hv1; cases hn1
      have f2 : C1 (1) = .inr (0, [.ref (2), .ref (x), .ref (q), .ref (23), .int (nI mk), .ref (24), .ref (65), .ref (66)]) := (hr1 _ (by omega) (by omega)).trans o1
      have f3 : C1 (3) = .inl (0, 600, .inl f) := (hr1 _ (by omega) (by omega)).trans o3
      have f4 : C1 (t) = .inr (2, [.ref (t + 1), .ref (t + 2), .ref (t + 3), .ref (t + 4), .ref (t + 5), .ref (t + 6), .ref (t + 7), .ref (t + 8), .int (nI li), .int (nI sp)]) := (hr1 _ (by omega) (by omega)).trans k0
      have f5 : C1 (t + 1) = .inl (0, 60, .inl la) := (hr1 _ (by omega) (by omega)).trans k1
      have f6 : C1 (t + 2) = .inl (0, 60, .inl ab) := (hr1 _ (by omega) (by omega)).trans k2
      have f7 : C1 (t + 3) = .inl (0, 60, .inl ut) := (hr1 _ (by omega) (by omega)).trans k3
      have f8 : C1 (t + 4) = .inl (0, 60, .inl ce) := (hr1 _ (by omega) (by omega)).trans k4
      have f9 : C1 (t + 5) = .inl (0, 10, .inl dv) := (hr1 _ (by omega) (by omega)).trans k5
      have f10 : C1 (t + 6) = .inl (0, 10, .inl mi) := (hr1 _ (by omega) (by omega)).trans k6
      have f11 : C1 (t + 7) = .inl (0, 10, .inl fu) := (hr1 _ (by omega) (by omega)).trans k7
      have f12 : C1 (t + 8) = .inl (0, 10, .inl fd) := (hr1 _ (by omega) (by omega)).trans k8
      rcases hbc : pt_blv_cases f ln pl g with hb | ⟨p2, hp2, hb⟩
      · refine gj_top hb ?_
        refine gj_istore d_RB_readInto_33 (by decide) ?_
        refine gj_iload d_RB_readInto_35 rfl ?_
        refine gj_kc (v := (-1)) d_RB_readInto_37 (by decide) ?_
        refine gj_icmp_eq (tgt := 63) d_RB_readInto_38 (by decide) (fun h38 => ?_) (fun h38 => absurd (rfl) h38)
        refine gj_iload_n d_RB_readInto_63 rfl ?_
        refine gj_iret rfl (Nat.zero_le _) (Nat.zero_le _) d_RB_readInto_64 ?_
        have e : pt_rd f ln (m + 1) li pl g (la, ab, ut, ce, dv, mi, fu, fd, sp) = (none, pl) := (if_pos (by omega)).trans (if_neg (fun z => z.1 hb))
        exact hend C1 _ _ _ u1_0 u1_1 (fun y a1 a2 _ => hr1 y a1 a2) (by rw [e]; exact ⟨rfl, (la, ab, ut, ce, dv, mi, fu, fd, sp), nI li, f4, f5, f6, f7, f8, f9, f10, f11, f12⟩)
      · have hbn : ¬ pt_blv f ln pl g = -1 := by rw [hb]; exact nI_m1 (by omega)
        obtain ⟨j, hjb, hj⟩ := pt_blg_nat hbn
        refine gj_top hb ?_
        refine gj_istore d_RB_readInto_33 (by decide) ?_
        refine gj_iload d_RB_readInto_35 rfl ?_
        refine gj_kc (v := (-1)) d_RB_readInto_37 (by decide) ?_
        refine gj_icmp_eq (tgt := 63) d_RB_readInto_38 (by decide) (fun h38 => absurd h38 (nI_m1 (by omega))) (fun h38 => ?_)
        refine gj_aload_n d_RB_readInto_41 rfl ?_
        refine gj_aload_n d_RB_readInto_42 rfl ?_
        refine gj_get d_RB_readInto_43 gf_RB_10 f2 rfl ?_
        refine gj_iload_n d_RB_readInto_46 rfl ?_
        refine gj_callV (as := [.int (nI pl)]) (rest := [.ref (t)]) (K1 := 0) (N1 := 0) d_RB_readInto_47 mo_Tx_at gw_188 gw_175 gw_176 u1_0 rfl pl_Tx_at (Nat.le_of_ble_eq_true rfl) (Nat.le_of_ble_eq_true rfl) (Nat.zero_le _) (Nat.zero_le _) (c_Tx_at (x := 2) u1_0 f3 h6 pl (by omega)) (fun E n' C' _ h => by cases h) (fun v n' C' _ h => ?_)
        cases h
        refine gj_aload_n d_RB_readInto_50 rfl ?_
        refine gj_get d_RB_readInto_51 gf_RB_10 f2 rfl ?_
        refine gj_get d_RB_readInto_54 gf_RB_214 u1_0 rfl ?_
        refine gj_callV (as := [.int (pt_at f ln pl), .ref (4)]) (rest := []) (K1 := 0) (N1 := 0) d_RB_readInto_57 mo_Ra_take gw_189 gw_190 gw_191 f4 rfl pl_Ra_take (Nat.le_of_ble_eq_true rfl) (Nat.le_of_ble_eq_true rfl) (Nat.zero_le _) (Nat.zero_le _) (c_Ra_take (y := 4) f4 f5 f6 f7 f8 f9 f10 f11 f12 u1_1 (Or.inl (by omega)) (by omega) hj hjb) (fun E n2 C2 _ h => ?_) (fun v n2 C2 _ h => ?_)
        · obtain ⟨-, -, h | h⟩ := h
          · exact nomatch h.2.1
          · exact nomatch h.2.1
        obtain ⟨hn, hfr, h | h⟩ := h
        · obtain ⟨h0, hv, hM⟩ := h
          dsimp only [gj_iv] at hv hn
          cases hv; cases hn
          have z1 : C2 1 = .inr (0, [.ref (2), .ref (x), .ref (q), .ref (23), .int (nI mk), .ref (24), .ref (65), .ref (66)]) := (hfr _ (Or.inl (by omega))).trans f2
          have z2 : C2 2 = .inr (1, [.ref (3), .ref (4), .int (nI ln), .int (pt_blp f ln pl g pp)]) := (hfr _ (Or.inl (by omega))).trans u1_0
          have z3 : C2 3 = .inl (0, 600, .inl f) := (hfr _ (Or.inl (by omega))).trans f3
          have z4 : C2 4 = .inl (0, 4, .inl (pt_blg f ln pl g)) := (hfr _ (Or.inl (by omega))).trans u1_1
          have zf : ∀ y, y ≠ 2 → y ≠ 4 → (y < t ∨ t + 8 < y) → C2 y = C y := fun y g1 g2 g3 => (hfr y g3).trans (hr1 y g1 g2)
          refine gj_if_ne (tgt := 65) d_RB_readInto_60 (by decide) (fun h60 => ?_) (fun h60 => absurd h60 (by decide))
          refine gj_iload d_RB_readInto_65 rfl ?_
          refine gj_istore_n d_RB_readInto_67 (by decide) ?_
          refine gj_iincN d_RB_readInto_68 rfl (by decide) ?_
          refine gj_goto (tgt := 8) d_RB_readInto_71 (by decide) ?_
          refine gj_less (lc' := [(0, .ref (1)), (1, .ref (t)), (2, .int (nI (p2 + 1))), (3, .int (nI (li + 1)))]) ⟨rfl, rfl, rfl, rfl, trivial⟩ ?_
          have ecl : ((pt_blg f ln pl g) 0).toNatClampNeg = j := by rw [hj]; exact nI_clamp hjb
          have e : pt_rd f ln (m + 1) li pl g (la, ab, ut, ce, dv, mi, fu, fd, sp) = pt_rd f ln m (li + 1) (p2 + 1) (pt_blg f ln pl g) (pr_nx (pt_at f ln pl) j ((pt_blg f ln pl g) 1) ((pt_blg f ln pl g) 2) ((pt_blg f ln pl g) 3) (la, ab, ut, ce, dv, mi, fu, fd, sp)) := by
            refine (if_pos (by omega)).trans ((if_pos ⟨hbn, by rw [ecl]; exact h0⟩).trans ?_)
            rw [ecl, hb, nI_clamp (by omega)]
          have hsp2 := pr_nx_sp (pt_at f ln pl) j ((pt_blg f ln pl g) 1) ((pt_blg f ln pl g) 2) ((pt_blg f ln pl g) 3) (la, ab, ut, ce, dv, mi, fu, fd, sp)
          dsimp only at hsp2 hsp
          refine ih (li + 1) (p2 + 1) _ (pt_blg f ln pl g) (pr_nx (pt_at f ln pl) j ((pt_blg f ln pl g) 1) ((pt_blg f ln pl g) 2) ((pt_blg f ln pl g) 3) (la, ab, ut, ce, dv, mi, fu, fd, sp)) C2 (by omega) (by omega) z1 z2 z3 z4 hM (by omega) (fun C3 pp3 g3 v3 e1 e2 e3 e4 => hend C3 pp3 g3 v3 e1 e2 (fun y a1 a2 a3 => (e3 y a1 a2 a3).trans (zf y a1 a2 a3)) (by rw [e]; exact e4))
        · obtain ⟨h0, hv, T2, l2, hM⟩ := h
          dsimp only [gj_iv] at hv hn
          cases hv; cases hn
          have z1 : C2 1 = .inr (0, [.ref (2), .ref (x), .ref (q), .ref (23), .int (nI mk), .ref (24), .ref (65), .ref (66)]) := (hfr _ (Or.inl (by omega))).trans f2
          have z2 : C2 2 = .inr (1, [.ref (3), .ref (4), .int (nI ln), .int (pt_blp f ln pl g pp)]) := (hfr _ (Or.inl (by omega))).trans u1_0
          have z3 : C2 3 = .inl (0, 600, .inl f) := (hfr _ (Or.inl (by omega))).trans f3
          have z4 : C2 4 = .inl (0, 4, .inl (pt_blg f ln pl g)) := (hfr _ (Or.inl (by omega))).trans u1_1
          have zf : ∀ y, y ≠ 2 → y ≠ 4 → (y < t ∨ t + 8 < y) → C2 y = C y := fun y g1 g2 g3 => (hfr y g3).trans (hr1 y g1 g2)
          refine gj_if_ne (tgt := 65) d_RB_readInto_60 (by decide) (fun h60 => absurd (rfl) h60) (fun h60 => ?_)
          refine gj_iload_n d_RB_readInto_63 rfl ?_
          refine gj_iret rfl (Nat.zero_le _) (Nat.zero_le _) d_RB_readInto_64 ?_
          have ecl : ((pt_blg f ln pl g) 0).toNatClampNeg = j := by rw [hj]; exact nI_clamp hjb
          have e : pt_rd f ln (m + 1) li pl g (la, ab, ut, ce, dv, mi, fu, fd, sp) = (none, pl) := (if_pos (by omega)).trans (if_neg (fun z => h0 (by have z2 := z.2; rw [ecl] at z2; exact z2)))
          exact hend C2 _ _ _ z2 z4 zf (by rw [e]; exact ⟨rfl, T2, l2, hM⟩)
set_option maxHeartbeats 2000000 in
theorem c_RB_readInto {d K N n x q mk ln t sp : Nat} {C : Nat → va_E} {f g la ab ut ce dv mi fu fd : Nat → Int32} {pp li : Int32} (o1 : C (1) = .inr (0, [.ref (2), .ref (x), .ref (q), .ref (23), .int (nI mk), .ref (24), .ref (65), .ref (66)])) (o2 : C (2) = .inr (1, [.ref (3), .ref (4), .int (nI ln), .int (pp)])) (o3 : C (3) = .inl (0, 600, .inl f)) (o4 : C (4) = .inl (0, 4, .inl g)) (k0 : C (t) = .inr (2, [.ref (t + 1), .ref (t + 2), .ref (t + 3), .ref (t + 4), .ref (t + 5), .ref (t + 6), .ref (t + 7), .ref (t + 8), .int (li), .int (nI sp)])) (k1 : C (t + 1) = .inl (0, 60, .inl la)) (k2 : C (t + 2) = .inl (0, 60, .inl ab)) (k3 : C (t + 3) = .inl (0, 60, .inl ut)) (k4 : C (t + 4) = .inl (0, 60, .inl ce)) (k5 : C (t + 5) = .inl (0, 10, .inl dv)) (k6 : C (t + 6) = .inl (0, 10, .inl mi)) (k7 : C (t + 7) = .inl (0, 10, .inl fu)) (k8 : C (t + 8) = .inl (0, 10, .inl fd)) (h6 : ln ≤ 600) (ht : 4 < t) : gj_G md_RB_readInto (d + 4) K N 0 0 0 [(0, .ref (1)), (1, .ref (t))] [] n C (fun r => ∃ v, r.1 = gj_iv v ∧ r.2.1 = n ∧ pt_res (pt_rd f ln 60 0 0 g (la, ab, ut, ce, pr_clr dv 10, pr_clr mi 10, pr_clr fu 10, pr_clr fd 10, 0)) t r.2.2 v ∧ ∃ pp2 g2, r.2.2 2 = .inr (1, [.ref 3, .ref 4, .int (nI ln), .int pp2]) ∧ r.2.2 4 = .inl (0, 4, .inl g2) ∧ ∀ y, y ≠ 2 → y ≠ 4 → (y < t ∨ t + 8 < y) → r.2.2 y = C y) := by
  refine gj_aload_n d_RB_readInto_0 rfl ?_
  refine gj_callV (as := []) (rest := []) (K1 := 0) (N1 := 0) d_RB_readInto_1 mo_Ra_clear gw_169 gw_72 gw_73 k0 rfl pl_Ra_clear (Nat.le_of_ble_eq_true rfl) (Nat.le_of_ble_eq_true rfl) (Nat.zero_le _) (Nat.zero_le _) (c_Ra_clear k0 k5 k6 k7 k8) (fun E n' C' _ h => by obtain ⟨hv, -⟩ := h; exact nomatch hv) (fun v1 n1 C1 _ h1 => ?_)
  obtain ⟨hv1, hn1, u1_0, u1_1, u1_2, u1_3, u1_4, hr1⟩ := h1
  dsimp only [gj_iv, gj_vv, gj_lv2] at hv1 hn1 hr1 u1_0 u1_1 u1_2 u1_3 u1_4
  cases hv1; cases hn1
  have f2 : C1 (1) = .inr (0, [.ref (2), .ref (x), .ref (q), .ref (23), .int (nI mk), .ref (24), .ref (65), .ref (66)]) := (hr1 _ (by omega) (by omega) (by omega) (by omega) (by omega)).trans o1
  have f3 : C1 (2) = .inr (1, [.ref (3), .ref (4), .int (nI ln), .int (pp)]) := (hr1 _ (by omega) (by omega) (by omega) (by omega) (by omega)).trans o2
  have f4 : C1 (3) = .inl (0, 600, .inl f) := (hr1 _ (by omega) (by omega) (by omega) (by omega) (by omega)).trans o3
  have f5 : C1 (4) = .inl (0, 4, .inl g) := (hr1 _ (by omega) (by omega) (by omega) (by omega) (by omega)).trans o4
  have f6 : C1 (t + 1) = .inl (0, 60, .inl la) := (hr1 _ (by omega) (by omega) (by omega) (by omega) (by omega)).trans k1
  have f7 : C1 (t + 2) = .inl (0, 60, .inl ab) := (hr1 _ (by omega) (by omega) (by omega) (by omega) (by omega)).trans k2
  have f8 : C1 (t + 3) = .inl (0, 60, .inl ut) := (hr1 _ (by omega) (by omega) (by omega) (by omega) (by omega)).trans k3
  have f9 : C1 (t + 4) = .inl (0, 60, .inl ce) := (hr1 _ (by omega) (by omega) (by omega) (by omega) (by omega)).trans k4
  refine gj_kc (v := 0) d_RB_readInto_4 (by decide) ?_
  refine gj_istore_n d_RB_readInto_5 (by decide) ?_
  refine gj_kc (v := 0) d_RB_readInto_6 (by decide) ?_
  refine gj_istore_n d_RB_readInto_7 (by decide) ?_
  refine gj_less (lc' := [(0, .ref (1)), (1, .ref (t)), (2, .int (nI 0)), (3, .int (nI 0))]) ⟨rfl, rfl, rfl, rfl, trivial⟩ ?_
  refine c_RB_readInto_loop h6 ht 60 0 0 pp g (la, ab, ut, ce, pr_clr dv 10, pr_clr mi 10, pr_clr fu 10, pr_clr fd 10, 0) C1 (by omega) (by omega) f2 f3 f4 f5 ⟨u1_0, f6, f7, f8, f9, u1_1, u1_2, u1_3, u1_4⟩ (Nat.le_refl 0) (fun C2 pp2 g2 v e1 e2 e3 e4 => ⟨v, rfl, rfl, e4, pp2, g2, e1, e2, fun y a1 a2 a3 => (e3 y a1 a2 a3).trans (hr1 y (by omega) (by omega) (by omega) (by omega) (by omega))⟩)
end
