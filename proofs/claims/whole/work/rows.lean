section
-- ===== PART A: goes FIRST, ahead of the names: the tables' words, and 'selects' of the private methods out of them =====
/-- a private method of a class that the tables say can be made, by its rows of tables_1 -/
def lw_okq (q : MethodName × Nat) : Prop := (q.1.cls ≠ "java/lang/invoke/MethodHandle" ∧ q.1.cls ≠ "java/lang/invoke/VarHandle") ∧ Cond.instantiable q.1.cls q.2 ∈ tables_1 ∧ Cond.privateMethod q.1 ∈ tables_1 ∧ Cond.instanceMethod q.1 ∈ tables_1
theorem lw_p0 : lw_okq (⟨"RateBreaks", "readInto", "(LRateBreaks$Rates;)I"⟩, 8) := ⟨⟨by decide +kernel, by decide +kernel⟩, List.mem_of_getElem? (i := 17) (by decide +kernel), List.mem_of_getElem? (i := 147) (by decide +kernel), List.mem_of_getElem? (i := 148) (by decide +kernel)⟩
theorem lw_p1 : lw_okq (⟨"RateBreaks$Text", "takeNumber", "()I"⟩, 4) := ⟨⟨by decide +kernel, by decide +kernel⟩, List.mem_of_getElem? (i := 25) (by decide +kernel), List.mem_of_getElem? (i := 163) (by decide +kernel), List.mem_of_getElem? (i := 164) (by decide +kernel)⟩
theorem lw_p2 : lw_okq (⟨"RateBreaks$Rates", "takeKind", "(I[I)Z"⟩, 10) := ⟨⟨by decide +kernel, by decide +kernel⟩, List.mem_of_getElem? (i := 47) (by decide +kernel), List.mem_of_getElem? (i := 175) (by decide +kernel), List.mem_of_getElem? (i := 176) (by decide +kernel)⟩
theorem lw_p3 : lw_okq (⟨"RateBreaks$Rates", "takeStep", "(IIII)Z"⟩, 10) := ⟨⟨by decide +kernel, by decide +kernel⟩, List.mem_of_getElem? (i := 47) (by decide +kernel), List.mem_of_getElem? (i := 179) (by decide +kernel), List.mem_of_getElem? (i := 180) (by decide +kernel)⟩
theorem lw_p4 : lw_okq (⟨"RateBreaks$Rates", "heaviest", "(I)I"⟩, 10) := ⟨⟨by decide +kernel, by decide +kernel⟩, List.mem_of_getElem? (i := 47) (by decide +kernel), List.mem_of_getElem? (i := 188) (by decide +kernel), List.mem_of_getElem? (i := 189) (by decide +kernel)⟩
theorem lw_p5 : lw_okq (⟨"java/lang/Throwable", "fillInStackTrace", "(I)Ljava/lang/Throwable;"⟩, 6) := ⟨⟨by decide +kernel, by decide +kernel⟩, List.mem_of_getElem? (i := 266) (by decide +kernel), List.mem_of_getElem? (i := 264) (by decide +kernel), List.mem_of_getElem? (i := 265) (by decide +kernel)⟩
theorem lw_p6 : lw_okq (⟨"RateBreaks", "present", "(I)LRateBreaks$Shipment;"⟩, 8) := ⟨⟨by decide +kernel, by decide +kernel⟩, List.mem_of_getElem? (i := 17) (by decide +kernel), List.mem_of_getElem? (i := 367) (by decide +kernel), List.mem_of_getElem? (i := 368) (by decide +kernel)⟩
theorem lw_p7 : lw_okq (⟨"RateBreaks", "priceNow", "(LRateBreaks$Shipment;I)I"⟩, 8) := ⟨⟨by decide +kernel, by decide +kernel⟩, List.mem_of_getElem? (i := 17) (by decide +kernel), List.mem_of_getElem? (i := 425) (by decide +kernel), List.mem_of_getElem? (i := 426) (by decide +kernel)⟩
theorem lw_p8 : lw_okq (⟨"RateBreaks$Ratios", "placeFor", "(I)I"⟩, 4) := ⟨⟨by decide +kernel, by decide +kernel⟩, List.mem_of_getElem? (i := 93) (by decide +kernel), List.mem_of_getElem? (i := 479) (by decide +kernel), List.mem_of_getElem? (i := 480) (by decide +kernel)⟩
theorem lw_p9 : lw_okq (⟨"RateBreaksModel", "oneLine", "()Z"⟩, 27) := ⟨⟨by decide +kernel, by decide +kernel⟩, List.mem_of_getElem? (i := 572) (by decide +kernel), List.mem_of_getElem? (i := 676) (by decide +kernel), List.mem_of_getElem? (i := 677) (by decide +kernel)⟩
theorem lw_p10 : lw_okq (⟨"RateBreaksModel", "here", "()I"⟩, 27) := ⟨⟨by decide +kernel, by decide +kernel⟩, List.mem_of_getElem? (i := 572) (by decide +kernel), List.mem_of_getElem? (i := 680) (by decide +kernel), List.mem_of_getElem? (i := 681) (by decide +kernel)⟩
theorem lw_p11 : lw_okq (⟨"RateBreaksModel", "number", "()I"⟩, 27) := ⟨⟨by decide +kernel, by decide +kernel⟩, List.mem_of_getElem? (i := 572) (by decide +kernel), List.mem_of_getElem? (i := 684) (by decide +kernel), List.mem_of_getElem? (i := 685) (by decide +kernel)⟩
theorem lw_p12 : lw_okq (⟨"RateBreaksModel", "heaviest", "(II)I"⟩, 27) := ⟨⟨by decide +kernel, by decide +kernel⟩, List.mem_of_getElem? (i := 572) (by decide +kernel), List.mem_of_getElem? (i := 690) (by decide +kernel), List.mem_of_getElem? (i := 691) (by decide +kernel)⟩
theorem lw_p13 : lw_okq (⟨"RateBreaksModel", "seen", "(II)Z"⟩, 27) := ⟨⟨by decide +kernel, by decide +kernel⟩, List.mem_of_getElem? (i := 572) (by decide +kernel), List.mem_of_getElem? (i := 694) (by decide +kernel), List.mem_of_getElem? (i := 695) (by decide +kernel)⟩
theorem lw_p14 : lw_okq (⟨"RateBreaksModel", "noShipment", "(I)Z"⟩, 27) := ⟨⟨by decide +kernel, by decide +kernel⟩, List.mem_of_getElem? (i := 572) (by decide +kernel), List.mem_of_getElem? (i := 707) (by decide +kernel), List.mem_of_getElem? (i := 708) (by decide +kernel)⟩
theorem lw_p15 : lw_okq (⟨"RateBreaksModel", "toPay", "(II)I"⟩, 27) := ⟨⟨by decide +kernel, by decide +kernel⟩, List.mem_of_getElem? (i := 572) (by decide +kernel), List.mem_of_getElem? (i := 711) (by decide +kernel), List.mem_of_getElem? (i := 712) (by decide +kernel)⟩
def lw_privs_1 : List (MethodName × Nat) := [(⟨"RateBreaks", "readInto", "(LRateBreaks$Rates;)I"⟩, 8), (⟨"RateBreaks$Text", "takeNumber", "()I"⟩, 4), (⟨"RateBreaks$Rates", "takeKind", "(I[I)Z"⟩, 10), (⟨"RateBreaks$Rates", "takeStep", "(IIII)Z"⟩, 10), (⟨"RateBreaks$Rates", "heaviest", "(I)I"⟩, 10), (⟨"java/lang/Throwable", "fillInStackTrace", "(I)Ljava/lang/Throwable;"⟩, 6), (⟨"RateBreaks", "present", "(I)LRateBreaks$Shipment;"⟩, 8), (⟨"RateBreaks", "priceNow", "(LRateBreaks$Shipment;I)I"⟩, 8), (⟨"RateBreaks$Ratios", "placeFor", "(I)I"⟩, 4), (⟨"RateBreaksModel", "oneLine", "()Z"⟩, 27), (⟨"RateBreaksModel", "here", "()I"⟩, 27), (⟨"RateBreaksModel", "number", "()I"⟩, 27), (⟨"RateBreaksModel", "heaviest", "(II)I"⟩, 27), (⟨"RateBreaksModel", "seen", "(II)Z"⟩, 27), (⟨"RateBreaksModel", "noShipment", "(I)Z"⟩, 27), (⟨"RateBreaksModel", "toPay", "(II)I"⟩, 27)]
theorem lw_r1 : ∀ q ∈ lw_privs_1, lw_okq q := List.forall_mem_cons.mpr ⟨lw_p0, List.forall_mem_cons.mpr ⟨lw_p1, List.forall_mem_cons.mpr ⟨lw_p2, List.forall_mem_cons.mpr ⟨lw_p3, List.forall_mem_cons.mpr ⟨lw_p4, List.forall_mem_cons.mpr ⟨lw_p5, List.forall_mem_cons.mpr ⟨lw_p6, List.forall_mem_cons.mpr ⟨lw_p7, List.forall_mem_cons.mpr ⟨lw_p8, List.forall_mem_cons.mpr ⟨lw_p9, List.forall_mem_cons.mpr ⟨lw_p10, List.forall_mem_cons.mpr ⟨lw_p11, List.forall_mem_cons.mpr ⟨lw_p12, List.forall_mem_cons.mpr ⟨lw_p13, List.forall_mem_cons.mpr ⟨lw_p14, List.forall_mem_cons.mpr ⟨lw_p15, fun _ h => absurd h List.not_mem_nil⟩⟩⟩⟩⟩⟩⟩⟩⟩⟩⟩⟩⟩⟩⟩⟩
theorem lw_p16 : lw_okq (⟨"RateBreaksModel", "find", "(II)I"⟩, 27) := ⟨⟨by decide +kernel, by decide +kernel⟩, List.mem_of_getElem? (i := 572) (by decide +kernel), List.mem_of_getElem? (i := 715) (by decide +kernel), List.mem_of_getElem? (i := 716) (by decide +kernel)⟩
theorem lw_p17 : lw_okq (⟨"RateBreaksModel", "priceOf", "(II)I"⟩, 27) := ⟨⟨by decide +kernel, by decide +kernel⟩, List.mem_of_getElem? (i := 572) (by decide +kernel), List.mem_of_getElem? (i := 723) (by decide +kernel), List.mem_of_getElem? (i := 724) (by decide +kernel)⟩
theorem lw_p18 : lw_okq (⟨"RateBreaksModel", "booked", "(I)I"⟩, 27) := ⟨⟨by decide +kernel, by decide +kernel⟩, List.mem_of_getElem? (i := 572) (by decide +kernel), List.mem_of_getElem? (i := 730) (by decide +kernel), List.mem_of_getElem? (i := 731) (by decide +kernel)⟩
def lw_privs_2 : List (MethodName × Nat) := [(⟨"RateBreaksModel", "find", "(II)I"⟩, 27), (⟨"RateBreaksModel", "priceOf", "(II)I"⟩, 27), (⟨"RateBreaksModel", "booked", "(I)I"⟩, 27)]
theorem lw_r2 : ∀ q ∈ lw_privs_2, lw_okq q := List.forall_mem_cons.mpr ⟨lw_p16, List.forall_mem_cons.mpr ⟨lw_p17, List.forall_mem_cons.mpr ⟨lw_p18, fun _ h => absurd h List.not_mem_nil⟩⟩⟩
def lw_privs : List (MethodName × Nat) := lw_privs_1 ++ (lw_privs_2)
def lw_tbl : List Cond := k2_sels lw_privs ++ tables_1
theorem lw_privs_ok : ∀ q ∈ lw_privs, lw_okq q := by
  show ∀ q ∈ lw_privs_1 ++ (lw_privs_2), lw_okq q
  exact List.forall_mem_append.mpr ⟨lw_r1, lw_r2⟩
end
section
def R_RB : String := "RateBreaks"
def F_RB : u_T := fun k => match k with
  | 0 => ("RateBreaks", "text", "LRateBreaks$Text;", true)
  | 1 => ("RateBreaks", "rates", "LRateBreaks$Rates;", false)
  | 2 => ("RateBreaks", "draft", "LRateBreaks$Rates;", false)
  | 3 => ("RateBreaks", "shipments", "[LRateBreaks$Shipment;", true)
  | 4 => ("RateBreaks", "made", "I", false)
  | 5 => ("RateBreaks", "contracts", "[LRateBreaks$Ratios;", true)
  | 6 => ("RateBreaks", "bookedBy", "[I", true)
  | _ => ("RateBreaks", "currencies", "LRateBreaks$Ratios;", true)
def t_RB : Nat → FieldType := fun k => match k with
  | 0 => .object "RateBreaks$Text"
  | 1 => .object "RateBreaks$Rates"
  | 2 => .object "RateBreaks$Rates"
  | 3 => .array (.object "RateBreaks$Shipment")
  | 4 => .int
  | 5 => .array (.object "RateBreaks$Ratios")
  | 6 => .array .int
  | _ => .object "RateBreaks$Ratios"
def R_Tx : String := "RateBreaks$Text"
def F_Tx : u_T := fun k => match k with
  | 0 => ("RateBreaks$Text", "signs", "[I", true)
  | 1 => ("RateBreaks$Text", "numbers", "[I", true)
  | 2 => ("RateBreaks$Text", "length", "I", false)
  | _ => ("RateBreaks$Text", "place", "I", false)
def t_Tx : Nat → FieldType := fun k => match k with
  | 0 => .array .int
  | 1 => .array .int
  | 2 => .int
  | _ => .int
def R_Ra : String := "RateBreaks$Rates"
def F_Ra : u_T := fun k => match k with
  | 0 => ("RateBreaks$Rates", "lanes", "[I", true)
  | 1 => ("RateBreaks$Rates", "above", "[I", true)
  | 2 => ("RateBreaks$Rates", "upTo", "[I", true)
  | 3 => ("RateBreaks$Rates", "cents", "[I", true)
  | 4 => ("RateBreaks$Rates", "divisors", "[I", true)
  | 5 => ("RateBreaks$Rates", "minima", "[I", true)
  | 6 => ("RateBreaks$Rates", "fuelUps", "[I", true)
  | 7 => ("RateBreaks$Rates", "fuelDowns", "[I", true)
  | 8 => ("RateBreaks$Rates", "lines", "I", false)
  | _ => ("RateBreaks$Rates", "steps", "I", false)
def t_Ra : Nat → FieldType := fun k => match k with
  | 0 => .array .int
  | 1 => .array .int
  | 2 => .array .int
  | 3 => .array .int
  | 4 => .array .int
  | 5 => .array .int
  | 6 => .array .int
  | 7 => .array .int
  | 8 => .int
  | _ => .int
def R_Ro : String := "RateBreaks$Ratios"
def F_Ro : u_T := fun k => match k with
  | 0 => ("RateBreaks$Ratios", "froms", "[I", true)
  | 1 => ("RateBreaks$Ratios", "ups", "[I", true)
  | 2 => ("RateBreaks$Ratios", "downs", "[I", true)
  | _ => ("RateBreaks$Ratios", "size", "I", false)
def t_Ro : Nat → FieldType := fun k => match k with
  | 0 => .array .int
  | 1 => .array .int
  | 2 => .array .int
  | _ => .int
def R_Sh : String := "RateBreaks$Shipment"
def F_Sh : u_T := fun k => match k with
  | 0 => ("RateBreaks$Shipment", "zone", "I", true)
  | 1 => ("RateBreaks$Shipment", "grams", "I", false)
  | 2 => ("RateBreaks$Shipment", "volume", "I", false)
  | 3 => ("RateBreaks$Shipment", "service", "I", false)
  | 4 => ("RateBreaks$Shipment", "cents", "I", false)
  | _ => ("RateBreaks$Shipment", "left", "I", false)
def t_Sh : Nat → FieldType := fun k => match k with
  | 0 => .int
  | 1 => .int
  | 2 => .int
  | 3 => .int
  | 4 => .int
  | _ => .int
def R_Mo : String := "RateBreaksModel"
def F_Mo : u_T := fun k => match k with
  | 0 => ("RateBreaksModel", "thrownCode", "I", false)
  | 1 => ("RateBreaksModel", "text", "[I", true)
  | 2 => ("RateBreaksModel", "signs", "I", false)
  | 3 => ("RateBreaksModel", "lines", "I", false)
  | 4 => ("RateBreaksModel", "line", "[I", true)
  | 5 => ("RateBreaksModel", "newLines", "I", false)
  | 6 => ("RateBreaksModel", "newLine", "[I", true)
  | 7 => ("RateBreaksModel", "at", "I", false)
  | 8 => ("RateBreaksModel", "shipments", "I", false)
  | 9 => ("RateBreaksModel", "gone", "[Z", true)
  | 10 => ("RateBreaksModel", "zone", "[I", true)
  | 11 => ("RateBreaksModel", "grams", "[I", true)
  | 12 => ("RateBreaksModel", "volume", "[I", true)
  | 13 => ("RateBreaksModel", "service", "[I", true)
  | 14 => ("RateBreaksModel", "price", "[I", true)
  | 15 => ("RateBreaksModel", "left", "[I", true)
  | 16 => ("RateBreaksModel", "contracts", "[I", true)
  | 17 => ("RateBreaksModel", "from", "[I", true)
  | 18 => ("RateBreaksModel", "up", "[I", true)
  | 19 => ("RateBreaksModel", "down", "[I", true)
  | 20 => ("RateBreaksModel", "days", "I", false)
  | 21 => ("RateBreaksModel", "day", "[I", true)
  | 22 => ("RateBreaksModel", "dayUp", "[I", true)
  | 23 => ("RateBreaksModel", "dayDown", "[I", true)
  | 24 => ("RateBreaksModel", "low", "[I", true)
  | 25 => ("RateBreaksModel", "high", "[I", true)
  | _ => ("RateBreaksModel", "costs", "[I", true)
def t_Mo : Nat → FieldType := fun k => match k with
  | 0 => .int
  | 1 => .array .int
  | 2 => .int
  | 3 => .int
  | 4 => .array .int
  | 5 => .int
  | 6 => .array .int
  | 7 => .int
  | 8 => .int
  | 9 => .array .boolean
  | 10 => .array .int
  | 11 => .array .int
  | 12 => .array .int
  | 13 => .array .int
  | 14 => .array .int
  | 15 => .array .int
  | 16 => .array .int
  | 17 => .array .int
  | 18 => .array .int
  | 19 => .array .int
  | 20 => .int
  | 21 => .array .int
  | 22 => .array .int
  | 23 => .array .int
  | 24 => .array .int
  | 25 => .array .int
  | _ => .array .int
def R_La : String := "RateBreaksLaw"
abbrev gj_cl : List vw_C := [(R_RB, F_RB, 8), (R_Tx, F_Tx, 4), (R_Ra, F_Ra, 10), (R_Ro, F_Ro, 4), (R_Sh, F_Sh, 6), (R_Mo, F_Mo, 27)]
abbrev gj_at : List FieldType := [.int, .long, .boolean, .object "RateBreaks$Shipment", .object "RateBreaks$Ratios"]
theorem n_RB : ∀ a, a < 8 → ∀ b, b < 8 → a ≠ b → (F_RB a).2.1 ≠ (F_RB b).2.1 := by decide +kernel
theorem to_RB : ∀ k, k < 8 → parseFieldDescriptor (F_RB k).2.2.1 = some (t_RB k) := by decide +kernel
theorem li_RB : ∀ w ∈ u_ws R_RB F_RB 8, w ∈ lw_tbl := by decide +kernel
theorem n_Tx : ∀ a, a < 4 → ∀ b, b < 4 → a ≠ b → (F_Tx a).2.1 ≠ (F_Tx b).2.1 := by decide +kernel
theorem to_Tx : ∀ k, k < 4 → parseFieldDescriptor (F_Tx k).2.2.1 = some (t_Tx k) := by decide +kernel
theorem li_Tx : ∀ w ∈ u_ws R_Tx F_Tx 4, w ∈ lw_tbl := by decide +kernel
theorem n_Ra : ∀ a, a < 10 → ∀ b, b < 10 → a ≠ b → (F_Ra a).2.1 ≠ (F_Ra b).2.1 := by decide +kernel
theorem to_Ra : ∀ k, k < 10 → parseFieldDescriptor (F_Ra k).2.2.1 = some (t_Ra k) := by decide +kernel
theorem li_Ra : ∀ w ∈ u_ws R_Ra F_Ra 10, w ∈ lw_tbl := by decide +kernel
theorem n_Ro : ∀ a, a < 4 → ∀ b, b < 4 → a ≠ b → (F_Ro a).2.1 ≠ (F_Ro b).2.1 := by decide +kernel
theorem to_Ro : ∀ k, k < 4 → parseFieldDescriptor (F_Ro k).2.2.1 = some (t_Ro k) := by decide +kernel
theorem li_Ro : ∀ w ∈ u_ws R_Ro F_Ro 4, w ∈ lw_tbl := by decide +kernel
theorem n_Sh : ∀ a, a < 6 → ∀ b, b < 6 → a ≠ b → (F_Sh a).2.1 ≠ (F_Sh b).2.1 := by decide +kernel
theorem to_Sh : ∀ k, k < 6 → parseFieldDescriptor (F_Sh k).2.2.1 = some (t_Sh k) := by decide +kernel
theorem li_Sh : ∀ w ∈ u_ws R_Sh F_Sh 6, w ∈ lw_tbl := by decide +kernel
theorem n_Mo : ∀ a, a < 27 → ∀ b, b < 27 → a ≠ b → (F_Mo a).2.1 ≠ (F_Mo b).2.1 := by decide +kernel
theorem to_Mo : ∀ k, k < 27 → parseFieldDescriptor (F_Mo k).2.2.1 = some (t_Mo k) := by decide +kernel
theorem li_Mo : ∀ w ∈ u_ws R_Mo F_Mo 27, w ∈ lw_tbl := by decide +kernel
end
section
/-! THE MEMORY BY LABELS: a value's reference is a label; ad gives the label's address -/
def gj_tv (ad : Nat → Nat) (v : Value) : Value := match v with
  | .ref x => .ref (ad x)
  | w => w
abbrev gj_X : Type := (Nat → Int32) ⊕ (Nat → Int64) ⊕ (Nat → UInt32) ⊕ (Nat → UInt64) ⊕ (Nat → Option Nat)
def gj_tx (ad : Nat → Nat) (x : gj_X) : gj_X := match x with
  | .inr (.inr (.inr (.inr f))) => .inr (.inr (.inr (.inr (fun j => (f j).map ad))))
  | w => w
def gj_te (dA : Nat → ClassId) (ad : Nat → Nat) (e : va_E) : va_E := match e with
  | .inl a => .inl (dA a.1, a.2.1, gj_tx ad a.2.2)
  | .inr o => .inr (o.1, o.2.map (gj_tv ad))
/-- label 0 is the script's; the labels 1 .. n are the world's -/
def gj_ws (dA : Nat → ClassId) (ad : Nat → Nat) (n : Nat) (C : Nat → va_E) : va_W := (List.range n).map (fun x => (ad (x + 1), gj_te dA ad (C (x + 1))))
theorem gj_ws_get {dA : Nat → ClassId} {ad : Nat → Nat} {n j : Nat} {C : Nat → va_E} (h : j < n) : (gj_ws dA ad n C)[j]? = some (ad (j + 1), gj_te dA ad (C (j + 1))) := by
  simp [gj_ws, h]
theorem gj_ws_out {dA : Nat → ClassId} {ad : Nat → Nat} {n j : Nat} {C : Nat → va_E} (h : ¬ j < n) : (gj_ws dA ad n C)[j]? = none := by
  simp [gj_ws]
  omega
theorem gj_ws_at {dA : Nat → ClassId} {ad : Nat → Nat} {n x : Nat} {C : Nat → va_E} (h0 : x ≠ 0) (h : x ≤ n) : (gj_ws dA ad n C)[x - 1]? = some (ad x, gj_te dA ad (C x)) := by
  obtain ⟨y, rfl⟩ : ∃ y, x = y + 1 := ⟨x - 1, by omega⟩
  exact gj_ws_get (by omega)
theorem gj_ws_set {dA : Nat → ClassId} {ad : Nat → Nat} {n x : Nat} {C : Nat → va_E} (e : va_E) (h0 : x ≠ 0) : (gj_ws dA ad n C).set (x - 1) (ad x, gj_te dA ad e) = gj_ws dA ad n (va_up C x e) := by
  obtain ⟨y, rfl⟩ : ∃ y, x = y + 1 := ⟨x - 1, by omega⟩
  rw [Nat.add_sub_cancel]
  apply List.ext_getElem?
  intro j
  rw [List.getElem?_set]
  by_cases hj : j < n
  · by_cases hx : y = j
    · subst hx
      rw [if_pos rfl, gj_ws_get hj, va_up_self, if_pos (by simp [gj_ws, hj])]
    · rw [if_neg hx, gj_ws_get hj, gj_ws_get hj, va_up_ne C e (by omega)]
  · rw [gj_ws_out hj, gj_ws_out hj]
    by_cases hx : y = j
    · subst hx
      rw [if_pos rfl, if_neg (by simp [gj_ws, hj])]
    · rw [if_neg hx]
/-- the references are labels up to n -/
def gj_ov (n : Nat) (v : Value) : Prop := match v with
  | .ref x => x ≤ n
  | _ => True
def gj_ox (n : Nat) (x : gj_X) : Prop := match x with
  | .inr (.inr (.inr (.inr f))) => ∀ j y, f j = some y → y ≤ n
  | _ => True
def gj_oe (n : Nat) (e : va_E) : Prop := match e with
  | .inl a => gj_ox n a.2.2
  | .inr o => ∀ v ∈ o.2, gj_ov n v
def gj_oC (n : Nat) (C : Nat → va_E) : Prop := ∀ x, x ≤ n → gj_oe n (C x)
def gj_ol (n : Nat) (lc : List (Nat × Value)) (st : List Value) : Prop := (∀ q ∈ lc, gj_ov n q.2) ∧ ∀ v ∈ st, gj_ov n v
def gj_tl (ad : Nat → Nat) (lc : List (Nat × Value)) : List (Nat × Value) := lc.map (fun q => (q.1, gj_tv ad q.2))
theorem gj_cat (ad : Nat → Nat) (v : Value) : (gj_tv ad v).category = v.category := by cases v <;> rfl
theorem gj_cats (ad : Nat → Nat) (st : List Value) : ((st.map (gj_tv ad)).map fun v => v.category) = st.map fun v => v.category := by
  rw [List.map_map]
  exact List.map_congr_left fun v _ => gj_cat ad v
theorem gj_tv_eq {n : Nat} {ad ad' : Nat → Nat} (h : ∀ x, x ≤ n → ad' x = ad x) {v : Value} (hv : gj_ov n v) : gj_tv ad' v = gj_tv ad v := by
  cases v <;> first | rfl | exact congrArg Value.ref (h _ hv)
theorem gj_ts_eq {n : Nat} {ad ad' : Nat → Nat} (h : ∀ x, x ≤ n → ad' x = ad x) {st : List Value} (hv : ∀ v ∈ st, gj_ov n v) : st.map (gj_tv ad') = st.map (gj_tv ad) :=
  List.map_congr_left fun v hm => gj_tv_eq h (hv v hm)
theorem gj_tl_eq {n : Nat} {ad ad' : Nat → Nat} (h : ∀ x, x ≤ n → ad' x = ad x) {lc : List (Nat × Value)} (hv : ∀ q ∈ lc, gj_ov n q.2) : gj_tl ad' lc = gj_tl ad lc :=
  List.map_congr_left fun q hm => by rw [gj_tv_eq h (hv q hm)]
theorem gj_tx_eq {n : Nat} {ad ad' : Nat → Nat} (h : ∀ x, x ≤ n → ad' x = ad x) {x : gj_X} (hx : gj_ox n x) : gj_tx ad' x = gj_tx ad x := by
  rcases x with f | f | f | f | f
  · rfl
  · rfl
  · rfl
  · rfl
  · have e : (fun j => (f j).map ad') = fun j => (f j).map ad := by
      funext j
      cases hf : f j with
      | none => rfl
      | some y => exact congrArg some (h y (hx j y hf))
    show (Sum.inr (Sum.inr (Sum.inr (Sum.inr (fun j => (f j).map ad')))) : gj_X) = _
    rw [e]
    rfl
theorem gj_te_eq {dA : Nat → ClassId} {n : Nat} {ad ad' : Nat → Nat} (h : ∀ x, x ≤ n → ad' x = ad x) {e : va_E} (he : gj_oe n e) : gj_te dA ad' e = gj_te dA ad e := by
  rcases e with a | o
  · show (Sum.inl (dA a.1, a.2.1, gj_tx ad' a.2.2) : va_E) = _
    rw [gj_tx_eq h he]
    rfl
  · show (Sum.inr (o.1, o.2.map (gj_tv ad')) : va_E) = _
    rw [gj_ts_eq h he]
    rfl
theorem gj_ws_eq {dA : Nat → ClassId} {n : Nat} {ad ad' : Nat → Nat} {C : Nat → va_E} (h : ∀ x, x ≤ n → ad' x = ad x) (hC : gj_oC n C) : gj_ws dA ad' n C = gj_ws dA ad n C :=
  List.map_congr_left fun x hx => by
    have hx : x + 1 ≤ n := List.mem_range.mp hx
    rw [h _ hx, gj_te_eq h (hC _ hx)]
theorem gj_ws_push {dA : Nat → ClassId} {n q : Nat} {ad : Nat → Nat} {C : Nat → va_E} {e : va_E} (hC : gj_oC n C) (he : gj_oe n e) : gj_ws dA ad n C ++ [(q, gj_te dA ad e)] = gj_ws dA (va_up ad (n + 1) q) (n + 1) (va_up C (n + 1) e) := by
  have h : ∀ x, x ≤ n → va_up ad (n + 1) q x = ad x := fun x hx => va_up_ne ad q (by omega)
  unfold gj_ws
  rw [List.range_succ, List.map_append]
  congr 1
  · refine List.map_congr_left fun x hx => ?_
    have hx : x + 1 ≤ n := List.mem_range.mp hx
    rw [h _ hx, va_up_ne C e (show x + 1 ≠ n + 1 by omega), gj_te_eq h (hC _ hx)]
  · show [(q, gj_te dA ad e)] = [(va_up ad (n + 1) q (n + 1), gj_te dA (va_up ad (n + 1) q) (va_up C (n + 1) e (n + 1)))]
    rw [va_up_self, va_up_self, gj_te_eq h he]
theorem gj_ov_le {n n' : Nat} (h : n ≤ n') {v : Value} (hv : gj_ov n v) : gj_ov n' v := by
  cases v <;> first | trivial | exact Nat.le_trans hv h
theorem gj_oe_le {n n' : Nat} (h : n ≤ n') {e : va_E} (he : gj_oe n e) : gj_oe n' e := by
  rcases e with ⟨k, m, f | f | f | f | f⟩ | o
  · trivial
  · trivial
  · trivial
  · trivial
  · exact fun j y hy => Nat.le_trans (he j y hy) h
  · exact fun v hv => gj_ov_le h (he v hv)
theorem gj_oC_push {n : Nat} {C : Nat → va_E} {e : va_E} (hC : gj_oC n C) (he : gj_oe (n + 1) e) : gj_oC (n + 1) (va_up C (n + 1) e) := by
  intro x hx
  by_cases h : x = n + 1
  · subst h
    rw [va_up_self]
    exact he
  · rw [va_up_ne C e h]
    exact gj_oe_le (Nat.le_succ n) (hC x (by omega))
theorem gj_oC_up {n x : Nat} {C : Nat → va_E} {e : va_E} (hC : gj_oC n C) (he : gj_oe n e) : gj_oC n (va_up C x e) := by
  intro y hy
  by_cases h : y = x
  · subst h
    rw [va_up_self]
    exact he
  · rw [va_up_ne C e h]
    exact hC y hy
theorem gj_ol_le {n n' : Nat} (h : n ≤ n') {lc : List (Nat × Value)} {st : List Value} (hl : gj_ol n lc st) : gj_ol n' lc st := ⟨fun q hq => gj_ov_le h (hl.1 q hq), fun v hv => gj_ov_le h (hl.2 v hv)⟩
theorem gj_ol_pop {n : Nat} {lc : List (Nat × Value)} {v : Value} {st : List Value} (h : gj_ol n lc (v :: st)) : gj_ol n lc st := ⟨h.1, fun w hw => h.2 w (List.mem_cons_of_mem _ hw)⟩
theorem gj_ol_push {n : Nat} {lc : List (Nat × Value)} {v : Value} {st : List Value} (h : gj_ol n lc st) (hv : gj_ov n v) : gj_ol n lc (v :: st) := ⟨h.1, fun w hw => (List.mem_cons.mp hw).elim (fun e => e ▸ hv) (h.2 w)⟩
theorem gj_ol_loc {n k i : Nat} {lc : List (Nat × Value)} {v : Value} {st : List Value} (h : gj_ol n lc st) (hk : lc[k]? = some (i, v)) : gj_ov n v := h.1 _ (List.mem_of_getElem? hk)
theorem gj_tl_at {ad : Nat → Nat} {lc : List (Nat × Value)} {k i : Nat} {v : Value} (h : lc[k]? = some (i, v)) : (gj_tl ad lc)[k]? = some (i, gj_tv ad v) := by
  simp [gj_tl, h]
def gj_st1 (lc : List (Nat × Value)) (i : Nat) (v : Value) : List (Nat × Value) := (i, v) :: lc.filter (fun q => !(q.1 == i) && !(q.1 + 1 == i && q.2.category == 2))
def gj_st2 (lc : List (Nat × Value)) (i : Nat) (v : Value) : List (Nat × Value) := (i, v) :: lc.filter (fun q => !(q.1 == i) && (!(q.1 == i + 1) && !(q.1 + 1 == i && q.2.category == 2)))
theorem gj_tl_st1 {ad : Nat → Nat} {lc : List (Nat × Value)} {i : Nat} {v : Value} : (i, gj_tv ad v) :: (gj_tl ad lc).filter (fun q => !(q.1 == i) && !(q.1 + 1 == i && q.2.category == 2)) = gj_tl ad (gj_st1 lc i v) := by
  unfold gj_tl gj_st1
  rw [List.map_cons, List.filter_map]
  congr 2
  refine List.filter_congr fun q _ => ?_
  simp [gj_cat]
theorem gj_tl_st2 {ad : Nat → Nat} {lc : List (Nat × Value)} {i : Nat} {v : Value} : (i, gj_tv ad v) :: (gj_tl ad lc).filter (fun q => !(q.1 == i) && (!(q.1 == i + 1) && !(q.1 + 1 == i && q.2.category == 2))) = gj_tl ad (gj_st2 lc i v) := by
  unfold gj_tl gj_st2
  rw [List.map_cons, List.filter_map]
  congr 2
  refine List.filter_congr fun q _ => ?_
  simp [gj_cat]
theorem gj_ol_st1 {n i : Nat} {lc : List (Nat × Value)} {v : Value} {st : List Value} (h : gj_ol n lc (v :: st)) : gj_ol n (gj_st1 lc i v) st :=
  ⟨fun q hq => (List.mem_cons.mp hq).elim (fun e => by rw [e]; exact h.2 v List.mem_cons_self) (fun hm => h.1 q (List.mem_filter.mp hm).1), (gj_ol_pop h).2⟩
theorem gj_ol_st2 {n i : Nat} {lc : List (Nat × Value)} {v : Value} {st : List Value} (h : gj_ol n lc (v :: st)) : gj_ol n (gj_st2 lc i v) st :=
  ⟨fun q hq => (List.mem_cons.mp hq).elim (fun e => by rw [e]; exact h.2 v List.mem_cons_self) (fun hm => h.1 q (List.mem_filter.mp hm).1), (gj_ol_pop h).2⟩
theorem gj_args {ad : Nat → Nat} : ∀ (as : List Value) (i : Nat), lv_args i (as.map (gj_tv ad)) = gj_tl ad (lv_args i as)
  | [], _ => rfl
  | v :: as, i => by
    show (i, gj_tv ad v) :: lv_args (if (gj_tv ad v).category = 2 then i + 2 else i + 1) (as.map (gj_tv ad)) = (i, gj_tv ad v) :: gj_tl ad (lv_args (if v.category = 2 then i + 2 else i + 1) as)
    rw [gj_cat, gj_args as]
theorem gj_args_ov {n : Nat} : ∀ (as : List Value) (i : Nat), (∀ v ∈ as, gj_ov n v) → ∀ q ∈ lv_args i as, gj_ov n q.2
  | [], _, _, q, hq => by cases hq
  | v :: as, i, h, q, hq => by
    have hq : q ∈ (i, v) :: lv_args (if v.category = 2 then i + 2 else i + 1) as := hq
    rcases List.mem_cons.mp hq with e | hm
    · rw [e]
      exact h v List.mem_cons_self
    · exact gj_args_ov as _ (fun w hw => h w (List.mem_cons_of_mem _ hw)) q hm
end
section
/-! THE JUDGEMENT: method md stands at pc with locals lc, stack st, memory (n, C); it comes to an end with Q -/
/-- name, bytes, locals, what it returns, its handlers -/
abbrev gj_M : Type := MethodName × ByteArray × Nat × Option FieldType × List (Nat × Nat × Nat × Nat)
/-- the end: a value, or an exception's class; the memory -/
abbrev gj_R : Type := (Option Value ⊕ String) × Nat × (Nat → va_E)
def gj_tys (dA : Nat → ClassId) : List (ClassId × FieldType) := (List.range gj_at.length).map (fun i => (dA i, gj_at.getD i .int))
theorem gj_tys_at {dA : Nat → ClassId} {k : Nat} {ty : FieldType} (h : gj_at[k]? = some ty) : (gj_tys dA)[k]? = some (dA k, ty) := by
  have hk : k < gj_at.length := (List.getElem?_eq_some_iff.mp h).1
  unfold gj_tys
  rw [List.getElem?_map, List.getElem?_range hk]
  show some (dA k, gj_at.getD k .int) = _
  rw [List.getD_eq_getElem?_getD, h]
  rfl
def gj_Cx (md : gj_M) (p : Program) (l : Launch) (s : State) (m : MethodId) (meth : Method) (c : Code) (s0 : State) (a0 : Array Value) : Prop :=
  p.tables.exec = Jvm.exec ∧ c.code = md.2.1 ∧ l.stackTraces = false ∧ (∀ w ∈ lw_tbl, w.before a0 s0 = true) ∧ s0.WarmedH s.vm ∧ (s0.heap.size ≤ s.heap.size ∧ ∀ q : Nat, q < s0.heap.size → s.heap[q]? = s0.heap[q]?) ∧
  meth.sig.returnType = md.2.2.2.1 ∧ c.maxLocals = md.2.2.1 ∧ s.vm.findClass md.1.cls = some m.cls ∧ meth.locks = false ∧ meth.name = md.1.name ∧ c.exceptionTable.toList = tableOf md.2.2.2.2
def gj_ro (d K N : Nat) (R : Room) : Prop := d + 8 ≤ R.frames ∧ 60 * d + 200 ≤ R.locals ∧ K ≤ R.cells ∧ N ≤ R.slots
/-- what the machine's outcome is to the pure one -/
def gj_out (rv : Option Value ⊕ String) (ad : Nat → Nat) (s : State) (o : Outcome) (t : State) : Prop := match rv with
  | .inl v => o = .returned (v.map (gj_tv ad))
  | .inr E => ∃ (q : Addr) (ce : Cell), o = .threw q ∧ t.heap[q]? = some ce ∧ ce.vm = .none ∧ s.vm.findClass E = some ce.cls
def gj_or (n : Nat) (rv : Option Value ⊕ String) : Prop := match rv with
  | .inl (some v) => gj_ov n v
  | _ => True
def gj_E (below : List Frame) (s s0 : State) (dC : Nat → ClassId) (dI : Nat → Nat → Nat) (dA : Nat → ClassId) (ad : Nat → Nat) (C0 : va_E) (n K N : Nat) (Q : gj_R → Prop) : State → Prop := fun t =>
  ∃ (o : Outcome) (L : List Loc) (rv : Option Value ⊕ String) (n' : Nat) (C' : Nat → va_E) (ad' : Nat → Nat), t.status = .running ∧ Ended t below o ∧ s.WarmedH t.vm ∧ s.sameButNew ({ t with vm := s.vm } : State) L K N ∧ (∀ z ∈ L, s0.heap.size ≤ z.base) ∧
    (s0.heap.size ≤ t.heap.size ∧ ∀ q : Nat, q < s0.heap.size → t.heap[q]? = s0.heap[q]?) ∧ Q (rv, n', C') ∧ gj_out rv ad' s o t ∧ gj_or n' rv ∧ n ≤ n' ∧ (∀ x, x ≤ n → ad' x = ad x) ∧ C' 0 = C0 ∧
    va_P (dC, dI) gj_cl (gj_ws dA ad' n' C') t.heap ∧ va_D (fun q : Nat => s0.heap.size ≤ q) (gj_ws dA ad' n' C') ∧ gj_oC n' C'
/-- the script: label 0 -/
def gj_sc (s0 : State) (ad : Nat → Nat) (e : va_E) : Prop := ∃ (L : Nat) (xs : Nat → Int32), e = .inl (999, L, .inl xs) ∧ va_X (ad 0) L xs s0 s0.heap ∧ ad 0 < s0.heap.size
def gj_G (md : gj_M) (d K N k w pc : Nat) (lc : List (Nat × Value)) (st : List Value) (n : Nat) (C : Nat → va_E) (Q : gj_R → Prop) : Prop :=
  ∀ (p : Program) (l : Launch) (e : Env) (R : Room) (s : State) (m : MethodId) (args : Array Value) (below : List Frame) (meth : Method) (c : Code) (s0 : State) (a0 : Array Value) (dC : Nat → ClassId) (dI : Nat → Nat → Nat) (dA : Nat → ClassId) (H : Heap) (locs : List Loc) (ad : Nat → Nat) (ls : Array Slot),
    gj_Cx md p l s m meth c s0 a0 → gj_ro d K N R → va_K (dC, dI) gj_cl (gj_tys dA) s0 →
    va_P (dC, dI) gj_cl (gj_ws dA ad n C) H → va_D (fun q : Nat => s0.heap.size ≤ q) (gj_ws dA ad n C) → va_S (fun q : Nat => s0.heap.size ≤ q) s.heap H locs → gj_oC n C → gj_sc s0 ad (C 0) → gj_ol n lc st → lv_has ls md.2.2.1 (gj_tl ad lc) →
    W p l e R s m args below meth c H locs k w (gj_E below s s0 dC dI dA ad (C 0) n K N Q) (F0 m pc ls (st.map (gj_tv ad)))
theorem gj_Wm {p : Program} {l : Launch} {e : Env} {R : Room} {s : State} {m : MethodId} {args : Array Value} {below : List Frame} {meth : Method} {c : Code} {H : Heap} {locs : List Loc} {k w : Nat} {Q Q' : State → Prop} {g : JFrame} (h : W p l e R s m args below meth c H locs k w Q g) (hq : ∀ t, Q t → Q' t) : W p l e R s m args below meth c H locs k w Q' g := fun T hT X => by
  obtain ⟨t, a, b⟩ := h T hT X
  exact ⟨t, a, hq t b⟩
/-- a later memory's end is an earlier one's -/
theorem gj_E_mono {below : List Frame} {s s0 : State} {dC : Nat → ClassId} {dI : Nat → Nat → Nat} {dA : Nat → ClassId} {ad ad1 : Nat → Nat} {C0 C1 : va_E} {n n1 K N : Nat} {Q : gj_R → Prop} (hn : n ≤ n1) (ha : ∀ x, x ≤ n → ad1 x = ad x) (h0 : C1 = C0) (t : State) (h : gj_E below s s0 dC dI dA ad1 C1 n1 K N Q t) : gj_E below s s0 dC dI dA ad C0 n K N Q t := by
  subst h0
  obtain ⟨o, L, rv, n', C', ad', h1, h2, h3, h4, h5, h6, h7, h8, h9, h10, h11, h12⟩ := h
  exact ⟨o, L, rv, n', C', ad', h1, h2, h3, h4, h5, h6, h7, h8, h9, Nat.le_trans hn h10, fun x hx => (h11 x (Nat.le_trans hx hn)).trans (ha x hx), h12⟩
theorem gj_conseq {md : gj_M} {d K N k w pc : Nat} {lc : List (Nat × Value)} {st : List Value} {n : Nat} {C : Nat → va_E} {Q Q' : gj_R → Prop} (h : gj_G md d K N k w pc lc st n C Q) (hq : ∀ r, Q r → Q' r) : gj_G md d K N k w pc lc st n C Q' := by
  intro p l e R s m args below meth c s0 a0 dC dI dA H locs ad ls cx ro hK hP hD hS oC sc ol hl
  refine gj_Wm (h p l e R s m args below meth c s0 a0 dC dI dA H locs ad ls cx ro hK hP hD hS oC sc ol hl) ?_
  intro t ⟨o, L, rv, n', C', ad', h1, h2, h3, h4, h5, h6, h7, h8, h9⟩
  exact ⟨o, L, rv, n', C', ad', h1, h2, h3, h4, h5, h6, hq _ h7, h8, h9⟩
theorem gj_widen {md : gj_M} {d K N k w k' w' pc : Nat} {lc : List (Nat × Value)} {st : List Value} {n : Nat} {C : Nat → va_E} {Q : gj_R → Prop} (h1 : k ≤ k') (h2 : w ≤ w') (h : gj_G md d K N k' w' pc lc st n C Q) : gj_G md d K N k w pc lc st n C Q := by
  intro p l e R s m args below meth c s0 a0 dC dI dA H locs ad ls cx ro hK hP hD hS oC sc ol hl
  exact W.widen h1 h2 (h p l e R s m args below meth c s0 a0 dC dI dA H locs ad ls cx ro hK hP hD hS oC sc ol hl)
/-- more depth and room than is needed -/
theorem gj_deeper {md : gj_M} {d d' K N k w pc : Nat} {lc : List (Nat × Value)} {st : List Value} {n : Nat} {C : Nat → va_E} {Q : gj_R → Prop} (hd : d ≤ d') (h : gj_G md d K N k w pc lc st n C Q) : gj_G md d' K N k w pc lc st n C Q := by
  intro p l e R s m args below meth c s0 a0 dC dI dA H locs ad ls cx ro hK hP hD hS oC sc ol hl
  exact h p l e R s m args below meth c s0 a0 dC dI dA H locs ad ls cx ⟨by have := ro.1; omega, by have := ro.2.1; omega, ro.2.2⟩ hK hP hD hS oC sc ol hl
/-- a word of the tables, here -/
theorem gj_word {md : gj_M} {p : Program} {l : Launch} {s : State} {m : MethodId} {meth : Method} {c : Code} {s0 : State} {a0 args : Array Value} (cx : gj_Cx md p l s m meth c s0 a0) {w : Cond} (hw : w ∈ lw_tbl) (hg : goodWord w = true) : w.before args s = true :=
  word_at cx.2.2.2.2.1 (good_of_word hg) (cx.2.2.2.1 w hw)
/-- a method ends with v on its stack: what W's own rows want -/
theorem gj_fin {below : List Frame} {args : Array Value} {s s0 : State} {dC : Nat → ClassId} {dI : Nat → Nat → Nat} {dA : Nat → ClassId} {ad : Nat → Nat} {n K N k w : Nat} {C : Nat → va_E} {H : Heap} {Q : gj_R → Prop} {v : Option Value}
    (h0 : s0.heap.size ≤ s.heap.size ∧ ∀ q : Nat, q < s0.heap.size → s.heap[q]? = s0.heap[q]?) {locs : List Loc} (hS : va_S (fun q : Nat => s0.heap.size ≤ q) s.heap H locs)
    (hP : va_P (dC, dI) gj_cl (gj_ws dA ad n C) H) (hD : va_D (fun q : Nat => s0.heap.size ≤ q) (gj_ws dA ad n C)) (oC : gj_oC n C) (hv : gj_or n (.inl v)) (hk : k ≤ K) (hw : w ≤ N) (hQ : Q (.inl v, n, C)) (t : State)
    (h : MQ below (fun _ _ o t => o = .returned (v.map (gj_tv ad)) ∧ t.heap = H) args s k w (fun q : Nat => s0.heap.size ≤ q) t) : gj_E below s s0 dC dI dA ad (C 0) n K N Q t := by
  obtain ⟨o, h1, h2, ⟨h3, h4⟩, L, ⟨-, h5, h6⟩, h7⟩ := h
  refine ⟨o, L, .inl v, n, C, ad, h1, h2, h5, h6.mono hk hw, h7, ?_, hQ, h3, hv, Nat.le_refl n, fun _ _ => rfl, rfl, ?_, hD, oC⟩
  · rw [h4]
    exact ⟨Nat.le_trans h0.1 hS.1, fun q hq => by rw [hS.2.1 q (Nat.lt_of_lt_of_le hq h0.1) (Nat.not_le.mpr hq)]; exact h0.2 q hq⟩
  · rw [h4]; exact hP
section
variable {md : gj_M} {d K N k w pc : Nat} {lc : List (Nat × Value)} {st : List Value} {n : Nat} {C : Nat → va_E} {Q : gj_R → Prop}
theorem gj_iret {v : Int32} (hr : md.2.2.2.1 = some .int) (hk : k ≤ K) (hw : w ≤ N) (hd : decode md.2.1 pc = .ok (.ireturn, 1)) (hQ : Q (.inl (some (.int v)), n, C)) : gj_G md d K N k w pc lc [.int v] n C Q := by
  intro p l e R s m args below meth c s0 a0 dC dI dA H locs ad ls cx ro hK hP hD hS oC sc ol hl
  obtain ⟨hx, hb, -, -, -, h0, hret, -, -, hlocks, -⟩ := cx
  exact gj_Wm (W.iret (v := v) hx hb (hret.trans hr) (fun t ht _ => ⟨rfl, ht⟩) hS.2.2 hd hlocks) (gj_fin (v := some (.int v)) h0 hS hP hD oC trivial hk hw hQ)
theorem gj_zret {v : Int32} (hr : md.2.2.2.1 = some .boolean) (hz : v = 0 ∨ v = 1) (hk : k ≤ K) (hw : w ≤ N) (hd : decode md.2.1 pc = .ok (.ireturn, 1)) (hQ : Q (.inl (some (.int v)), n, C)) : gj_G md d K N k w pc lc [.int v] n C Q := by
  intro p l e R s m args below meth c s0 a0 dC dI dA H locs ad ls cx ro hK hP hD hS oC sc ol hl
  obtain ⟨hx, hb, -, -, -, h0, hret, -, -, hlocks, -⟩ := cx
  have hn : narrow .boolean (.int v) = .int v := by rcases hz with rfl | rfl <;> decide
  exact gj_Wm (W.zret (v := v) hx hb (hret.trans hr) hn (fun t ht _ => ⟨rfl, ht⟩) hS.2.2 hd hlocks) (gj_fin (v := some (.int v)) h0 hS hP hD oC trivial hk hw hQ)
theorem gj_lret {v : Int64} (hr : md.2.2.2.1 = some .long) (hk : k ≤ K) (hw : w ≤ N) (hd : decode md.2.1 pc = .ok (.lreturn, 1)) (hQ : Q (.inl (some (.long v)), n, C)) : gj_G md d K N k w pc lc [.long v] n C Q := by
  intro p l e R s m args below meth c s0 a0 dC dI dA H locs ad ls cx ro hK hP hD hS oC sc ol hl
  obtain ⟨hx, hb, -, -, -, h0, hret, -, -, hlocks, -⟩ := cx
  exact gj_Wm (W.lret (v := v) hx hb (hret.trans hr) (fun t ht _ => ⟨rfl, ht⟩) hS.2.2 hd hlocks) (gj_fin (v := some (.long v)) h0 hS hP hD oC trivial hk hw hQ)
theorem gj_vret (hr : md.2.2.2.1 = none) (hk : k ≤ K) (hw : w ≤ N) (hd : decode md.2.1 pc = .ok (.return_, 1)) (hQ : Q (.inl none, n, C)) : gj_G md d K N k w pc lc [] n C Q := by
  intro p l e R s m args below meth c s0 a0 dC dI dA H locs ad ls cx ro hK hP hD hS oC sc ol hl
  obtain ⟨hx, hb, -, -, -, h0, hret, -, -, hlocks, -⟩ := cx
  exact gj_Wm (W.vret hx hb (hret.trans hr) (fun t ht _ => ⟨rfl, ht⟩) hS.2.2 hd hlocks) (gj_fin (v := none) h0 hS hP hD oC trivial hk hw hQ)
theorem gj_aret {C0 : String} {v : Value} (hr : md.2.2.2.1 = some (.object C0)) (hv : v = .null ∨ ∃ x, v = .ref x) (hk : k ≤ K) (hw : w ≤ N) (hd : decode md.2.1 pc = .ok (.areturn, 1)) (hQ : Q (.inl (some v), n, C)) : gj_G md d K N k w pc lc [v] n C Q := by
  intro p l e R s m args below meth c s0 a0 dC dI dA H locs ad ls cx ro hK hP hD hS oC sc ol hl
  obtain ⟨hx, hb, -, -, -, h0, hret, -, -, hlocks, -⟩ := cx
  exact gj_Wm (W.aret (v := gj_tv ad v) hx hb (hret.trans hr) (Or.inl ⟨_, rfl⟩) (hv.elim (fun h => Or.inl (by rw [h]; rfl)) (fun ⟨x, h⟩ => Or.inr ⟨ad x, by rw [h]; rfl⟩)) (fun t ht _ => ⟨rfl, ht⟩) hS.2.2 hd hlocks) (gj_fin (v := some v) h0 hS hP hD oC (ol.2 v List.mem_cons_self) hk hw hQ)
end
end
section
/-! ONE STEP of the instructions that touch neither memory nor other methods -/
def gj_lk : List (Nat × Value) → Nat → Option Value
  | [], _ => none
  | q :: r, i => if q.1 = i then some q.2 else gj_lk r i
theorem gj_lk_in : ∀ {lc : List (Nat × Value)} {i : Nat} {v : Value}, gj_lk lc i = some v → (i, v) ∈ lc
  | [], _, _, h => by cases h
  | q :: r, i, v, h => by
    unfold gj_lk at h
    split at h
    · rename_i hq
      cases h
      rw [← hq]
      exact List.mem_cons_self
    · exact List.mem_cons_of_mem _ (gj_lk_in h)
theorem gj_lv {ls : Array Slot} {nL : Nat} {ad : Nat → Nat} {lc : List (Nat × Value)} {i : Nat} {v : Value} (hl : lv_has ls nL (gj_tl ad lc)) (h : gj_lk lc i = some v) : ls[i]? = some (.val (gj_tv ad v)) :=
  hl.2.2 (i, gj_tv ad v) (List.mem_map.mpr ⟨(i, v), gj_lk_in h, rfl⟩)
theorem gj_lp {ad : Nat → Nat} {lc : List (Nat × Value)} {i : Nat} {v : Value} (h : gj_lk lc i = some v) : ∃ j : Nat, (gj_tl ad lc)[j]? = some (i, gj_tv ad v) := by
  obtain ⟨j, hj⟩ := List.getElem?_of_mem (gj_lk_in h)
  exact ⟨j, gj_tl_at hj⟩
/-- fewer locals, as a list of one's own -/
def gj_all : List (Nat × Value) → List (Nat × Value) → Prop
  | [], _ => True
  | q :: r, lc => gj_lk lc q.1 = some q.2 ∧ gj_all r lc
theorem gj_all_in : ∀ {l lc : List (Nat × Value)}, gj_all l lc → ∀ q ∈ l, q ∈ lc
  | [], _, _, q, hq => by cases hq
  | a :: r, lc, h, q, hq => (List.mem_cons.mp hq).elim (fun e => by rw [e]; exact gj_lk_in h.1) (fun hm => gj_all_in h.2 q hm)
section
variable {md : gj_M} {d K N k w pc : Nat} {lc : List (Nat × Value)} {st : List Value} {n : Nat} {C : Nat → va_E} {Q : gj_R → Prop}
theorem gj_less {lc' : List (Nat × Value)} (h : gj_all lc' lc) (kk : gj_G md d K N k w pc lc' st n C Q) : gj_G md d K N k w pc lc st n C Q := by
  intro p l e R s m args below meth c s0 a0 dC dI dA H locs ad ls cx ro hK hP hD hS oC sc ol hl
  refine kk p l e R s m args below meth c s0 a0 dC dI dA H locs ad ls cx ro hK hP hD hS oC sc ⟨fun q hq => ol.1 q (gj_all_in h q hq), ol.2⟩ ⟨hl.1, hl.2.1, fun q hq => hl.2.2 q ?_⟩
  obtain ⟨z, hz, e⟩ := List.mem_map.mp hq
  exact List.mem_map.mpr ⟨z, gj_all_in h z hz, e⟩
theorem gj_iconst {z : Int} (hd : decode md.2.1 pc = .ok (.iconst z, 1)) (kk : gj_G md d K N k w (pc + 1) lc (.int (Int32.ofInt z) :: st) n C Q) : gj_G md d K N k w pc lc (st) n C Q := by
  intro p l e R s m args below meth c s0 a0 dC dI dA H locs ad ls cx ro hK hP hD hS oC sc ol hl
  exact lv_iconst cx.1 cx.2.1 hd rfl (kk p l e R s m args below meth c s0 a0 dC dI dA H locs ad ls cx ro hK hP hD hS oC sc (gj_ol_push ol trivial) hl)
theorem gj_bipush {z : Int} (hd : decode md.2.1 pc = .ok (.bipush z, 2)) (kk : gj_G md d K N k w (pc + 2) lc (.int ((Int8.ofInt z).toInt32) :: st) n C Q) : gj_G md d K N k w pc lc (st) n C Q := by
  intro p l e R s m args below meth c s0 a0 dC dI dA H locs ad ls cx ro hK hP hD hS oC sc ol hl
  exact lv_bipush cx.1 cx.2.1 hd rfl (kk p l e R s m args below meth c s0 a0 dC dI dA H locs ad ls cx ro hK hP hD hS oC sc (gj_ol_push ol trivial) hl)
theorem gj_sipush {z : Int} (hd : decode md.2.1 pc = .ok (.sipush z, 3)) (kk : gj_G md d K N k w (pc + 3) lc (.int ((Int16.ofInt z).toInt32) :: st) n C Q) : gj_G md d K N k w pc lc (st) n C Q := by
  intro p l e R s m args below meth c s0 a0 dC dI dA H locs ad ls cx ro hK hP hD hS oC sc ol hl
  exact lv_sipush cx.1 cx.2.1 hd rfl (kk p l e R s m args below meth c s0 a0 dC dI dA H locs ad ls cx ro hK hP hD hS oC sc (gj_ol_push ol trivial) hl)
theorem gj_lconst {z : Fin 2} (hd : decode md.2.1 pc = .ok (.lconst z, 1)) (kk : gj_G md d K N k w (pc + 1) lc (.long (Int64.ofNat z) :: st) n C Q) : gj_G md d K N k w pc lc (st) n C Q := by
  intro p l e R s m args below meth c s0 a0 dC dI dA H locs ad ls cx ro hK hP hD hS oC sc ol hl
  exact lv_lconst cx.1 cx.2.1 hd rfl (kk p l e R s m args below meth c s0 a0 dC dI dA H locs ad ls cx ro hK hP hD hS oC sc (gj_ol_push ol trivial) hl)
theorem gj_null (hd : decode md.2.1 pc = .ok (Instr.aconst_null, 1)) (kk : gj_G md d K N k w (pc + 1) lc (.null :: st) n C Q) : gj_G md d K N k w pc lc (st) n C Q := by
  intro p l e R s m args below meth c s0 a0 dC dI dA H locs ad ls cx ro hK hP hD hS oC sc ol hl
  exact lv_null cx.1 cx.2.1 hd (kk p l e R s m args below meth c s0 a0 dC dI dA H locs ad ls cx ro hK hP hD hS oC sc (gj_ol_push ol trivial) hl)
theorem gj_iload {i : Nat} {x : Int32} (hd : decode md.2.1 pc = .ok (.iload i, 2)) (hk : gj_lk lc i = some (.int x)) (kk : gj_G md d K N k w (pc + 2) lc (.int x :: st) n C Q) : gj_G md d K N k w pc lc (st) n C Q := by
  intro p l e R s m args below meth c s0 a0 dC dI dA H locs ad ls cx ro hK hP hD hS oC sc ol hl
  exact lv_iload cx.1 cx.2.1 hd (gj_lv hl hk) (kk p l e R s m args below meth c s0 a0 dC dI dA H locs ad ls cx ro hK hP hD hS oC sc (gj_ol_push ol trivial) hl)
theorem gj_iload_n {i : Fin 4} {x : Int32} (hd : decode md.2.1 pc = .ok (.iload_n i, 1)) (hk : gj_lk lc i = some (.int x)) (kk : gj_G md d K N k w (pc + 1) lc (.int x :: st) n C Q) : gj_G md d K N k w pc lc (st) n C Q := by
  intro p l e R s m args below meth c s0 a0 dC dI dA H locs ad ls cx ro hK hP hD hS oC sc ol hl
  exact lv_iload_n cx.1 cx.2.1 hd rfl (gj_lv hl hk) (kk p l e R s m args below meth c s0 a0 dC dI dA H locs ad ls cx ro hK hP hD hS oC sc (gj_ol_push ol trivial) hl)
theorem gj_lload {i : Nat} {x : Int64} (hd : decode md.2.1 pc = .ok (.lload i, 2)) (hk : gj_lk lc i = some (.long x)) (kk : gj_G md d K N k w (pc + 2) lc (.long x :: st) n C Q) : gj_G md d K N k w pc lc (st) n C Q := by
  intro p l e R s m args below meth c s0 a0 dC dI dA H locs ad ls cx ro hK hP hD hS oC sc ol hl
  exact lv_lload cx.1 cx.2.1 hd (gj_lv hl hk) (kk p l e R s m args below meth c s0 a0 dC dI dA H locs ad ls cx ro hK hP hD hS oC sc (gj_ol_push ol trivial) hl)
theorem gj_lload_n {i : Fin 4} {x : Int64} (hd : decode md.2.1 pc = .ok (.lload_n i, 1)) (hk : gj_lk lc i = some (.long x)) (kk : gj_G md d K N k w (pc + 1) lc (.long x :: st) n C Q) : gj_G md d K N k w pc lc (st) n C Q := by
  intro p l e R s m args below meth c s0 a0 dC dI dA H locs ad ls cx ro hK hP hD hS oC sc ol hl
  exact lv_lload_n cx.1 cx.2.1 hd rfl (gj_lv hl hk) (kk p l e R s m args below meth c s0 a0 dC dI dA H locs ad ls cx ro hK hP hD hS oC sc (gj_ol_push ol trivial) hl)
theorem gj_aload {i : Nat} {x : Nat} (hd : decode md.2.1 pc = .ok (.aload i, 2)) (hk : gj_lk lc i = some (.ref x)) (kk : gj_G md d K N k w (pc + 2) lc (.ref x :: st) n C Q) : gj_G md d K N k w pc lc (st) n C Q := by
  intro p l e R s m args below meth c s0 a0 dC dI dA H locs ad ls cx ro hK hP hD hS oC sc ol hl
  exact lv_aload cx.1 cx.2.1 hd (gj_lv hl hk) (kk p l e R s m args below meth c s0 a0 dC dI dA H locs ad ls cx ro hK hP hD hS oC sc (gj_ol_push ol (ol.1 _ (gj_lk_in hk))) hl)
theorem gj_aloadN {i : Nat} (hd : decode md.2.1 pc = .ok (.aload i, 2)) (hk : gj_lk lc i = some .null) (kk : gj_G md d K N k w (pc + 2) lc (.null :: st) n C Q) : gj_G md d K N k w pc lc (st) n C Q := by
  intro p l e R s m args below meth c s0 a0 dC dI dA H locs ad ls cx ro hK hP hD hS oC sc ol hl
  exact lv_aloadN cx.1 cx.2.1 hd (gj_lv hl hk) (kk p l e R s m args below meth c s0 a0 dC dI dA H locs ad ls cx ro hK hP hD hS oC sc (gj_ol_push ol trivial) hl)
theorem gj_aload_n {i : Fin 4} {x : Nat} (hd : decode md.2.1 pc = .ok (.aload_n i, 1)) (hk : gj_lk lc i = some (.ref x)) (kk : gj_G md d K N k w (pc + 1) lc (.ref x :: st) n C Q) : gj_G md d K N k w pc lc (st) n C Q := by
  intro p l e R s m args below meth c s0 a0 dC dI dA H locs ad ls cx ro hK hP hD hS oC sc ol hl
  exact lv_aload_n cx.1 cx.2.1 hd rfl (gj_lv hl hk) (kk p l e R s m args below meth c s0 a0 dC dI dA H locs ad ls cx ro hK hP hD hS oC sc (gj_ol_push ol (ol.1 _ (gj_lk_in hk))) hl)
theorem gj_aload_nN {i : Fin 4} (hd : decode md.2.1 pc = .ok (.aload_n i, 1)) (hk : gj_lk lc i = some .null) (kk : gj_G md d K N k w (pc + 1) lc (.null :: st) n C Q) : gj_G md d K N k w pc lc (st) n C Q := by
  intro p l e R s m args below meth c s0 a0 dC dI dA H locs ad ls cx ro hK hP hD hS oC sc ol hl
  exact lv_aload_nN cx.1 cx.2.1 hd rfl (gj_lv hl hk) (kk p l e R s m args below meth c s0 a0 dC dI dA H locs ad ls cx ro hK hP hD hS oC sc (gj_ol_push ol trivial) hl)
theorem gj_istore {i : Nat} {x : Int32} (hd : decode md.2.1 pc = .ok (.istore i, 2)) (hn : i < md.2.2.1) (kk : gj_G md d K N k w (pc + 2) (gj_st1 lc i (.int x)) st n C Q) : gj_G md d K N k w pc lc (.int x :: st) n C Q := by
  intro p l e R s m args below meth c s0 a0 dC dI dA H locs ad ls cx ro hK hP hD hS oC sc ol hl
  exact lv_istore cx.1 cx.2.1 hd hl hn (gj_tl_st1 (v := .int x)) (fun ls hl => kk p l e R s m args below meth c s0 a0 dC dI dA H locs ad ls cx ro hK hP hD hS oC sc (gj_ol_st1 ol) hl)
theorem gj_lstore {i : Nat} {x : Int64} (hd : decode md.2.1 pc = .ok (.lstore i, 2)) (hn : i + 1 < md.2.2.1) (kk : gj_G md d K N k w (pc + 2) (gj_st2 lc i (.long x)) st n C Q) : gj_G md d K N k w pc lc (.long x :: st) n C Q := by
  intro p l e R s m args below meth c s0 a0 dC dI dA H locs ad ls cx ro hK hP hD hS oC sc ol hl
  exact lv_lstore cx.1 cx.2.1 hd hl hn (gj_tl_st2 (v := .long x)) (fun ls hl => kk p l e R s m args below meth c s0 a0 dC dI dA H locs ad ls cx ro hK hP hD hS oC sc (gj_ol_st2 ol) hl)
theorem gj_astore {i : Nat} {x : Nat} (hd : decode md.2.1 pc = .ok (.astore i, 2)) (hn : i < md.2.2.1) (kk : gj_G md d K N k w (pc + 2) (gj_st1 lc i (.ref x)) st n C Q) : gj_G md d K N k w pc lc (.ref x :: st) n C Q := by
  intro p l e R s m args below meth c s0 a0 dC dI dA H locs ad ls cx ro hK hP hD hS oC sc ol hl
  exact lv_astore cx.1 cx.2.1 hd hl hn (gj_tl_st1 (v := .ref x)) (fun ls hl => kk p l e R s m args below meth c s0 a0 dC dI dA H locs ad ls cx ro hK hP hD hS oC sc (gj_ol_st1 ol) hl)
theorem gj_astoreN {i : Nat} (hd : decode md.2.1 pc = .ok (.astore i, 2)) (hn : i < md.2.2.1) (kk : gj_G md d K N k w (pc + 2) (gj_st1 lc i (.null)) st n C Q) : gj_G md d K N k w pc lc (.null :: st) n C Q := by
  intro p l e R s m args below meth c s0 a0 dC dI dA H locs ad ls cx ro hK hP hD hS oC sc ol hl
  exact lv_astoreN cx.1 cx.2.1 hd hl hn (gj_tl_st1 (v := .null)) (fun ls hl => kk p l e R s m args below meth c s0 a0 dC dI dA H locs ad ls cx ro hK hP hD hS oC sc (gj_ol_st1 ol) hl)
theorem gj_istore_n {i : Fin 4} {x : Int32} (hd : decode md.2.1 pc = .ok (.istore_n i, 1)) (hn : i < md.2.2.1) (kk : gj_G md d K N k w (pc + 1) (gj_st1 lc i (.int x)) st n C Q) : gj_G md d K N k w pc lc (.int x :: st) n C Q := by
  intro p l e R s m args below meth c s0 a0 dC dI dA H locs ad ls cx ro hK hP hD hS oC sc ol hl
  exact lv_istore_n cx.1 cx.2.1 hd rfl hl hn (gj_tl_st1 (v := .int x)) (fun ls hl => kk p l e R s m args below meth c s0 a0 dC dI dA H locs ad ls cx ro hK hP hD hS oC sc (gj_ol_st1 ol) hl)
theorem gj_lstore_n {i : Fin 4} {x : Int64} (hd : decode md.2.1 pc = .ok (.lstore_n i, 1)) (hn : i + 1 < md.2.2.1) (kk : gj_G md d K N k w (pc + 1) (gj_st2 lc i (.long x)) st n C Q) : gj_G md d K N k w pc lc (.long x :: st) n C Q := by
  intro p l e R s m args below meth c s0 a0 dC dI dA H locs ad ls cx ro hK hP hD hS oC sc ol hl
  exact lv_lstore_n cx.1 cx.2.1 hd rfl hl hn (gj_tl_st2 (v := .long x)) (fun ls hl => kk p l e R s m args below meth c s0 a0 dC dI dA H locs ad ls cx ro hK hP hD hS oC sc (gj_ol_st2 ol) hl)
theorem gj_astore_n {i : Fin 4} {x : Nat} (hd : decode md.2.1 pc = .ok (.astore_n i, 1)) (hn : i < md.2.2.1) (kk : gj_G md d K N k w (pc + 1) (gj_st1 lc i (.ref x)) st n C Q) : gj_G md d K N k w pc lc (.ref x :: st) n C Q := by
  intro p l e R s m args below meth c s0 a0 dC dI dA H locs ad ls cx ro hK hP hD hS oC sc ol hl
  exact lv_astore_n cx.1 cx.2.1 hd rfl hl hn (gj_tl_st1 (v := .ref x)) (fun ls hl => kk p l e R s m args below meth c s0 a0 dC dI dA H locs ad ls cx ro hK hP hD hS oC sc (gj_ol_st1 ol) hl)
theorem gj_astore_nN {i : Fin 4} (hd : decode md.2.1 pc = .ok (.astore_n i, 1)) (hn : i < md.2.2.1) (kk : gj_G md d K N k w (pc + 1) (gj_st1 lc i (.null)) st n C Q) : gj_G md d K N k w pc lc (.null :: st) n C Q := by
  intro p l e R s m args below meth c s0 a0 dC dI dA H locs ad ls cx ro hK hP hD hS oC sc ol hl
  exact lv_astore_nN cx.1 cx.2.1 hd rfl hl hn (gj_tl_st1 (v := .null)) (fun ls hl => kk p l e R s m args below meth c s0 a0 dC dI dA H locs ad ls cx ro hK hP hD hS oC sc (gj_ol_st1 ol) hl)
theorem gj_iinc {i : Nat} {z : Int} {x : Int32} (hd : decode md.2.1 pc = .ok (.iinc i z, 3)) (hk : gj_lk lc i = some (.int x)) (hn : i < md.2.2.1) (kk : gj_G md d K N k w (pc + 3) (gj_st1 lc i (.int (x + Int32.ofInt z))) st n C Q) : gj_G md d K N k w pc lc st n C Q := by
  intro p l e R s m args below meth c s0 a0 dC dI dA H locs ad ls cx ro hK hP hD hS oC sc ol hl
  obtain ⟨j, hj⟩ := gj_lp (ad := ad) hk
  exact lv_iinc cx.1 cx.2.1 hd hl (k := j) hj rfl hn (gj_tl_st1 (v := .int (x + Int32.ofInt z))) (fun ls hl => kk p l e R s m args below meth c s0 a0 dC dI dA H locs ad ls cx ro hK hP hD hS oC sc (gj_ol_st1 (gj_ol_push ol trivial)) hl)
theorem gj_iadd {x y : Int32} (hd : decode md.2.1 pc = .ok (.iadd, 1)) (kk : gj_G md d K N k w (pc + 1) lc (.int (x + y) :: st) n C Q) : gj_G md d K N k w pc lc (.int y :: .int x :: st) n C Q := by
  intro p l e R s m args below meth c s0 a0 dC dI dA H locs ad ls cx ro hK hP hD hS oC sc ol hl
  exact lv_iadd cx.1 cx.2.1 hd (kk p l e R s m args below meth c s0 a0 dC dI dA H locs ad ls cx ro hK hP hD hS oC sc (gj_ol_push (gj_ol_pop (gj_ol_pop ol)) trivial) hl)
theorem gj_isub {x y : Int32} (hd : decode md.2.1 pc = .ok (.isub, 1)) (kk : gj_G md d K N k w (pc + 1) lc (.int (x - y) :: st) n C Q) : gj_G md d K N k w pc lc (.int y :: .int x :: st) n C Q := by
  intro p l e R s m args below meth c s0 a0 dC dI dA H locs ad ls cx ro hK hP hD hS oC sc ol hl
  exact lv_isub cx.1 cx.2.1 hd (kk p l e R s m args below meth c s0 a0 dC dI dA H locs ad ls cx ro hK hP hD hS oC sc (gj_ol_push (gj_ol_pop (gj_ol_pop ol)) trivial) hl)
theorem gj_imul {x y : Int32} (hd : decode md.2.1 pc = .ok (.imul, 1)) (kk : gj_G md d K N k w (pc + 1) lc (.int (x * y) :: st) n C Q) : gj_G md d K N k w pc lc (.int y :: .int x :: st) n C Q := by
  intro p l e R s m args below meth c s0 a0 dC dI dA H locs ad ls cx ro hK hP hD hS oC sc ol hl
  exact lv_imul cx.1 cx.2.1 hd (kk p l e R s m args below meth c s0 a0 dC dI dA H locs ad ls cx ro hK hP hD hS oC sc (gj_ol_push (gj_ol_pop (gj_ol_pop ol)) trivial) hl)
theorem gj_iand {x y : Int32} (hd : decode md.2.1 pc = .ok (.iand, 1)) (kk : gj_G md d K N k w (pc + 1) lc (.int (x &&& y) :: st) n C Q) : gj_G md d K N k w pc lc (.int y :: .int x :: st) n C Q := by
  intro p l e R s m args below meth c s0 a0 dC dI dA H locs ad ls cx ro hK hP hD hS oC sc ol hl
  exact lv_iand cx.1 cx.2.1 hd (kk p l e R s m args below meth c s0 a0 dC dI dA H locs ad ls cx ro hK hP hD hS oC sc (gj_ol_push (gj_ol_pop (gj_ol_pop ol)) trivial) hl)
theorem gj_ior {x y : Int32} (hd : decode md.2.1 pc = .ok (.ior, 1)) (kk : gj_G md d K N k w (pc + 1) lc (.int (x ||| y) :: st) n C Q) : gj_G md d K N k w pc lc (.int y :: .int x :: st) n C Q := by
  intro p l e R s m args below meth c s0 a0 dC dI dA H locs ad ls cx ro hK hP hD hS oC sc ol hl
  exact lv_ior cx.1 cx.2.1 hd (kk p l e R s m args below meth c s0 a0 dC dI dA H locs ad ls cx ro hK hP hD hS oC sc (gj_ol_push (gj_ol_pop (gj_ol_pop ol)) trivial) hl)
theorem gj_ixor {x y : Int32} (hd : decode md.2.1 pc = .ok (.ixor, 1)) (kk : gj_G md d K N k w (pc + 1) lc (.int (x ^^^ y) :: st) n C Q) : gj_G md d K N k w pc lc (.int y :: .int x :: st) n C Q := by
  intro p l e R s m args below meth c s0 a0 dC dI dA H locs ad ls cx ro hK hP hD hS oC sc ol hl
  exact lv_ixor cx.1 cx.2.1 hd (kk p l e R s m args below meth c s0 a0 dC dI dA H locs ad ls cx ro hK hP hD hS oC sc (gj_ol_push (gj_ol_pop (gj_ol_pop ol)) trivial) hl)
theorem gj_ishl {x y : Int32} (hd : decode md.2.1 pc = .ok (.ishl, 1)) (kk : gj_G md d K N k w (pc + 1) lc (.int (x <<< (y &&& 31)) :: st) n C Q) : gj_G md d K N k w pc lc (.int y :: .int x :: st) n C Q := by
  intro p l e R s m args below meth c s0 a0 dC dI dA H locs ad ls cx ro hK hP hD hS oC sc ol hl
  exact lv_ishl cx.1 cx.2.1 hd (kk p l e R s m args below meth c s0 a0 dC dI dA H locs ad ls cx ro hK hP hD hS oC sc (gj_ol_push (gj_ol_pop (gj_ol_pop ol)) trivial) hl)
theorem gj_ishr {x y : Int32} (hd : decode md.2.1 pc = .ok (.ishr, 1)) (kk : gj_G md d K N k w (pc + 1) lc (.int (x >>> (y &&& 31)) :: st) n C Q) : gj_G md d K N k w pc lc (.int y :: .int x :: st) n C Q := by
  intro p l e R s m args below meth c s0 a0 dC dI dA H locs ad ls cx ro hK hP hD hS oC sc ol hl
  exact lv_ishr cx.1 cx.2.1 hd (kk p l e R s m args below meth c s0 a0 dC dI dA H locs ad ls cx ro hK hP hD hS oC sc (gj_ol_push (gj_ol_pop (gj_ol_pop ol)) trivial) hl)
theorem gj_idiv {x y : Int32} (hd : decode md.2.1 pc = .ok (.idiv, 1)) (hne : ¬ y = 0) (kk : gj_G md d K N k w (pc + 1) lc (.int (x / y) :: st) n C Q) : gj_G md d K N k w pc lc (.int y :: .int x :: st) n C Q := by
  intro p l e R s m args below meth c s0 a0 dC dI dA H locs ad ls cx ro hK hP hD hS oC sc ol hl
  exact lv_idiv cx.1 cx.2.1 hd hne (kk p l e R s m args below meth c s0 a0 dC dI dA H locs ad ls cx ro hK hP hD hS oC sc (gj_ol_push (gj_ol_pop (gj_ol_pop ol)) trivial) hl)
theorem gj_irem {x y : Int32} (hd : decode md.2.1 pc = .ok (.irem, 1)) (hne : ¬ y = 0) (kk : gj_G md d K N k w (pc + 1) lc (.int (x - x / y * y) :: st) n C Q) : gj_G md d K N k w pc lc (.int y :: .int x :: st) n C Q := by
  intro p l e R s m args below meth c s0 a0 dC dI dA H locs ad ls cx ro hK hP hD hS oC sc ol hl
  exact lv_irem cx.1 cx.2.1 hd hne (kk p l e R s m args below meth c s0 a0 dC dI dA H locs ad ls cx ro hK hP hD hS oC sc (gj_ol_push (gj_ol_pop (gj_ol_pop ol)) trivial) hl)
theorem gj_ladd {x y : Int64} (hd : decode md.2.1 pc = .ok (.ladd, 1)) (kk : gj_G md d K N k w (pc + 1) lc (.long (x + y) :: st) n C Q) : gj_G md d K N k w pc lc (.long y :: .long x :: st) n C Q := by
  intro p l e R s m args below meth c s0 a0 dC dI dA H locs ad ls cx ro hK hP hD hS oC sc ol hl
  exact lv_ladd cx.1 cx.2.1 hd (kk p l e R s m args below meth c s0 a0 dC dI dA H locs ad ls cx ro hK hP hD hS oC sc (gj_ol_push (gj_ol_pop (gj_ol_pop ol)) trivial) hl)
theorem gj_lsub {x y : Int64} (hd : decode md.2.1 pc = .ok (.lsub, 1)) (kk : gj_G md d K N k w (pc + 1) lc (.long (x - y) :: st) n C Q) : gj_G md d K N k w pc lc (.long y :: .long x :: st) n C Q := by
  intro p l e R s m args below meth c s0 a0 dC dI dA H locs ad ls cx ro hK hP hD hS oC sc ol hl
  exact lv_lsub cx.1 cx.2.1 hd (kk p l e R s m args below meth c s0 a0 dC dI dA H locs ad ls cx ro hK hP hD hS oC sc (gj_ol_push (gj_ol_pop (gj_ol_pop ol)) trivial) hl)
theorem gj_lmul {x y : Int64} (hd : decode md.2.1 pc = .ok (.lmul, 1)) (kk : gj_G md d K N k w (pc + 1) lc (.long (x * y) :: st) n C Q) : gj_G md d K N k w pc lc (.long y :: .long x :: st) n C Q := by
  intro p l e R s m args below meth c s0 a0 dC dI dA H locs ad ls cx ro hK hP hD hS oC sc ol hl
  exact lv_lmul cx.1 cx.2.1 hd (kk p l e R s m args below meth c s0 a0 dC dI dA H locs ad ls cx ro hK hP hD hS oC sc (gj_ol_push (gj_ol_pop (gj_ol_pop ol)) trivial) hl)
theorem gj_ldiv {x y : Int64} (hd : decode md.2.1 pc = .ok (.ldiv, 1)) (hne : ¬ y = 0) (kk : gj_G md d K N k w (pc + 1) lc (.long (x / y) :: st) n C Q) : gj_G md d K N k w pc lc (.long y :: .long x :: st) n C Q := by
  intro p l e R s m args below meth c s0 a0 dC dI dA H locs ad ls cx ro hK hP hD hS oC sc ol hl
  exact lv_ldiv cx.1 cx.2.1 hd hne (kk p l e R s m args below meth c s0 a0 dC dI dA H locs ad ls cx ro hK hP hD hS oC sc (gj_ol_push (gj_ol_pop (gj_ol_pop ol)) trivial) hl)
theorem gj_lrem {x y : Int64} (hd : decode md.2.1 pc = .ok (.lrem, 1)) (hne : ¬ y = 0) (kk : gj_G md d K N k w (pc + 1) lc (.long (x - x / y * y) :: st) n C Q) : gj_G md d K N k w pc lc (.long y :: .long x :: st) n C Q := by
  intro p l e R s m args below meth c s0 a0 dC dI dA H locs ad ls cx ro hK hP hD hS oC sc ol hl
  exact lv_lrem cx.1 cx.2.1 hd hne (kk p l e R s m args below meth c s0 a0 dC dI dA H locs ad ls cx ro hK hP hD hS oC sc (gj_ol_push (gj_ol_pop (gj_ol_pop ol)) trivial) hl)
theorem gj_lcmp {x y : Int64} (hd : decode md.2.1 pc = .ok (.lcmp, 1)) (kk : gj_G md d K N k w (pc + 1) lc (.int (lg_cmp x y) :: st) n C Q) : gj_G md d K N k w pc lc (.long y :: .long x :: st) n C Q := by
  intro p l e R s m args below meth c s0 a0 dC dI dA H locs ad ls cx ro hK hP hD hS oC sc ol hl
  exact W.lcmp cx.1 cx.2.1 hd (kk p l e R s m args below meth c s0 a0 dC dI dA H locs ad ls cx ro hK hP hD hS oC sc (gj_ol_push (gj_ol_pop (gj_ol_pop ol)) trivial) hl)
theorem gj_ineg {x : Int32} (hd : decode md.2.1 pc = .ok (.ineg, 1)) (kk : gj_G md d K N k w (pc + 1) lc (.int (-x) :: st) n C Q) : gj_G md d K N k w pc lc (.int x :: st) n C Q := by
  intro p l e R s m args below meth c s0 a0 dC dI dA H locs ad ls cx ro hK hP hD hS oC sc ol hl
  exact lv_ineg cx.1 cx.2.1 hd (kk p l e R s m args below meth c s0 a0 dC dI dA H locs ad ls cx ro hK hP hD hS oC sc (gj_ol_push (gj_ol_pop ol) trivial) hl)
theorem gj_i2l {x : Int32} (hd : decode md.2.1 pc = .ok (.i2l, 1)) (kk : gj_G md d K N k w (pc + 1) lc (.long x.toInt64 :: st) n C Q) : gj_G md d K N k w pc lc (.int x :: st) n C Q := by
  intro p l e R s m args below meth c s0 a0 dC dI dA H locs ad ls cx ro hK hP hD hS oC sc ol hl
  exact lv_i2l cx.1 cx.2.1 hd rfl (kk p l e R s m args below meth c s0 a0 dC dI dA H locs ad ls cx ro hK hP hD hS oC sc (gj_ol_push (gj_ol_pop ol) trivial) hl)
theorem gj_l2i {x : Int64} (hd : decode md.2.1 pc = .ok (.l2i, 1)) (kk : gj_G md d K N k w (pc + 1) lc (.int x.toInt32 :: st) n C Q) : gj_G md d K N k w pc lc (.long x :: st) n C Q := by
  intro p l e R s m args below meth c s0 a0 dC dI dA H locs ad ls cx ro hK hP hD hS oC sc ol hl
  exact lv_l2i cx.1 cx.2.1 hd rfl (kk p l e R s m args below meth c s0 a0 dC dI dA H locs ad ls cx ro hK hP hD hS oC sc (gj_ol_push (gj_ol_pop ol) trivial) hl)
theorem gj_dup {v : Value} (hd : decode md.2.1 pc = .ok (.dup, 1)) (hv : v.category = 1) (kk : gj_G md d K N k w (pc + 1) lc (v :: v :: st) n C Q) : gj_G md d K N k w pc lc (v :: st) n C Q := by
  intro p l e R s m args below meth c s0 a0 dC dI dA H locs ad ls cx ro hK hP hD hS oC sc ol hl
  exact lv_dup cx.1 cx.2.1 hd ((gj_cat ad v).trans hv) (kk p l e R s m args below meth c s0 a0 dC dI dA H locs ad ls cx ro hK hP hD hS oC sc (gj_ol_push ol (ol.2 v List.mem_cons_self)) hl)
theorem gj_pop {v : Value} (hd : decode md.2.1 pc = .ok (.pop, 1)) (hv : v.category = 1) (kk : gj_G md d K N k w (pc + 1) lc (st) n C Q) : gj_G md d K N k w pc lc (v :: st) n C Q := by
  intro p l e R s m args below meth c s0 a0 dC dI dA H locs ad ls cx ro hK hP hD hS oC sc ol hl
  exact lv_pop cx.1 cx.2.1 hd ((gj_cat ad v).trans hv) (kk p l e R s m args below meth c s0 a0 dC dI dA H locs ad ls cx ro hK hP hD hS oC sc (gj_ol_pop ol) hl)
theorem gj_dup_x1 {v u : Value} (hd : decode md.2.1 pc = .ok (.dup_x1, 1)) (hv : v.category = 1) (hu : u.category = 1) (kk : gj_G md d K N k w (pc + 1) lc (v :: u :: v :: st) n C Q) : gj_G md d K N k w pc lc (v :: u :: st) n C Q := by
  intro p l e R s m args below meth c s0 a0 dC dI dA H locs ad ls cx ro hK hP hD hS oC sc ol hl
  exact lv_dup_x1 cx.1 cx.2.1 hd ((gj_cat ad v).trans hv) ((gj_cat ad u).trans hu) (kk p l e R s m args below meth c s0 a0 dC dI dA H locs ad ls cx ro hK hP hD hS oC sc (gj_ol_push (gj_ol_push (gj_ol_push (gj_ol_pop (gj_ol_pop ol)) (ol.2 v List.mem_cons_self)) (ol.2 u (List.mem_cons_of_mem _ List.mem_cons_self))) (ol.2 v List.mem_cons_self)) hl)
theorem gj_dup2 {v u : Value} (hd : decode md.2.1 pc = .ok (.dup2, 1)) (hv : v.category = 1) (hu : u.category = 1) (kk : gj_G md d K N k w (pc + 1) lc (v :: u :: v :: u :: st) n C Q) : gj_G md d K N k w pc lc (v :: u :: st) n C Q := by
  intro p l e R s m args below meth c s0 a0 dC dI dA H locs ad ls cx ro hK hP hD hS oC sc ol hl
  exact lv_dup2_11 cx.1 cx.2.1 hd ((gj_cat ad v).trans hv) ((gj_cat ad u).trans hu) (kk p l e R s m args below meth c s0 a0 dC dI dA H locs ad ls cx ro hK hP hD hS oC sc (gj_ol_push (gj_ol_push ol (ol.2 u (List.mem_cons_of_mem _ List.mem_cons_self))) (ol.2 v List.mem_cons_self)) hl)
theorem gj_dup_x2 {v u z : Value} (hd : decode md.2.1 pc = .ok (.dup_x2, 1)) (hv : v.category = 1) (hu : u.category = 1) (hz : z.category = 1) (kk : gj_G md d K N k w (pc + 1) lc (v :: u :: z :: v :: st) n C Q) : gj_G md d K N k w pc lc (v :: u :: z :: st) n C Q := by
  intro p l e R s m args below meth c s0 a0 dC dI dA H locs ad ls cx ro hK hP hD hS oC sc ol hl
  exact lv_dup_x2 cx.1 cx.2.1 hd ((gj_cat ad v).trans hv) ((gj_cat ad u).trans hu) ((gj_cat ad z).trans hz) (kk p l e R s m args below meth c s0 a0 dC dI dA H locs ad ls cx ro hK hP hD hS oC sc (gj_ol_push (gj_ol_push (gj_ol_push (gj_ol_push (gj_ol_pop (gj_ol_pop (gj_ol_pop ol))) (ol.2 v List.mem_cons_self)) (ol.2 z (List.mem_cons_of_mem _ (List.mem_cons_of_mem _ List.mem_cons_self)))) (ol.2 u (List.mem_cons_of_mem _ List.mem_cons_self))) (ol.2 v List.mem_cons_self)) hl)
theorem gj_goto {off : Int} {tgt : Nat} (hd : decode md.2.1 pc = .ok (.goto off, 3)) (ht : (pc : Int) + off = (tgt : Int)) (kk : gj_G md d K N k w tgt lc st n C Q) : gj_G md d K N k w pc lc st n C Q := by
  intro p l e R s m args below meth c s0 a0 dC dI dA H locs ad ls cx ro hK hP hD hS oC sc ol hl
  exact lv_goto cx.1 cx.2.1 hd ht (kk p l e R s m args below meth c s0 a0 dC dI dA H locs ad ls cx ro hK hP hD hS oC sc ol hl)
theorem gj_if_eq {x : Int32} {off : Int} {tgt : Nat} (hd : decode md.2.1 pc = .ok (.ifCond .eq off, 3)) (ht : (pc : Int) + off = (tgt : Int)) (kt : x = 0 → gj_G md d K N k w tgt lc st n C Q) (kf : ¬ (x = 0) → gj_G md d K N k w (pc + 3) lc st n C Q) : gj_G md d K N k w pc lc (.int x :: st) n C Q := by
  intro p l e R s m args below meth c s0 a0 dC dI dA H locs ad ls cx ro hK hP hD hS oC sc ol hl
  exact lv_if_eq cx.1 cx.2.1 hd ht (fun h => kt h p l e R s m args below meth c s0 a0 dC dI dA H locs ad ls cx ro hK hP hD hS oC sc (gj_ol_pop ol) hl) (fun h => kf h p l e R s m args below meth c s0 a0 dC dI dA H locs ad ls cx ro hK hP hD hS oC sc (gj_ol_pop ol) hl)
theorem gj_icmp_eq {x y : Int32} {off : Int} {tgt : Nat} (hd : decode md.2.1 pc = .ok (.if_icmp .eq off, 3)) (ht : (pc : Int) + off = (tgt : Int)) (kt : x = y → gj_G md d K N k w tgt lc st n C Q) (kf : ¬ (x = y) → gj_G md d K N k w (pc + 3) lc st n C Q) : gj_G md d K N k w pc lc (.int y :: .int x :: st) n C Q := by
  intro p l e R s m args below meth c s0 a0 dC dI dA H locs ad ls cx ro hK hP hD hS oC sc ol hl
  exact lv_icmp_eq cx.1 cx.2.1 hd ht (fun h => kt h p l e R s m args below meth c s0 a0 dC dI dA H locs ad ls cx ro hK hP hD hS oC sc (gj_ol_pop (gj_ol_pop ol)) hl) (fun h => kf h p l e R s m args below meth c s0 a0 dC dI dA H locs ad ls cx ro hK hP hD hS oC sc (gj_ol_pop (gj_ol_pop ol)) hl)
theorem gj_if_lt {x : Int32} {off : Int} {tgt : Nat} (hd : decode md.2.1 pc = .ok (.ifCond .lt off, 3)) (ht : (pc : Int) + off = (tgt : Int)) (kt : x < 0 → gj_G md d K N k w tgt lc st n C Q) (kf : ¬ (x < 0) → gj_G md d K N k w (pc + 3) lc st n C Q) : gj_G md d K N k w pc lc (.int x :: st) n C Q := by
  intro p l e R s m args below meth c s0 a0 dC dI dA H locs ad ls cx ro hK hP hD hS oC sc ol hl
  exact lv_if_lt cx.1 cx.2.1 hd ht (fun h => kt h p l e R s m args below meth c s0 a0 dC dI dA H locs ad ls cx ro hK hP hD hS oC sc (gj_ol_pop ol) hl) (fun h => kf h p l e R s m args below meth c s0 a0 dC dI dA H locs ad ls cx ro hK hP hD hS oC sc (gj_ol_pop ol) hl)
theorem gj_icmp_lt {x y : Int32} {off : Int} {tgt : Nat} (hd : decode md.2.1 pc = .ok (.if_icmp .lt off, 3)) (ht : (pc : Int) + off = (tgt : Int)) (kt : x < y → gj_G md d K N k w tgt lc st n C Q) (kf : ¬ (x < y) → gj_G md d K N k w (pc + 3) lc st n C Q) : gj_G md d K N k w pc lc (.int y :: .int x :: st) n C Q := by
  intro p l e R s m args below meth c s0 a0 dC dI dA H locs ad ls cx ro hK hP hD hS oC sc ol hl
  exact lv_icmp_lt cx.1 cx.2.1 hd ht (fun h => kt h p l e R s m args below meth c s0 a0 dC dI dA H locs ad ls cx ro hK hP hD hS oC sc (gj_ol_pop (gj_ol_pop ol)) hl) (fun h => kf h p l e R s m args below meth c s0 a0 dC dI dA H locs ad ls cx ro hK hP hD hS oC sc (gj_ol_pop (gj_ol_pop ol)) hl)
theorem gj_if_ge {x : Int32} {off : Int} {tgt : Nat} (hd : decode md.2.1 pc = .ok (.ifCond .ge off, 3)) (ht : (pc : Int) + off = (tgt : Int)) (kt : 0 ≤ x → gj_G md d K N k w tgt lc st n C Q) (kf : ¬ (0 ≤ x) → gj_G md d K N k w (pc + 3) lc st n C Q) : gj_G md d K N k w pc lc (.int x :: st) n C Q := by
  intro p l e R s m args below meth c s0 a0 dC dI dA H locs ad ls cx ro hK hP hD hS oC sc ol hl
  exact lv_if_ge cx.1 cx.2.1 hd ht (fun h => kt h p l e R s m args below meth c s0 a0 dC dI dA H locs ad ls cx ro hK hP hD hS oC sc (gj_ol_pop ol) hl) (fun h => kf h p l e R s m args below meth c s0 a0 dC dI dA H locs ad ls cx ro hK hP hD hS oC sc (gj_ol_pop ol) hl)
theorem gj_icmp_ge {x y : Int32} {off : Int} {tgt : Nat} (hd : decode md.2.1 pc = .ok (.if_icmp .ge off, 3)) (ht : (pc : Int) + off = (tgt : Int)) (kt : y ≤ x → gj_G md d K N k w tgt lc st n C Q) (kf : ¬ (y ≤ x) → gj_G md d K N k w (pc + 3) lc st n C Q) : gj_G md d K N k w pc lc (.int y :: .int x :: st) n C Q := by
  intro p l e R s m args below meth c s0 a0 dC dI dA H locs ad ls cx ro hK hP hD hS oC sc ol hl
  exact lv_icmp_ge cx.1 cx.2.1 hd ht (fun h => kt h p l e R s m args below meth c s0 a0 dC dI dA H locs ad ls cx ro hK hP hD hS oC sc (gj_ol_pop (gj_ol_pop ol)) hl) (fun h => kf h p l e R s m args below meth c s0 a0 dC dI dA H locs ad ls cx ro hK hP hD hS oC sc (gj_ol_pop (gj_ol_pop ol)) hl)
theorem gj_if_gt {x : Int32} {off : Int} {tgt : Nat} (hd : decode md.2.1 pc = .ok (.ifCond .gt off, 3)) (ht : (pc : Int) + off = (tgt : Int)) (kt : 0 < x → gj_G md d K N k w tgt lc st n C Q) (kf : ¬ (0 < x) → gj_G md d K N k w (pc + 3) lc st n C Q) : gj_G md d K N k w pc lc (.int x :: st) n C Q := by
  intro p l e R s m args below meth c s0 a0 dC dI dA H locs ad ls cx ro hK hP hD hS oC sc ol hl
  exact lv_if_gt cx.1 cx.2.1 hd ht (fun h => kt h p l e R s m args below meth c s0 a0 dC dI dA H locs ad ls cx ro hK hP hD hS oC sc (gj_ol_pop ol) hl) (fun h => kf h p l e R s m args below meth c s0 a0 dC dI dA H locs ad ls cx ro hK hP hD hS oC sc (gj_ol_pop ol) hl)
theorem gj_icmp_gt {x y : Int32} {off : Int} {tgt : Nat} (hd : decode md.2.1 pc = .ok (.if_icmp .gt off, 3)) (ht : (pc : Int) + off = (tgt : Int)) (kt : y < x → gj_G md d K N k w tgt lc st n C Q) (kf : ¬ (y < x) → gj_G md d K N k w (pc + 3) lc st n C Q) : gj_G md d K N k w pc lc (.int y :: .int x :: st) n C Q := by
  intro p l e R s m args below meth c s0 a0 dC dI dA H locs ad ls cx ro hK hP hD hS oC sc ol hl
  exact lv_icmp_gt cx.1 cx.2.1 hd ht (fun h => kt h p l e R s m args below meth c s0 a0 dC dI dA H locs ad ls cx ro hK hP hD hS oC sc (gj_ol_pop (gj_ol_pop ol)) hl) (fun h => kf h p l e R s m args below meth c s0 a0 dC dI dA H locs ad ls cx ro hK hP hD hS oC sc (gj_ol_pop (gj_ol_pop ol)) hl)
theorem gj_if_le {x : Int32} {off : Int} {tgt : Nat} (hd : decode md.2.1 pc = .ok (.ifCond .le off, 3)) (ht : (pc : Int) + off = (tgt : Int)) (kt : x ≤ 0 → gj_G md d K N k w tgt lc st n C Q) (kf : ¬ (x ≤ 0) → gj_G md d K N k w (pc + 3) lc st n C Q) : gj_G md d K N k w pc lc (.int x :: st) n C Q := by
  intro p l e R s m args below meth c s0 a0 dC dI dA H locs ad ls cx ro hK hP hD hS oC sc ol hl
  exact lv_if_le cx.1 cx.2.1 hd ht (fun h => kt h p l e R s m args below meth c s0 a0 dC dI dA H locs ad ls cx ro hK hP hD hS oC sc (gj_ol_pop ol) hl) (fun h => kf h p l e R s m args below meth c s0 a0 dC dI dA H locs ad ls cx ro hK hP hD hS oC sc (gj_ol_pop ol) hl)
theorem gj_icmp_le {x y : Int32} {off : Int} {tgt : Nat} (hd : decode md.2.1 pc = .ok (.if_icmp .le off, 3)) (ht : (pc : Int) + off = (tgt : Int)) (kt : x ≤ y → gj_G md d K N k w tgt lc st n C Q) (kf : ¬ (x ≤ y) → gj_G md d K N k w (pc + 3) lc st n C Q) : gj_G md d K N k w pc lc (.int y :: .int x :: st) n C Q := by
  intro p l e R s m args below meth c s0 a0 dC dI dA H locs ad ls cx ro hK hP hD hS oC sc ol hl
  exact lv_icmp_le cx.1 cx.2.1 hd ht (fun h => kt h p l e R s m args below meth c s0 a0 dC dI dA H locs ad ls cx ro hK hP hD hS oC sc (gj_ol_pop (gj_ol_pop ol)) hl) (fun h => kf h p l e R s m args below meth c s0 a0 dC dI dA H locs ad ls cx ro hK hP hD hS oC sc (gj_ol_pop (gj_ol_pop ol)) hl)
theorem gj_if_ne {x : Int32} {off : Int} {tgt : Nat} (hd : decode md.2.1 pc = .ok (.ifCond .ne off, 3)) (ht : (pc : Int) + off = (tgt : Int)) (kt : ¬ x = 0 → gj_G md d K N k w tgt lc st n C Q) (kf : x = 0 → gj_G md d K N k w (pc + 3) lc st n C Q) : gj_G md d K N k w pc lc (.int x :: st) n C Q := by
  intro p l e R s m args below meth c s0 a0 dC dI dA H locs ad ls cx ro hK hP hD hS oC sc ol hl
  exact lv_if_ne cx.1 cx.2.1 hd ht (fun h => kt h p l e R s m args below meth c s0 a0 dC dI dA H locs ad ls cx ro hK hP hD hS oC sc (gj_ol_pop ol) hl) (fun h => kf h p l e R s m args below meth c s0 a0 dC dI dA H locs ad ls cx ro hK hP hD hS oC sc (gj_ol_pop ol) hl)
theorem gj_icmp_ne {x y : Int32} {off : Int} {tgt : Nat} (hd : decode md.2.1 pc = .ok (.if_icmp .ne off, 3)) (ht : (pc : Int) + off = (tgt : Int)) (kt : ¬ x = y → gj_G md d K N k w tgt lc st n C Q) (kf : x = y → gj_G md d K N k w (pc + 3) lc st n C Q) : gj_G md d K N k w pc lc (.int y :: .int x :: st) n C Q := by
  intro p l e R s m args below meth c s0 a0 dC dI dA H locs ad ls cx ro hK hP hD hS oC sc ol hl
  exact lv_icmp_ne cx.1 cx.2.1 hd ht (fun h => kt h p l e R s m args below meth c s0 a0 dC dI dA H locs ad ls cx ro hK hP hD hS oC sc (gj_ol_pop (gj_ol_pop ol)) hl) (fun h => kf h p l e R s m args below meth c s0 a0 dC dI dA H locs ad ls cx ro hK hP hD hS oC sc (gj_ol_pop (gj_ol_pop ol)) hl)
theorem gj_ifnull {x : Nat} {off : Int} (hd : decode md.2.1 pc = .ok (.ifnull off, 3)) (kk : gj_G md d K N k w (pc + 3) lc (st) n C Q) : gj_G md d K N k w pc lc (.ref x :: st) n C Q := by
  intro p l e R s m args below meth c s0 a0 dC dI dA H locs ad ls cx ro hK hP hD hS oC sc ol hl
  exact lv_ifnull cx.1 cx.2.1 hd (kk p l e R s m args below meth c s0 a0 dC dI dA H locs ad ls cx ro hK hP hD hS oC sc (gj_ol_pop ol) hl)
theorem gj_ifnonnullN {off : Int} (hd : decode md.2.1 pc = .ok (.ifnonnull off, 3)) (kk : gj_G md d K N k w (pc + 3) lc (st) n C Q) : gj_G md d K N k w pc lc (.null :: st) n C Q := by
  intro p l e R s m args below meth c s0 a0 dC dI dA H locs ad ls cx ro hK hP hD hS oC sc ol hl
  exact lv_ifnonnullN cx.1 cx.2.1 hd (kk p l e R s m args below meth c s0 a0 dC dI dA H locs ad ls cx ro hK hP hD hS oC sc (gj_ol_pop ol) hl)
theorem gj_ifnonnull {x : Nat} {off : Int} {tgt : Nat} (hd : decode md.2.1 pc = .ok (.ifnonnull off, 3)) (ht : (pc : Int) + off = (tgt : Int)) (kk : gj_G md d K N k w tgt lc st n C Q) : gj_G md d K N k w pc lc (.ref x :: st) n C Q := by
  intro p l e R s m args below meth c s0 a0 dC dI dA H locs ad ls cx ro hK hP hD hS oC sc ol hl
  exact lv_ifnonnull cx.1 cx.2.1 hd ht (kk p l e R s m args below meth c s0 a0 dC dI dA H locs ad ls cx ro hK hP hD hS oC sc (gj_ol_pop ol) hl)
theorem gj_ifnullN {off : Int} {tgt : Nat} (hd : decode md.2.1 pc = .ok (.ifnull off, 3)) (ht : (pc : Int) + off = (tgt : Int)) (kk : gj_G md d K N k w tgt lc st n C Q) : gj_G md d K N k w pc lc (.null :: st) n C Q := by
  intro p l e R s m args below meth c s0 a0 dC dI dA H locs ad ls cx ro hK hP hD hS oC sc ol hl
  exact lv_ifnullN cx.1 cx.2.1 hd ht (kk p l e R s m args below meth c s0 a0 dC dI dA H locs ad ls cx ro hK hP hD hS oC sc (gj_ol_pop ol) hl)
theorem gj_lookup {dflt off : Int} {ps : Array (Int × Int)} {len tgt : Nat} {x : Int32} (hd : decode md.2.1 pc = .ok (.lookupswitch dflt ps, len)) (hp : (ps.toList.zip (ps.toList.drop 1)).all (fun (a, next) => a.1 < next.1) = true) (ho : Op.lookupswitch.offset ps.toList dflt x.toInt = off) (ht : (pc : Int) + off = (tgt : Int)) (kk : gj_G md d K N k w tgt lc st n C Q) : gj_G md d K N k w pc lc (.int x :: st) n C Q := by
  intro p l e R s m args below meth c s0 a0 dC dI dA H locs ad ls cx ro hK hP hD hS oC sc ol hl
  exact lv_lookup cx.1 cx.2.1 hd hp ho ht (kk p l e R s m args below meth c s0 a0 dC dI dA H locs ad ls cx ro hK hP hD hS oC sc (gj_ol_pop ol) hl)
theorem gj_tableOut {dflt lo hi : Int} {offs : Array Int} {len tgt : Nat} {x : Int32} (hd : decode md.2.1 pc = .ok (.tableswitch dflt lo hi offs, len)) (h : x.toInt < lo ∨ hi < x.toInt) (ht : (pc : Int) + dflt = (tgt : Int)) (kk : gj_G md d K N k w tgt lc st n C Q) : gj_G md d K N k w pc lc (.int x :: st) n C Q := by
  intro p l e R s m args below meth c s0 a0 dC dI dA H locs ad ls cx ro hK hP hD hS oC sc ol hl
  exact lv_tableOut cx.1 cx.2.1 hd h ht (kk p l e R s m args below meth c s0 a0 dC dI dA H locs ad ls cx ro hK hP hD hS oC sc (gj_ol_pop ol) hl)
theorem gj_tableIn {dflt lo hi off : Int} {offs : Array Int} {len tgt : Nat} {x : Int32} (hd : decode md.2.1 pc = .ok (.tableswitch dflt lo hi offs, len)) (h1 : ¬ x.toInt < lo) (h2 : ¬ hi < x.toInt) (ho : offs[(x.toInt - lo).toNat]? = some off) (ht : (pc : Int) + off = (tgt : Int)) (kk : gj_G md d K N k w tgt lc st n C Q) : gj_G md d K N k w pc lc (.int x :: st) n C Q := by
  intro p l e R s m args below meth c s0 a0 dC dI dA H locs ad ls cx ro hK hP hD hS oC sc ol hl
  exact lv_tableIn cx.1 cx.2.1 hd h1 h2 ho ht (kk p l e R s m args below meth c s0 a0 dC dI dA H locs ad ls cx ro hK hP hD hS oC sc (gj_ol_pop ol) hl)
theorem gj_ldc {ix : Nat} {v : Int32} (hd : decode md.2.1 pc = .ok (.ldc ix, 2)) (hw : Cond.constant md.1.cls ix v ∈ lw_tbl) (kk : gj_G md d K N k w (pc + 2) lc (.int v :: st) n C Q) : gj_G md d K N k w pc lc st n C Q := by
  intro p l e R s m args below meth c s0 a0 dC dI dA H locs ad ls cx ro hK hP hD hS oC sc ol hl
  exact lv_ldc cx.1 cx.2.1 cx.2.2.2.2.2.2.2.2.1 (gj_word cx hw rfl) hd (kk p l e R s m args below meth c s0 a0 dC dI dA H locs ad ls cx ro hK hP hD hS oC sc (gj_ol_push ol trivial) hl)
theorem gj_ldcw {ix : Nat} {v : Int32} (hd : decode md.2.1 pc = .ok (.ldc_w ix, 3)) (hw : Cond.constant md.1.cls ix v ∈ lw_tbl) (kk : gj_G md d K N k w (pc + 3) lc (.int v :: st) n C Q) : gj_G md d K N k w pc lc st n C Q := by
  intro p l e R s m args below meth c s0 a0 dC dI dA H locs ad ls cx ro hK hP hD hS oC sc ol hl
  exact lv_ldcw cx.1 cx.2.1 cx.2.2.2.2.2.2.2.2.1 (gj_word cx hw rfl) hd (kk p l e R s m args below meth c s0 a0 dC dI dA H locs ad ls cx ro hK hP hD hS oC sc (gj_ol_push ol trivial) hl)
theorem gj_ldc2 {ix : Nat} {v : Int64} (hd : decode md.2.1 pc = .ok (.ldc2_w ix, 3)) (hw : Cond.constantLong md.1.cls ix v ∈ lw_tbl) (kk : gj_G md d K N k w (pc + 3) lc (.long v :: st) n C Q) : gj_G md d K N k w pc lc st n C Q := by
  intro p l e R s m args below meth c s0 a0 dC dI dA H locs ad ls cx ro hK hP hD hS oC sc ol hl
  exact lv_ldc2 cx.1 cx.2.1 cx.2.2.2.2.2.2.2.2.1 (gj_word cx hw rfl) hd (kk p l e R s m args below meth c s0 a0 dC dI dA H locs ad ls cx ro hK hP hD hS oC sc (gj_ol_push ol trivial) hl)
end
end
