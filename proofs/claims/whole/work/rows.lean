section
-- ===== PART A: goes FIRST, ahead of the names: the tables' words, and 'selects' of the private methods out of them =====
/-- a private method of a class that the tables say can be made, by its rows of tables_1 -/
def lw_okq (q : MethodName × Nat) : Prop := (q.1.cls ≠ "java/lang/invoke/MethodHandle" ∧ q.1.cls ≠ "java/lang/invoke/VarHandle") ∧ Cond.instantiable q.1.cls q.2 ∈ tables_1 ∧ Cond.privateMethod q.1 ∈ tables_1 ∧ Cond.instanceMethod q.1 ∈ tables_1
theorem lw_p0 : lw_okq (⟨"RateBreaks", "readInto", "(LRateBreaks$Rates;)I"⟩, 8) := ⟨⟨by decide +kernel, by decide +kernel⟩, List.mem_of_getElem? (i := 17) (by decide +kernel), List.mem_of_getElem? (i := 147) (by decide +kernel), List.mem_of_getElem? (i := 148) (by decide +kernel)⟩
theorem lw_p1 : lw_okq (⟨"RateBreaks$Text", "takeNumber", "()I"⟩, 4) := ⟨⟨by decide +kernel, by decide +kernel⟩, List.mem_of_getElem? (i := 25) (by decide +kernel), List.mem_of_getElem? (i := 163) (by decide +kernel), List.mem_of_getElem? (i := 164) (by decide +kernel)⟩
theorem lw_p2 : lw_okq (⟨"RateBreaks$Rates", "takeKind", "(I[I)Z"⟩, 10) := ⟨⟨by decide +kernel, by decide +kernel⟩, List.mem_of_getElem? (i := 47) (by decide +kernel), List.mem_of_getElem? (i := 175) (by decide +kernel), List.mem_of_getElem? (i := 176) (by decide +kernel)⟩
theorem lw_p3 : lw_okq (⟨"RateBreaks$Rates", "takeStep", "(IIII)Z"⟩, 10) := ⟨⟨by decide +kernel, by decide +kernel⟩, List.mem_of_getElem? (i := 47) (by decide +kernel), List.mem_of_getElem? (i := 179) (by decide +kernel), List.mem_of_getElem? (i := 180) (by decide +kernel)⟩
theorem lw_p4 : lw_okq (⟨"RateBreaks$Rates", "heaviest", "(I)I"⟩, 10) := ⟨⟨by decide +kernel, by decide +kernel⟩, List.mem_of_getElem? (i := 47) (by decide +kernel), List.mem_of_getElem? (i := 188) (by decide +kernel), List.mem_of_getElem? (i := 189) (by decide +kernel)⟩
theorem lw_p5 : lw_okq (⟨"java/lang/Throwable", "fillInStackTrace", "(I)Ljava/lang/Throwable;"⟩, 6) := ⟨⟨by decide +kernel, by decide +kernel⟩, List.mem_of_getElem? (i := 266) (by decide +kernel), List.mem_of_getElem? (i := 264) (by decide +kernel), List.mem_of_getElem? (i := 265) (by decide +kernel)⟩
theorem lw_p6 : lw_okq (⟨"RateBreaks", "present", "(I)LRateBreaks$Shipment;"⟩, 8) := ⟨⟨by decide +kernel, by decide +kernel⟩, List.mem_of_getElem? (i := 17) (by decide +kernel), List.mem_of_getElem? (i := 367) (by decide +kernel), List.mem_of_getElem? (i := 368) (by decide +kernel)⟩
theorem lw_p7 : lw_okq (⟨"RateBreaks", "priceNow", "(LRateBreaks$Shipment;I)I"⟩, 8) := ⟨⟨by decide +kernel, by decide +kernel⟩, List.mem_of_getElem? (i := 17) (by decide +kernel), List.mem_of_getElem? (i := 425) (by decide +kernel), List.mem_of_getElem? (i := 426) (by decide +kernel)⟩
theorem lw_p8 : lw_okq (⟨"RateBreaks$Ratios", "placeFor", "(I)I"⟩, 4) := ⟨⟨by decide +kernel, by decide +kernel⟩, List.mem_of_getElem? (i := 93) (by decide +kernel), List.mem_of_getElem? (i := 479) (by decide +kernel), List.mem_of_getElem? (i := 480) (by decide +kernel)⟩
theorem lw_p9 : lw_okq (⟨"RateBreaksModel", "oneLine", "()Z"⟩, 27) := ⟨⟨by decide +kernel, by decide +kernel⟩, List.mem_of_getElem? (i := 572) (by decide +kernel), List.mem_of_getElem? (i := 676) (by decide +kernel), List.mem_of_getElem? (i := 677) (by decide +kernel)⟩
theorem lw_p10 : lw_okq (⟨"RateBreaksModel", "here", "()I"⟩, 27) := ⟨⟨by decide +kernel, by decide +kernel⟩, List.mem_of_getElem? (i := 572) (by decide +kernel), List.mem_of_getElem? (i := 680) (by decide +kernel), List.mem_of_getElem? (i := 681) (by decide +kernel)⟩
theorem lw_p11 : lw_okq (⟨"RateBreaksModel", "number", "()I"⟩, 27) := ⟨⟨by decide +kernel, by decide +kernel⟩, List.mem_of_getElem? (i := 572) (by decide +kernel), List.mem_of_getElem? (i := 684) (by decide +kernel), List.mem_of_getElem? (i := 685) (by decide +kernel)⟩
theorem lw_p12 : lw_okq (⟨"RateBreaksModel", "heaviest", "(II)I"⟩, 27) := ⟨⟨by decide +kernel, by decide +kernel⟩, List.mem_of_getElem? (i := 572) (by decide +kernel), List.mem_of_getElem? (i := 690) (by decide +kernel), List.mem_of_getElem? (i := 691) (by decide +kernel)⟩
theorem lw_p13 : lw_okq (⟨"RateBreaksModel", "seen", "(II)Z"⟩, 27) := ⟨⟨by decide +kernel, by decide +kernel⟩, List.mem_of_getElem? (i := 572) (by decide +kernel), List.mem_of_getElem? (i := 694) (by decide +kernel), List.mem_of_getElem? (i := 695) (by decide +kernel)⟩
theorem lw_p14 : lw_okq (⟨"RateBreaksModel", "noShipment", "(I)Z"⟩, 27) := ⟨⟨by decide +kernel, by decide +kernel⟩, List.mem_of_getElem? (i := 572) (by decide +kernel), List.mem_of_getElem? (i := 707) (by decide +kernel), List.mem_of_getElem? (i := 708) (by decide +kernel)⟩
theorem lw_p15 : lw_okq (⟨"RateBreaksModel", "toPay", "(II)I"⟩, 27) := ⟨⟨by decide +kernel, by decide +kernel⟩, List.mem_of_getElem? (i := 572) (by decide +kernel), List.mem_of_getElem? (i := 711) (by decide +kernel), List.mem_of_getElem? (i := 712) (by decide +kernel)⟩
def lw_privs_1 : List (MethodName × Nat) := [(⟨"RateBreaks", "readInto", "(LRateBreaks$Rates;)I"⟩, 8), (⟨"RateBreaks$Text", "takeNumber", "()I"⟩, 4), (⟨"RateBreaks$Rates", "takeKind", "(I[I)Z"⟩, 10), (⟨"RateBreaks$Rates", "takeStep", "(IIII)Z"⟩, 10), (⟨"RateBreaks$Rates", "heaviest", "(I)I"⟩, 10), (⟨"java/lang/Throwable", "fillInStackTrace", "(I)Ljava/lang/Throwable;"⟩, 6), (⟨"RateBreaks", "present", "(I)LRateBreaks$Shipment;"⟩, 8), (⟨"RateBreaks", "priceNow", "(LRateBreaks$Shipment;I)I"⟩, 8), (⟨"RateBreaks$Ratios", "placeFor", "(I)I"⟩, 4), (⟨"RateBreaksModel", "oneLine", "()Z"⟩, 27), (⟨"RateBreaksModel", "here", "()I"⟩, 27), (⟨"RateBreaksModel", "number", "()I"⟩, 27), (⟨"RateBreaksModel", "heaviest", "(II)I"⟩, 27), (⟨"RateBreaksModel", "seen", "(II)Z"⟩, 27), (⟨"RateBreaksModel", "noShipment", "(I)Z"⟩, 27), (⟨"RateBreaksModel", "toPay", "(II)I"⟩, 27)]
theorem lw_r1 : ∀ q ∈ lw_privs_1, lw_okq q := List.forall_mem_cons.mpr ⟨lw_p0, List.forall_mem_cons.mpr ⟨lw_p1, List.forall_mem_cons.mpr ⟨lw_p2, List.forall_mem_cons.mpr ⟨lw_p3, List.forall_mem_cons.mpr ⟨lw_p4, List.forall_mem_cons.mpr ⟨lw_p5, List.forall_mem_cons.mpr ⟨lw_p6, List.forall_mem_cons.mpr ⟨lw_p7, List.forall_mem_cons.mpr ⟨lw_p8, List.forall_mem_cons.mpr ⟨lw_p9, List.forall_mem_cons.mpr ⟨lw_p10, List.forall_mem_cons.mpr ⟨lw_p11, List.forall_mem_cons.mpr ⟨lw_p12, List.forall_mem_cons.mpr ⟨lw_p13, List.forall_mem_cons.mpr ⟨lw_p14, List.forall_mem_cons.mpr ⟨lw_p15, fun _ h => absurd h List.not_mem_nil⟩⟩⟩⟩⟩⟩⟩⟩⟩⟩⟩⟩⟩⟩⟩⟩
theorem lw_p16 : lw_okq (⟨"RateBreaksModel", "find", "(II)I"⟩, 27) := ⟨⟨by decide +kernel, by decide +kernel⟩, List.mem_of_getElem? (i := 572) (by decide +kernel), List.mem_of_getElem? (i := 715) (by decide +kernel), List.mem_of_getElem? (i := 716) (by decide +kernel)⟩
theorem lw_p17 : lw_okq (⟨"RateBreaksModel", "priceOf", "(II)I"⟩, 27) := ⟨⟨by decide +kernel, by decide +kernel⟩, List.mem_of_getElem? (i := 572) (by decide +kernel), List.mem_of_getElem? (i := 723) (by decide +kernel), List.mem_of_getElem? (i := 724) (by decide +kernel)⟩
theorem lw_p18 : lw_okq (⟨"RateBreaksModel", "booked", "(I)I"⟩, 27) := ⟨⟨by decide +kernel, by decide +kernel⟩, List.mem_of_getElem? (i := 572) (by decide +kernel), List.mem_of_getElem? (i := 730) (by decide +kernel), List.mem_of_getElem? (i := 731) (by decide +kernel)⟩
def lw_privs_2 : List (MethodName × Nat) := [(⟨"RateBreaksModel", "find", "(II)I"⟩, 27), (⟨"RateBreaksModel", "priceOf", "(II)I"⟩, 27), (⟨"RateBreaksModel", "booked", "(I)I"⟩, 27)]
theorem lw_r2 : ∀ q ∈ lw_privs_2, lw_okq q := List.forall_mem_cons.mpr ⟨lw_p16, List.forall_mem_cons.mpr ⟨lw_p17, List.forall_mem_cons.mpr ⟨lw_p18, fun _ h => absurd h List.not_mem_nil⟩⟩⟩
def lw_privs : List (MethodName × Nat) := lw_privs_1 ++ (lw_privs_2)
def lw_tbl : List Cond := k2_sels lw_privs ++ tables_1
theorem lw_privs_ok : ∀ q ∈ lw_privs, lw_okq q := by
  show ∀ q ∈ lw_privs_1 ++ (lw_privs_2), lw_okq q
  exact List.forall_mem_append.mpr ⟨lw_r1, lw_r2⟩
end
section
def R_RB : String := "RateBreaks"
def F_RB : u_T := fun k => match k with
  | 0 => ("RateBreaks", "text", "LRateBreaks$Text;", true)
  | 1 => ("RateBreaks", "rates", "LRateBreaks$Rates;", false)
  | 2 => ("RateBreaks", "draft", "LRateBreaks$Rates;", false)
  | 3 => ("RateBreaks", "shipments", "[LRateBreaks$Shipment;", true)
  | 4 => ("RateBreaks", "made", "I", false)
  | 5 => ("RateBreaks", "contracts", "[LRateBreaks$Ratios;", true)
  | 6 => ("RateBreaks", "bookedBy", "[I", true)
  | _ => ("RateBreaks", "currencies", "LRateBreaks$Ratios;", true)
def t_RB : Nat → FieldType := fun k => match k with
  | 0 => .object "RateBreaks$Text"
  | 1 => .object "RateBreaks$Rates"
  | 2 => .object "RateBreaks$Rates"
  | 3 => .array (.object "RateBreaks$Shipment")
  | 4 => .int
  | 5 => .array (.object "RateBreaks$Ratios")
  | 6 => .array .int
  | _ => .object "RateBreaks$Ratios"
def R_Tx : String := "RateBreaks$Text"
def F_Tx : u_T := fun k => match k with
  | 0 => ("RateBreaks$Text", "signs", "[I", true)
  | 1 => ("RateBreaks$Text", "numbers", "[I", true)
  | 2 => ("RateBreaks$Text", "length", "I", false)
  | _ => ("RateBreaks$Text", "place", "I", false)
def t_Tx : Nat → FieldType := fun k => match k with
  | 0 => .array .int
  | 1 => .array .int
  | 2 => .int
  | _ => .int
def R_Ra : String := "RateBreaks$Rates"
def F_Ra : u_T := fun k => match k with
  | 0 => ("RateBreaks$Rates", "lanes", "[I", true)
  | 1 => ("RateBreaks$Rates", "above", "[I", true)
  | 2 => ("RateBreaks$Rates", "upTo", "[I", true)
  | 3 => ("RateBreaks$Rates", "cents", "[I", true)
  | 4 => ("RateBreaks$Rates", "divisors", "[I", true)
  | 5 => ("RateBreaks$Rates", "minima", "[I", true)
  | 6 => ("RateBreaks$Rates", "fuelUps", "[I", true)
  | 7 => ("RateBreaks$Rates", "fuelDowns", "[I", true)
  | 8 => ("RateBreaks$Rates", "lines", "I", false)
  | _ => ("RateBreaks$Rates", "steps", "I", false)
def t_Ra : Nat → FieldType := fun k => match k with
  | 0 => .array .int
  | 1 => .array .int
  | 2 => .array .int
  | 3 => .array .int
  | 4 => .array .int
  | 5 => .array .int
  | 6 => .array .int
  | 7 => .array .int
  | 8 => .int
  | _ => .int
def R_Ro : String := "RateBreaks$Ratios"
def F_Ro : u_T := fun k => match k with
  | 0 => ("RateBreaks$Ratios", "froms", "[I", true)
  | 1 => ("RateBreaks$Ratios", "ups", "[I", true)
  | 2 => ("RateBreaks$Ratios", "downs", "[I", true)
  | _ => ("RateBreaks$Ratios", "size", "I", false)
def t_Ro : Nat → FieldType := fun k => match k with
  | 0 => .array .int
  | 1 => .array .int
  | 2 => .array .int
  | _ => .int
def R_Sh : String := "RateBreaks$Shipment"
def F_Sh : u_T := fun k => match k with
  | 0 => ("RateBreaks$Shipment", "zone", "I", true)
  | 1 => ("RateBreaks$Shipment", "grams", "I", false)
  | 2 => ("RateBreaks$Shipment", "volume", "I", false)
  | 3 => ("RateBreaks$Shipment", "service", "I", false)
  | 4 => ("RateBreaks$Shipment", "cents", "I", false)
  | _ => ("RateBreaks$Shipment", "left", "I", false)
def t_Sh : Nat → FieldType := fun k => match k with
  | 0 => .int
  | 1 => .int
  | 2 => .int
  | 3 => .int
  | 4 => .int
  | _ => .int
def R_Mo : String := "RateBreaksModel"
def F_Mo : u_T := fun k => match k with
  | 0 => ("RateBreaksModel", "thrownCode", "I", false)
  | 1 => ("RateBreaksModel", "text", "[I", true)
  | 2 => ("RateBreaksModel", "signs", "I", false)
  | 3 => ("RateBreaksModel", "lines", "I", false)
  | 4 => ("RateBreaksModel", "line", "[I", true)
  | 5 => ("RateBreaksModel", "newLines", "I", false)
  | 6 => ("RateBreaksModel", "newLine", "[I", true)
  | 7 => ("RateBreaksModel", "at", "I", false)
  | 8 => ("RateBreaksModel", "shipments", "I", false)
  | 9 => ("RateBreaksModel", "gone", "[Z", true)
  | 10 => ("RateBreaksModel", "zone", "[I", true)
  | 11 => ("RateBreaksModel", "grams", "[I", true)
  | 12 => ("RateBreaksModel", "volume", "[I", true)
  | 13 => ("RateBreaksModel", "service", "[I", true)
  | 14 => ("RateBreaksModel", "price", "[I", true)
  | 15 => ("RateBreaksModel", "left", "[I", true)
  | 16 => ("RateBreaksModel", "contracts", "[I", true)
  | 17 => ("RateBreaksModel", "from", "[I", true)
  | 18 => ("RateBreaksModel", "up", "[I", true)
  | 19 => ("RateBreaksModel", "down", "[I", true)
  | 20 => ("RateBreaksModel", "days", "I", false)
  | 21 => ("RateBreaksModel", "day", "[I", true)
  | 22 => ("RateBreaksModel", "dayUp", "[I", true)
  | 23 => ("RateBreaksModel", "dayDown", "[I", true)
  | 24 => ("RateBreaksModel", "low", "[I", true)
  | 25 => ("RateBreaksModel", "high", "[I", true)
  | _ => ("RateBreaksModel", "costs", "[I", true)
def t_Mo : Nat → FieldType := fun k => match k with
  | 0 => .int
  | 1 => .array .int
  | 2 => .int
  | 3 => .int
  | 4 => .array .int
  | 5 => .int
  | 6 => .array .int
  | 7 => .int
  | 8 => .int
  | 9 => .array .boolean
  | 10 => .array .int
  | 11 => .array .int
  | 12 => .array .int
  | 13 => .array .int
  | 14 => .array .int
  | 15 => .array .int
  | 16 => .array .int
  | 17 => .array .int
  | 18 => .array .int
  | 19 => .array .int
  | 20 => .int
  | 21 => .array .int
  | 22 => .array .int
  | 23 => .array .int
  | 24 => .array .int
  | 25 => .array .int
  | _ => .array .int
def R_La : String := "RateBreaksLaw"
abbrev gj_cl : List vw_C := [(R_RB, F_RB, 8), (R_Tx, F_Tx, 4), (R_Ra, F_Ra, 10), (R_Ro, F_Ro, 4), (R_Sh, F_Sh, 6), (R_Mo, F_Mo, 27)]
abbrev gj_at : List FieldType := [.int, .long, .boolean, .object "RateBreaks$Shipment", .object "RateBreaks$Ratios"]
theorem n_RB : ∀ a, a < 8 → ∀ b, b < 8 → a ≠ b → (F_RB a).2.1 ≠ (F_RB b).2.1 := by decide +kernel
theorem to_RB : ∀ k, k < 8 → parseFieldDescriptor (F_RB k).2.2.1 = some (t_RB k) := by decide +kernel
theorem li_RB : ∀ w ∈ u_ws R_RB F_RB 8, w ∈ lw_tbl := by decide +kernel
theorem n_Tx : ∀ a, a < 4 → ∀ b, b < 4 → a ≠ b → (F_Tx a).2.1 ≠ (F_Tx b).2.1 := by decide +kernel
theorem to_Tx : ∀ k, k < 4 → parseFieldDescriptor (F_Tx k).2.2.1 = some (t_Tx k) := by decide +kernel
theorem li_Tx : ∀ w ∈ u_ws R_Tx F_Tx 4, w ∈ lw_tbl := by decide +kernel
theorem n_Ra : ∀ a, a < 10 → ∀ b, b < 10 → a ≠ b → (F_Ra a).2.1 ≠ (F_Ra b).2.1 := by decide +kernel
theorem to_Ra : ∀ k, k < 10 → parseFieldDescriptor (F_Ra k).2.2.1 = some (t_Ra k) := by decide +kernel
theorem li_Ra : ∀ w ∈ u_ws R_Ra F_Ra 10, w ∈ lw_tbl := by decide +kernel
theorem n_Ro : ∀ a, a < 4 → ∀ b, b < 4 → a ≠ b → (F_Ro a).2.1 ≠ (F_Ro b).2.1 := by decide +kernel
theorem to_Ro : ∀ k, k < 4 → parseFieldDescriptor (F_Ro k).2.2.1 = some (t_Ro k) := by decide +kernel
theorem li_Ro : ∀ w ∈ u_ws R_Ro F_Ro 4, w ∈ lw_tbl := by decide +kernel
theorem n_Sh : ∀ a, a < 6 → ∀ b, b < 6 → a ≠ b → (F_Sh a).2.1 ≠ (F_Sh b).2.1 := by decide +kernel
theorem to_Sh : ∀ k, k < 6 → parseFieldDescriptor (F_Sh k).2.2.1 = some (t_Sh k) := by decide +kernel
theorem li_Sh : ∀ w ∈ u_ws R_Sh F_Sh 6, w ∈ lw_tbl := by decide +kernel
theorem n_Mo : ∀ a, a < 27 → ∀ b, b < 27 → a ≠ b → (F_Mo a).2.1 ≠ (F_Mo b).2.1 := by decide +kernel
theorem to_Mo : ∀ k, k < 27 → parseFieldDescriptor (F_Mo k).2.2.1 = some (t_Mo k) := by decide +kernel
theorem li_Mo : ∀ w ∈ u_ws R_Mo F_Mo 27, w ∈ lw_tbl := by decide +kernel
end
section
/-! THE MEMORY BY LABELS: a value's reference is a label; ad gives the label's address -/
def gj_tv (ad : Nat → Nat) (v : Value) : Value := match v with
  | .ref x => .ref (ad x)
  | w => w
abbrev gj_X : Type := (Nat → Int32) ⊕ (Nat → Int64) ⊕ (Nat → UInt32) ⊕ (Nat → UInt64) ⊕ (Nat → Option Nat)
def gj_tx (ad : Nat → Nat) (x : gj_X) : gj_X := match x with
  | .inr (.inr (.inr (.inr f))) => .inr (.inr (.inr (.inr (fun j => (f j).map ad))))
  | w => w
def gj_te (dA : Nat → ClassId) (ad : Nat → Nat) (e : va_E) : va_E := match e with
  | .inl a => .inl (dA a.1, a.2.1, gj_tx ad a.2.2)
  | .inr o => .inr (o.1, o.2.map (gj_tv ad))
/-- label 0 is the script's; the labels 1 .. n are the world's -/
def gj_ws (dA : Nat → ClassId) (ad : Nat → Nat) (n : Nat) (C : Nat → va_E) : va_W := (List.range n).map (fun x => (ad (x + 1), gj_te dA ad (C (x + 1))))
theorem gj_ws_get {dA : Nat → ClassId} {ad : Nat → Nat} {n j : Nat} {C : Nat → va_E} (h : j < n) : (gj_ws dA ad n C)[j]? = some (ad (j + 1), gj_te dA ad (C (j + 1))) := by
  simp [gj_ws, h]
theorem gj_ws_out {dA : Nat → ClassId} {ad : Nat → Nat} {n j : Nat} {C : Nat → va_E} (h : ¬ j < n) : (gj_ws dA ad n C)[j]? = none := by
  simp [gj_ws]
  omega
theorem gj_ws_at {dA : Nat → ClassId} {ad : Nat → Nat} {n x : Nat} {C : Nat → va_E} (h0 : x ≠ 0) (h : x ≤ n) : (gj_ws dA ad n C)[x - 1]? = some (ad x, gj_te dA ad (C x)) := by
  obtain ⟨y, rfl⟩ : ∃ y, x = y + 1 := ⟨x - 1, by omega⟩
  exact gj_ws_get (by omega)
theorem gj_ws_set {dA : Nat → ClassId} {ad : Nat → Nat} {n x : Nat} {C : Nat → va_E} (e : va_E) (h0 : x ≠ 0) : (gj_ws dA ad n C).set (x - 1) (ad x, gj_te dA ad e) = gj_ws dA ad n (va_up C x e) := by
  obtain ⟨y, rfl⟩ : ∃ y, x = y + 1 := ⟨x - 1, by omega⟩
  rw [Nat.add_sub_cancel]
  apply List.ext_getElem?
  intro j
  rw [List.getElem?_set]
  by_cases hj : j < n
  · by_cases hx : y = j
    · subst hx
      rw [if_pos rfl, gj_ws_get hj, va_up_self, if_pos (by simp [gj_ws, hj])]
    · rw [if_neg hx, gj_ws_get hj, gj_ws_get hj, va_up_ne C e (by omega)]
  · rw [gj_ws_out hj, gj_ws_out hj]
    by_cases hx : y = j
    · subst hx
      rw [if_pos rfl, if_neg (by simp [gj_ws, hj])]
    · rw [if_neg hx]
/-- the references are labels up to n -/
def gj_ov (n : Nat) (v : Value) : Prop := match v with
  | .ref x => x ≤ n
  | _ => True
def gj_ox (n : Nat) (x : gj_X) : Prop := match x with
  | .inr (.inr (.inr (.inr f))) => ∀ j y, f j = some y → y ≤ n
  | _ => True
def gj_oe (n : Nat) (e : va_E) : Prop := match e with
  | .inl a => gj_ox n a.2.2
  | .inr o => ∀ v ∈ o.2, gj_ov n v
def gj_oC (n : Nat) (C : Nat → va_E) : Prop := ∀ x, x ≤ n → gj_oe n (C x)
def gj_ol (n : Nat) (lc : List (Nat × Value)) (st : List Value) : Prop := (∀ q ∈ lc, gj_ov n q.2) ∧ ∀ v ∈ st, gj_ov n v
def gj_tl (ad : Nat → Nat) (lc : List (Nat × Value)) : List (Nat × Value) := lc.map (fun q => (q.1, gj_tv ad q.2))
theorem gj_cat (ad : Nat → Nat) (v : Value) : (gj_tv ad v).category = v.category := by cases v <;> rfl
theorem gj_cats (ad : Nat → Nat) (st : List Value) : ((st.map (gj_tv ad)).map fun v => v.category) = st.map fun v => v.category := by
  rw [List.map_map]
  exact List.map_congr_left fun v _ => gj_cat ad v
theorem gj_tv_eq {n : Nat} {ad ad' : Nat → Nat} (h : ∀ x, x ≤ n → ad' x = ad x) {v : Value} (hv : gj_ov n v) : gj_tv ad' v = gj_tv ad v := by
  cases v <;> first | rfl | exact congrArg Value.ref (h _ hv)
theorem gj_ts_eq {n : Nat} {ad ad' : Nat → Nat} (h : ∀ x, x ≤ n → ad' x = ad x) {st : List Value} (hv : ∀ v ∈ st, gj_ov n v) : st.map (gj_tv ad') = st.map (gj_tv ad) :=
  List.map_congr_left fun v hm => gj_tv_eq h (hv v hm)
theorem gj_tl_eq {n : Nat} {ad ad' : Nat → Nat} (h : ∀ x, x ≤ n → ad' x = ad x) {lc : List (Nat × Value)} (hv : ∀ q ∈ lc, gj_ov n q.2) : gj_tl ad' lc = gj_tl ad lc :=
  List.map_congr_left fun q hm => by rw [gj_tv_eq h (hv q hm)]
theorem gj_tx_eq {n : Nat} {ad ad' : Nat → Nat} (h : ∀ x, x ≤ n → ad' x = ad x) {x : gj_X} (hx : gj_ox n x) : gj_tx ad' x = gj_tx ad x := by
  rcases x with f | f | f | f | f
  · rfl
  · rfl
  · rfl
  · rfl
  · have e : (fun j => (f j).map ad') = fun j => (f j).map ad := by
      funext j
      cases hf : f j with
      | none => rfl
      | some y => exact congrArg some (h y (hx j y hf))
    show (Sum.inr (Sum.inr (Sum.inr (Sum.inr (fun j => (f j).map ad')))) : gj_X) = _
    rw [e]
    rfl
theorem gj_te_eq {dA : Nat → ClassId} {n : Nat} {ad ad' : Nat → Nat} (h : ∀ x, x ≤ n → ad' x = ad x) {e : va_E} (he : gj_oe n e) : gj_te dA ad' e = gj_te dA ad e := by
  rcases e with a | o
  · show (Sum.inl (dA a.1, a.2.1, gj_tx ad' a.2.2) : va_E) = _
    rw [gj_tx_eq h he]
    rfl
  · show (Sum.inr (o.1, o.2.map (gj_tv ad')) : va_E) = _
    rw [gj_ts_eq h he]
    rfl
theorem gj_ws_eq {dA : Nat → ClassId} {n : Nat} {ad ad' : Nat → Nat} {C : Nat → va_E} (h : ∀ x, x ≤ n → ad' x = ad x) (hC : gj_oC n C) : gj_ws dA ad' n C = gj_ws dA ad n C :=
  List.map_congr_left fun x hx => by
    have hx : x + 1 ≤ n := List.mem_range.mp hx
    rw [h _ hx, gj_te_eq h (hC _ hx)]
theorem gj_ws_push {dA : Nat → ClassId} {n q : Nat} {ad : Nat → Nat} {C : Nat → va_E} {e : va_E} (hC : gj_oC n C) (he : gj_oe n e) : gj_ws dA ad n C ++ [(q, gj_te dA ad e)] = gj_ws dA (va_up ad (n + 1) q) (n + 1) (va_up C (n + 1) e) := by
  have h : ∀ x, x ≤ n → va_up ad (n + 1) q x = ad x := fun x hx => va_up_ne ad q (by omega)
  unfold gj_ws
  rw [List.range_succ, List.map_append]
  congr 1
  · refine List.map_congr_left fun x hx => ?_
    have hx : x + 1 ≤ n := List.mem_range.mp hx
    rw [h _ hx, va_up_ne C e (show x + 1 ≠ n + 1 by omega), gj_te_eq h (hC _ hx)]
  · show [(q, gj_te dA ad e)] = [(va_up ad (n + 1) q (n + 1), gj_te dA (va_up ad (n + 1) q) (va_up C (n + 1) e (n + 1)))]
    rw [va_up_self, va_up_self, gj_te_eq h he]
theorem gj_ov_le {n n' : Nat} (h : n ≤ n') {v : Value} (hv : gj_ov n v) : gj_ov n' v := by
  cases v <;> first | trivial | exact Nat.le_trans hv h
theorem gj_oe_le {n n' : Nat} (h : n ≤ n') {e : va_E} (he : gj_oe n e) : gj_oe n' e := by
  rcases e with ⟨k, m, f | f | f | f | f⟩ | o
  · trivial
  · trivial
  · trivial
  · trivial
  · exact fun j y hy => Nat.le_trans (he j y hy) h
  · exact fun v hv => gj_ov_le h (he v hv)
theorem gj_oC_push {n : Nat} {C : Nat → va_E} {e : va_E} (hC : gj_oC n C) (he : gj_oe (n + 1) e) : gj_oC (n + 1) (va_up C (n + 1) e) := by
  intro x hx
  by_cases h : x = n + 1
  · subst h
    rw [va_up_self]
    exact he
  · rw [va_up_ne C e h]
    exact gj_oe_le (Nat.le_succ n) (hC x (by omega))
theorem gj_oC_up {n x : Nat} {C : Nat → va_E} {e : va_E} (hC : gj_oC n C) (he : gj_oe n e) : gj_oC n (va_up C x e) := by
  intro y hy
  by_cases h : y = x
  · subst h
    rw [va_up_self]
    exact he
  · rw [va_up_ne C e h]
    exact hC y hy
theorem gj_ol_le {n n' : Nat} (h : n ≤ n') {lc : List (Nat × Value)} {st : List Value} (hl : gj_ol n lc st) : gj_ol n' lc st := ⟨fun q hq => gj_ov_le h (hl.1 q hq), fun v hv => gj_ov_le h (hl.2 v hv)⟩
theorem gj_ol_pop {n : Nat} {lc : List (Nat × Value)} {v : Value} {st : List Value} (h : gj_ol n lc (v :: st)) : gj_ol n lc st := ⟨h.1, fun w hw => h.2 w (List.mem_cons_of_mem _ hw)⟩
theorem gj_ol_push {n : Nat} {lc : List (Nat × Value)} {v : Value} {st : List Value} (h : gj_ol n lc st) (hv : gj_ov n v) : gj_ol n lc (v :: st) := ⟨h.1, fun w hw => (List.mem_cons.mp hw).elim (fun e => e ▸ hv) (h.2 w)⟩
theorem gj_ol_loc {n k i : Nat} {lc : List (Nat × Value)} {v : Value} {st : List Value} (h : gj_ol n lc st) (hk : lc[k]? = some (i, v)) : gj_ov n v := h.1 _ (List.mem_of_getElem? hk)
theorem gj_tl_at {ad : Nat → Nat} {lc : List (Nat × Value)} {k i : Nat} {v : Value} (h : lc[k]? = some (i, v)) : (gj_tl ad lc)[k]? = some (i, gj_tv ad v) := by
  simp [gj_tl, h]
def gj_st1 (lc : List (Nat × Value)) (i : Nat) (v : Value) : List (Nat × Value) := (i, v) :: lc.filter (fun q => !(q.1 == i) && !(q.1 + 1 == i && q.2.category == 2))
def gj_st2 (lc : List (Nat × Value)) (i : Nat) (v : Value) : List (Nat × Value) := (i, v) :: lc.filter (fun q => !(q.1 == i) && (!(q.1 == i + 1) && !(q.1 + 1 == i && q.2.category == 2)))
theorem gj_tl_st1 {ad : Nat → Nat} {lc : List (Nat × Value)} {i : Nat} {v : Value} : (i, gj_tv ad v) :: (gj_tl ad lc).filter (fun q => !(q.1 == i) && !(q.1 + 1 == i && q.2.category == 2)) = gj_tl ad (gj_st1 lc i v) := by
  unfold gj_tl gj_st1
  rw [List.map_cons, List.filter_map]
  congr 2
  refine List.filter_congr fun q _ => ?_
  simp [gj_cat]
theorem gj_tl_st2 {ad : Nat → Nat} {lc : List (Nat × Value)} {i : Nat} {v : Value} : (i, gj_tv ad v) :: (gj_tl ad lc).filter (fun q => !(q.1 == i) && (!(q.1 == i + 1) && !(q.1 + 1 == i && q.2.category == 2))) = gj_tl ad (gj_st2 lc i v) := by
  unfold gj_tl gj_st2
  rw [List.map_cons, List.filter_map]
  congr 2
  refine List.filter_congr fun q _ => ?_
  simp [gj_cat]
theorem gj_ol_st1 {n i : Nat} {lc : List (Nat × Value)} {v : Value} {st : List Value} (h : gj_ol n lc (v :: st)) : gj_ol n (gj_st1 lc i v) st :=
  ⟨fun q hq => (List.mem_cons.mp hq).elim (fun e => by rw [e]; exact h.2 v List.mem_cons_self) (fun hm => h.1 q (List.mem_filter.mp hm).1), (gj_ol_pop h).2⟩
theorem gj_ol_st2 {n i : Nat} {lc : List (Nat × Value)} {v : Value} {st : List Value} (h : gj_ol n lc (v :: st)) : gj_ol n (gj_st2 lc i v) st :=
  ⟨fun q hq => (List.mem_cons.mp hq).elim (fun e => by rw [e]; exact h.2 v List.mem_cons_self) (fun hm => h.1 q (List.mem_filter.mp hm).1), (gj_ol_pop h).2⟩
theorem gj_args {ad : Nat → Nat} : ∀ (as : List Value) (i : Nat), lv_args i (as.map (gj_tv ad)) = gj_tl ad (lv_args i as)
  | [], _ => rfl
  | v :: as, i => by
    show (i, gj_tv ad v) :: lv_args (if (gj_tv ad v).category = 2 then i + 2 else i + 1) (as.map (gj_tv ad)) = (i, gj_tv ad v) :: gj_tl ad (lv_args (if v.category = 2 then i + 2 else i + 1) as)
    rw [gj_cat, gj_args as]
theorem gj_args_ov {n : Nat} : ∀ (as : List Value) (i : Nat), (∀ v ∈ as, gj_ov n v) → ∀ q ∈ lv_args i as, gj_ov n q.2
  | [], _, _, q, hq => by cases hq
  | v :: as, i, h, q, hq => by
    have hq : q ∈ (i, v) :: lv_args (if v.category = 2 then i + 2 else i + 1) as := hq
    rcases List.mem_cons.mp hq with e | hm
    · rw [e]
      exact h v List.mem_cons_self
    · exact gj_args_ov as _ (fun w hw => h w (List.mem_cons_of_mem _ hw)) q hm
end
section
/-! THE JUDGEMENT: method md stands at pc with locals lc, stack st, memory (n, C); it comes to an end with Q -/
/-- name, bytes, locals, what it returns, its handlers -/
abbrev gj_M : Type := MethodName × ByteArray × Nat × Option FieldType × List (Nat × Nat × Nat × Nat)
/-- the end: a value, or an exception's class; the memory -/
abbrev gj_R : Type := (Option Value ⊕ String) × Nat × (Nat → va_E)
def gj_tys (dA : Nat → ClassId) : List (ClassId × FieldType) := (List.range gj_at.length).map (fun i => (dA i, gj_at.getD i .int))
theorem gj_tys_at {dA : Nat → ClassId} {k : Nat} {ty : FieldType} (h : gj_at[k]? = some ty) : (gj_tys dA)[k]? = some (dA k, ty) := by
  have hk : k < gj_at.length := (List.getElem?_eq_some_iff.mp h).1
  unfold gj_tys
  rw [List.getElem?_map, List.getElem?_range hk]
  show some (dA k, gj_at.getD k .int) = _
  rw [List.getD_eq_getElem?_getD, h]
  rfl
/-- what the Statement gives of the start, part by part -/
def gj_nar : List Cond := flatC (Jvm.Cond.and given_1 narrow_1)
def gj_Cx (md : gj_M) (p : Program) (l : Launch) (s : State) (m : MethodId) (meth : Method) (c : Code) (s0 : State) (a0 : Array Value) : Prop :=
  p.tables.exec = Jvm.exec ∧ c.code = md.2.1 ∧ l.stackTraces = false ∧ ((∀ w ∈ lw_tbl, w.before a0 s0 = true) ∧ (Jvm.Cond.and given_1 narrow_1).before a0 s0 = true) ∧ s0.WarmedH s.vm ∧ (s0.heap.size ≤ s.heap.size ∧ ∀ q : Nat, q < s0.heap.size → s.heap[q]? = s0.heap[q]?) ∧
  meth.sig.returnType = md.2.2.2.1 ∧ c.maxLocals = md.2.2.1 ∧ s.vm.findClass md.1.cls = some m.cls ∧ meth.locks = false ∧ meth.name = md.1.name ∧ c.exceptionTable.toList = tableOf md.2.2.2.2
def gj_ro (d K N : Nat) (R : Room) : Prop := d + 8 ≤ R.frames ∧ 60 * d + 200 ≤ R.locals ∧ K ≤ R.cells ∧ N ≤ R.slots
/-- what the machine's outcome is to the pure one -/
def gj_out (rv : Option Value ⊕ String) (ad : Nat → Nat) (s : State) (o : Outcome) (t : State) : Prop := match rv with
  | .inl v => o = .returned (v.map (gj_tv ad))
  | .inr E => ∃ (q : Addr) (ce : Cell), o = .threw q ∧ t.heap[q]? = some ce ∧ ce.vm = .none ∧ s.vm.findClass E = some ce.cls
def gj_or (n : Nat) (rv : Option Value ⊕ String) : Prop := match rv with
  | .inl (some v) => gj_ov n v
  | _ => True
def gj_E (below : List Frame) (s s0 : State) (dC : Nat → ClassId) (dI : Nat → Nat → Nat) (dA : Nat → ClassId) (ad : Nat → Nat) (C0 : va_E) (n K N : Nat) (Q : gj_R → Prop) : State → Prop := fun t =>
  ∃ (o : Outcome) (L : List Loc) (rv : Option Value ⊕ String) (n' : Nat) (C' : Nat → va_E) (ad' : Nat → Nat), t.status = .running ∧ Ended t below o ∧ s.WarmedH t.vm ∧ s.sameButNew ({ t with vm := s.vm } : State) L K N ∧ (∀ z ∈ L, s0.heap.size ≤ z.base) ∧
    (s0.heap.size ≤ t.heap.size ∧ ∀ q : Nat, q < s0.heap.size → t.heap[q]? = s0.heap[q]?) ∧ Q (rv, n', C') ∧ gj_out rv ad' s o t ∧ gj_or n' rv ∧ n ≤ n' ∧ (∀ x, x ≤ n → ad' x = ad x) ∧ C' 0 = C0 ∧
    va_P (dC, dI) gj_cl (gj_ws dA ad' n' C') t.heap ∧ va_D (fun q : Nat => s0.heap.size ≤ q) (gj_ws dA ad' n' C') ∧ gj_oC n' C'
/-- the script: label 0 -/
def gj_sc (s0 : State) (ad : Nat → Nat) (e : va_E) : Prop := ∃ (L : Nat) (xs : Nat → Int32), e = .inl (999, L, .inl xs) ∧ va_X (ad 0) L xs s0 s0.heap ∧ ad 0 < s0.heap.size
def gj_G (md : gj_M) (d K N k w pc : Nat) (lc : List (Nat × Value)) (st : List Value) (n : Nat) (C : Nat → va_E) (Q : gj_R → Prop) : Prop :=
  ∀ (p : Program) (l : Launch) (e : Env) (R : Room) (s : State) (m : MethodId) (args : Array Value) (below : List Frame) (meth : Method) (c : Code) (s0 : State) (a0 : Array Value) (dC : Nat → ClassId) (dI : Nat → Nat → Nat) (dA : Nat → ClassId) (H : Heap) (locs : List Loc) (ad : Nat → Nat) (ls : Array Slot),
    gj_Cx md p l s m meth c s0 a0 → gj_ro d K N R → va_K (dC, dI) gj_cl (gj_tys dA) s0 →
    va_P (dC, dI) gj_cl (gj_ws dA ad n C) H → va_D (fun q : Nat => s0.heap.size ≤ q) (gj_ws dA ad n C) → va_S (fun q : Nat => s0.heap.size ≤ q) s.heap H locs → gj_oC n C → gj_sc s0 ad (C 0) → gj_ol n lc st → lv_has ls md.2.2.1 (gj_tl ad lc) →
    W p l e R s m args below meth c H locs k w (gj_E below s s0 dC dI dA ad (C 0) n K N Q) (F0 m pc ls (st.map (gj_tv ad)))
theorem gj_Wm {p : Program} {l : Launch} {e : Env} {R : Room} {s : State} {m : MethodId} {args : Array Value} {below : List Frame} {meth : Method} {c : Code} {H : Heap} {locs : List Loc} {k w : Nat} {Q Q' : State → Prop} {g : JFrame} (h : W p l e R s m args below meth c H locs k w Q g) (hq : ∀ t, Q t → Q' t) : W p l e R s m args below meth c H locs k w Q' g := fun T hT X => by
  obtain ⟨t, a, b⟩ := h T hT X
  exact ⟨t, a, hq t b⟩
/-- a later memory's end is an earlier one's -/
theorem gj_E_mono {below : List Frame} {s s0 : State} {dC : Nat → ClassId} {dI : Nat → Nat → Nat} {dA : Nat → ClassId} {ad ad1 : Nat → Nat} {C0 C1 : va_E} {n n1 K N : Nat} {Q : gj_R → Prop} (hn : n ≤ n1) (ha : ∀ x, x ≤ n → ad1 x = ad x) (h0 : C1 = C0) (t : State) (h : gj_E below s s0 dC dI dA ad1 C1 n1 K N Q t) : gj_E below s s0 dC dI dA ad C0 n K N Q t := by
  subst h0
  obtain ⟨o, L, rv, n', C', ad', h1, h2, h3, h4, h5, h6, h7, h8, h9, h10, h11, h12⟩ := h
  exact ⟨o, L, rv, n', C', ad', h1, h2, h3, h4, h5, h6, h7, h8, h9, Nat.le_trans hn h10, fun x hx => (h11 x (Nat.le_trans hx hn)).trans (ha x hx), h12⟩
theorem gj_conseq {md : gj_M} {d K N k w pc : Nat} {lc : List (Nat × Value)} {st : List Value} {n : Nat} {C : Nat → va_E} {Q Q' : gj_R → Prop} (h : gj_G md d K N k w pc lc st n C Q) (hq : ∀ r, Q r → Q' r) : gj_G md d K N k w pc lc st n C Q' := by
  intro p l e R s m args below meth c s0 a0 dC dI dA H locs ad ls cx ro hK hP hD hS oC sc ol hl
  refine gj_Wm (h p l e R s m args below meth c s0 a0 dC dI dA H locs ad ls cx ro hK hP hD hS oC sc ol hl) ?_
  intro t ⟨o, L, rv, n', C', ad', h1, h2, h3, h4, h5, h6, h7, h8, h9⟩
  exact ⟨o, L, rv, n', C', ad', h1, h2, h3, h4, h5, h6, hq _ h7, h8, h9⟩
theorem gj_widen {md : gj_M} {d K N k w k' w' pc : Nat} {lc : List (Nat × Value)} {st : List Value} {n : Nat} {C : Nat → va_E} {Q : gj_R → Prop} (h1 : k ≤ k') (h2 : w ≤ w') (h : gj_G md d K N k' w' pc lc st n C Q) : gj_G md d K N k w pc lc st n C Q := by
  intro p l e R s m args below meth c s0 a0 dC dI dA H locs ad ls cx ro hK hP hD hS oC sc ol hl
  exact W.widen h1 h2 (h p l e R s m args below meth c s0 a0 dC dI dA H locs ad ls cx ro hK hP hD hS oC sc ol hl)
/-- more depth and room than is needed -/
theorem gj_deeper {md : gj_M} {d d' K N k w pc : Nat} {lc : List (Nat × Value)} {st : List Value} {n : Nat} {C : Nat → va_E} {Q : gj_R → Prop} (hd : d ≤ d') (h : gj_G md d K N k w pc lc st n C Q) : gj_G md d' K N k w pc lc st n C Q := by
  intro p l e R s m args below meth c s0 a0 dC dI dA H locs ad ls cx ro hK hP hD hS oC sc ol hl
  exact h p l e R s m args below meth c s0 a0 dC dI dA H locs ad ls cx ⟨by have := ro.1; omega, by have := ro.2.1; omega, ro.2.2⟩ hK hP hD hS oC sc ol hl
/-- a word of the tables, here -/
theorem gj_word {md : gj_M} {p : Program} {l : Launch} {s : State} {m : MethodId} {meth : Method} {c : Code} {s0 : State} {a0 args : Array Value} (cx : gj_Cx md p l s m meth c s0 a0) {w : Cond} (hw : w ∈ lw_tbl) (hg : goodWord w = true) : w.before args s = true :=
  word_at cx.2.2.2.2.1 (good_of_word hg) (cx.2.2.2.1.1 w hw)
/-- a method ends with v on its stack: what W's own rows want -/
theorem gj_fin {below : List Frame} {args : Array Value} {s s0 : State} {dC : Nat → ClassId} {dI : Nat → Nat → Nat} {dA : Nat → ClassId} {ad : Nat → Nat} {n K N k w : Nat} {C : Nat → va_E} {H : Heap} {Q : gj_R → Prop} {v : Option Value}
    (h0 : s0.heap.size ≤ s.heap.size ∧ ∀ q : Nat, q < s0.heap.size → s.heap[q]? = s0.heap[q]?) {locs : List Loc} (hS : va_S (fun q : Nat => s0.heap.size ≤ q) s.heap H locs)
    (hP : va_P (dC, dI) gj_cl (gj_ws dA ad n C) H) (hD : va_D (fun q : Nat => s0.heap.size ≤ q) (gj_ws dA ad n C)) (oC : gj_oC n C) (hv : gj_or n (.inl v)) (hk : k ≤ K) (hw : w ≤ N) (hQ : Q (.inl v, n, C)) (t : State)
    (h : MQ below (fun _ _ o t => o = .returned (v.map (gj_tv ad)) ∧ t.heap = H) args s k w (fun q : Nat => s0.heap.size ≤ q) t) : gj_E below s s0 dC dI dA ad (C 0) n K N Q t := by
  obtain ⟨o, h1, h2, ⟨h3, h4⟩, L, ⟨-, h5, h6⟩, h7⟩ := h
  refine ⟨o, L, .inl v, n, C, ad, h1, h2, h5, h6.mono hk hw, h7, ?_, hQ, h3, hv, Nat.le_refl n, fun _ _ => rfl, rfl, ?_, hD, oC⟩
  · rw [h4]
    exact ⟨Nat.le_trans h0.1 hS.1, fun q hq => by rw [hS.2.1 q (Nat.lt_of_lt_of_le hq h0.1) (Nat.not_le.mpr hq)]; exact h0.2 q hq⟩
  · rw [h4]; exact hP
section
variable {md : gj_M} {d K N k w pc : Nat} {lc : List (Nat × Value)} {st : List Value} {n : Nat} {C : Nat → va_E} {Q : gj_R → Prop}
theorem gj_iret {v : Int32} (hr : md.2.2.2.1 = some .int) (hk : k ≤ K) (hw : w ≤ N) (hd : decode md.2.1 pc = .ok (.ireturn, 1)) (hQ : Q (.inl (some (.int v)), n, C)) : gj_G md d K N k w pc lc [.int v] n C Q := by
  intro p l e R s m args below meth c s0 a0 dC dI dA H locs ad ls cx ro hK hP hD hS oC sc ol hl
  obtain ⟨hx, hb, -, -, -, h0, hret, -, -, hlocks, -⟩ := cx
  exact gj_Wm (W.iret (v := v) hx hb (hret.trans hr) (fun t ht _ => ⟨rfl, ht⟩) hS.2.2 hd hlocks) (gj_fin (v := some (.int v)) h0 hS hP hD oC trivial hk hw hQ)
theorem gj_zret {v : Int32} (hr : md.2.2.2.1 = some .boolean) (hz : v = 0 ∨ v = 1) (hk : k ≤ K) (hw : w ≤ N) (hd : decode md.2.1 pc = .ok (.ireturn, 1)) (hQ : Q (.inl (some (.int v)), n, C)) : gj_G md d K N k w pc lc [.int v] n C Q := by
  intro p l e R s m args below meth c s0 a0 dC dI dA H locs ad ls cx ro hK hP hD hS oC sc ol hl
  obtain ⟨hx, hb, -, -, -, h0, hret, -, -, hlocks, -⟩ := cx
  have hn : narrow .boolean (.int v) = .int v := by rcases hz with rfl | rfl <;> decide
  exact gj_Wm (W.zret (v := v) hx hb (hret.trans hr) hn (fun t ht _ => ⟨rfl, ht⟩) hS.2.2 hd hlocks) (gj_fin (v := some (.int v)) h0 hS hP hD oC trivial hk hw hQ)
theorem gj_lret {v : Int64} (hr : md.2.2.2.1 = some .long) (hk : k ≤ K) (hw : w ≤ N) (hd : decode md.2.1 pc = .ok (.lreturn, 1)) (hQ : Q (.inl (some (.long v)), n, C)) : gj_G md d K N k w pc lc [.long v] n C Q := by
  intro p l e R s m args below meth c s0 a0 dC dI dA H locs ad ls cx ro hK hP hD hS oC sc ol hl
  obtain ⟨hx, hb, -, -, -, h0, hret, -, -, hlocks, -⟩ := cx
  exact gj_Wm (W.lret (v := v) hx hb (hret.trans hr) (fun t ht _ => ⟨rfl, ht⟩) hS.2.2 hd hlocks) (gj_fin (v := some (.long v)) h0 hS hP hD oC trivial hk hw hQ)
theorem gj_vret (hr : md.2.2.2.1 = none) (hk : k ≤ K) (hw : w ≤ N) (hd : decode md.2.1 pc = .ok (.return_, 1)) (hQ : Q (.inl none, n, C)) : gj_G md d K N k w pc lc [] n C Q := by
  intro p l e R s m args below meth c s0 a0 dC dI dA H locs ad ls cx ro hK hP hD hS oC sc ol hl
  obtain ⟨hx, hb, -, -, -, h0, hret, -, -, hlocks, -⟩ := cx
  exact gj_Wm (W.vret hx hb (hret.trans hr) (fun t ht _ => ⟨rfl, ht⟩) hS.2.2 hd hlocks) (gj_fin (v := none) h0 hS hP hD oC trivial hk hw hQ)
theorem gj_aret {C0 : String} {v : Value} (hr : md.2.2.2.1 = some (.object C0)) (hv : v = .null ∨ ∃ x, v = .ref x) (hk : k ≤ K) (hw : w ≤ N) (hd : decode md.2.1 pc = .ok (.areturn, 1)) (hQ : Q (.inl (some v), n, C)) : gj_G md d K N k w pc lc [v] n C Q := by
  intro p l e R s m args below meth c s0 a0 dC dI dA H locs ad ls cx ro hK hP hD hS oC sc ol hl
  obtain ⟨hx, hb, -, -, -, h0, hret, -, -, hlocks, -⟩ := cx
  exact gj_Wm (W.aret (v := gj_tv ad v) hx hb (hret.trans hr) (Or.inl ⟨_, rfl⟩) (hv.elim (fun h => Or.inl (by rw [h]; rfl)) (fun ⟨x, h⟩ => Or.inr ⟨ad x, by rw [h]; rfl⟩)) (fun t ht _ => ⟨rfl, ht⟩) hS.2.2 hd hlocks) (gj_fin (v := some v) h0 hS hP hD oC (ol.2 v List.mem_cons_self) hk hw hQ)
end
end
section
/-! ONE STEP of the instructions that touch neither memory nor other methods -/
def gj_lk : List (Nat × Value) → Nat → Option Value
  | [], _ => none
  | q :: r, i => if q.1 = i then some q.2 else gj_lk r i
theorem gj_lk_in : ∀ {lc : List (Nat × Value)} {i : Nat} {v : Value}, gj_lk lc i = some v → (i, v) ∈ lc
  | [], _, _, h => by cases h
  | q :: r, i, v, h => by
    unfold gj_lk at h
    split at h
    · rename_i hq
      cases h
      rw [← hq]
      exact List.mem_cons_self
    · exact List.mem_cons_of_mem _ (gj_lk_in h)
theorem gj_lv {ls : Array Slot} {nL : Nat} {ad : Nat → Nat} {lc : List (Nat × Value)} {i : Nat} {v : Value} (hl : lv_has ls nL (gj_tl ad lc)) (h : gj_lk lc i = some v) : ls[i]? = some (.val (gj_tv ad v)) :=
  hl.2.2 (i, gj_tv ad v) (List.mem_map.mpr ⟨(i, v), gj_lk_in h, rfl⟩)
theorem gj_lp {ad : Nat → Nat} {lc : List (Nat × Value)} {i : Nat} {v : Value} (h : gj_lk lc i = some v) : ∃ j : Nat, (gj_tl ad lc)[j]? = some (i, gj_tv ad v) := by
  obtain ⟨j, hj⟩ := List.getElem?_of_mem (gj_lk_in h)
  exact ⟨j, gj_tl_at hj⟩
/-- fewer locals, as a list of one's own -/
def gj_all : List (Nat × Value) → List (Nat × Value) → Prop
  | [], _ => True
  | q :: r, lc => gj_lk lc q.1 = some q.2 ∧ gj_all r lc
theorem gj_all_in : ∀ {l lc : List (Nat × Value)}, gj_all l lc → ∀ q ∈ l, q ∈ lc
  | [], _, _, q, hq => by cases hq
  | a :: r, lc, h, q, hq => (List.mem_cons.mp hq).elim (fun e => by rw [e]; exact gj_lk_in h.1) (fun hm => gj_all_in h.2 q hm)
section
variable {md : gj_M} {d K N k w pc : Nat} {lc : List (Nat × Value)} {st : List Value} {n : Nat} {C : Nat → va_E} {Q : gj_R → Prop}
theorem gj_less {lc' : List (Nat × Value)} (h : gj_all lc' lc) (kk : gj_G md d K N k w pc lc' st n C Q) : gj_G md d K N k w pc lc st n C Q := by
  intro p l e R s m args below meth c s0 a0 dC dI dA H locs ad ls cx ro hK hP hD hS oC sc ol hl
  refine kk p l e R s m args below meth c s0 a0 dC dI dA H locs ad ls cx ro hK hP hD hS oC sc ⟨fun q hq => ol.1 q (gj_all_in h q hq), ol.2⟩ ⟨hl.1, hl.2.1, fun q hq => hl.2.2 q ?_⟩
  obtain ⟨z, hz, e⟩ := List.mem_map.mp hq
  exact List.mem_map.mpr ⟨z, gj_all_in h z hz, e⟩
theorem gj_iconst {z : Int} (hd : decode md.2.1 pc = .ok (.iconst z, 1)) (kk : gj_G md d K N k w (pc + 1) lc (.int (Int32.ofInt z) :: st) n C Q) : gj_G md d K N k w pc lc (st) n C Q := by
  intro p l e R s m args below meth c s0 a0 dC dI dA H locs ad ls cx ro hK hP hD hS oC sc ol hl
  exact lv_iconst cx.1 cx.2.1 hd rfl (kk p l e R s m args below meth c s0 a0 dC dI dA H locs ad ls cx ro hK hP hD hS oC sc (gj_ol_push ol trivial) hl)
theorem gj_bipush {z : Int} (hd : decode md.2.1 pc = .ok (.bipush z, 2)) (kk : gj_G md d K N k w (pc + 2) lc (.int ((Int8.ofInt z).toInt32) :: st) n C Q) : gj_G md d K N k w pc lc (st) n C Q := by
  intro p l e R s m args below meth c s0 a0 dC dI dA H locs ad ls cx ro hK hP hD hS oC sc ol hl
  exact lv_bipush cx.1 cx.2.1 hd rfl (kk p l e R s m args below meth c s0 a0 dC dI dA H locs ad ls cx ro hK hP hD hS oC sc (gj_ol_push ol trivial) hl)
theorem gj_sipush {z : Int} (hd : decode md.2.1 pc = .ok (.sipush z, 3)) (kk : gj_G md d K N k w (pc + 3) lc (.int ((Int16.ofInt z).toInt32) :: st) n C Q) : gj_G md d K N k w pc lc (st) n C Q := by
  intro p l e R s m args below meth c s0 a0 dC dI dA H locs ad ls cx ro hK hP hD hS oC sc ol hl
  exact lv_sipush cx.1 cx.2.1 hd rfl (kk p l e R s m args below meth c s0 a0 dC dI dA H locs ad ls cx ro hK hP hD hS oC sc (gj_ol_push ol trivial) hl)
theorem gj_lconst {z : Fin 2} (hd : decode md.2.1 pc = .ok (.lconst z, 1)) (kk : gj_G md d K N k w (pc + 1) lc (.long (Int64.ofNat z) :: st) n C Q) : gj_G md d K N k w pc lc (st) n C Q := by
  intro p l e R s m args below meth c s0 a0 dC dI dA H locs ad ls cx ro hK hP hD hS oC sc ol hl
  exact lv_lconst cx.1 cx.2.1 hd rfl (kk p l e R s m args below meth c s0 a0 dC dI dA H locs ad ls cx ro hK hP hD hS oC sc (gj_ol_push ol trivial) hl)
theorem gj_null (hd : decode md.2.1 pc = .ok (Instr.aconst_null, 1)) (kk : gj_G md d K N k w (pc + 1) lc (.null :: st) n C Q) : gj_G md d K N k w pc lc (st) n C Q := by
  intro p l e R s m args below meth c s0 a0 dC dI dA H locs ad ls cx ro hK hP hD hS oC sc ol hl
  exact lv_null cx.1 cx.2.1 hd (kk p l e R s m args below meth c s0 a0 dC dI dA H locs ad ls cx ro hK hP hD hS oC sc (gj_ol_push ol trivial) hl)
theorem gj_iload {i : Nat} {x : Int32} (hd : decode md.2.1 pc = .ok (.iload i, 2)) (hk : gj_lk lc i = some (.int x)) (kk : gj_G md d K N k w (pc + 2) lc (.int x :: st) n C Q) : gj_G md d K N k w pc lc (st) n C Q := by
  intro p l e R s m args below meth c s0 a0 dC dI dA H locs ad ls cx ro hK hP hD hS oC sc ol hl
  exact lv_iload cx.1 cx.2.1 hd (gj_lv hl hk) (kk p l e R s m args below meth c s0 a0 dC dI dA H locs ad ls cx ro hK hP hD hS oC sc (gj_ol_push ol trivial) hl)
theorem gj_iload_n {i : Fin 4} {x : Int32} (hd : decode md.2.1 pc = .ok (.iload_n i, 1)) (hk : gj_lk lc i = some (.int x)) (kk : gj_G md d K N k w (pc + 1) lc (.int x :: st) n C Q) : gj_G md d K N k w pc lc (st) n C Q := by
  intro p l e R s m args below meth c s0 a0 dC dI dA H locs ad ls cx ro hK hP hD hS oC sc ol hl
  exact lv_iload_n cx.1 cx.2.1 hd rfl (gj_lv hl hk) (kk p l e R s m args below meth c s0 a0 dC dI dA H locs ad ls cx ro hK hP hD hS oC sc (gj_ol_push ol trivial) hl)
theorem gj_lload {i : Nat} {x : Int64} (hd : decode md.2.1 pc = .ok (.lload i, 2)) (hk : gj_lk lc i = some (.long x)) (kk : gj_G md d K N k w (pc + 2) lc (.long x :: st) n C Q) : gj_G md d K N k w pc lc (st) n C Q := by
  intro p l e R s m args below meth c s0 a0 dC dI dA H locs ad ls cx ro hK hP hD hS oC sc ol hl
  exact lv_lload cx.1 cx.2.1 hd (gj_lv hl hk) (kk p l e R s m args below meth c s0 a0 dC dI dA H locs ad ls cx ro hK hP hD hS oC sc (gj_ol_push ol trivial) hl)
theorem gj_lload_n {i : Fin 4} {x : Int64} (hd : decode md.2.1 pc = .ok (.lload_n i, 1)) (hk : gj_lk lc i = some (.long x)) (kk : gj_G md d K N k w (pc + 1) lc (.long x :: st) n C Q) : gj_G md d K N k w pc lc (st) n C Q := by
  intro p l e R s m args below meth c s0 a0 dC dI dA H locs ad ls cx ro hK hP hD hS oC sc ol hl
  exact lv_lload_n cx.1 cx.2.1 hd rfl (gj_lv hl hk) (kk p l e R s m args below meth c s0 a0 dC dI dA H locs ad ls cx ro hK hP hD hS oC sc (gj_ol_push ol trivial) hl)
theorem gj_aload {i : Nat} {x : Nat} (hd : decode md.2.1 pc = .ok (.aload i, 2)) (hk : gj_lk lc i = some (.ref x)) (kk : gj_G md d K N k w (pc + 2) lc (.ref x :: st) n C Q) : gj_G md d K N k w pc lc (st) n C Q := by
  intro p l e R s m args below meth c s0 a0 dC dI dA H locs ad ls cx ro hK hP hD hS oC sc ol hl
  exact lv_aload cx.1 cx.2.1 hd (gj_lv hl hk) (kk p l e R s m args below meth c s0 a0 dC dI dA H locs ad ls cx ro hK hP hD hS oC sc (gj_ol_push ol (ol.1 _ (gj_lk_in hk))) hl)
theorem gj_aloadN {i : Nat} (hd : decode md.2.1 pc = .ok (.aload i, 2)) (hk : gj_lk lc i = some .null) (kk : gj_G md d K N k w (pc + 2) lc (.null :: st) n C Q) : gj_G md d K N k w pc lc (st) n C Q := by
  intro p l e R s m args below meth c s0 a0 dC dI dA H locs ad ls cx ro hK hP hD hS oC sc ol hl
  exact lv_aloadN cx.1 cx.2.1 hd (gj_lv hl hk) (kk p l e R s m args below meth c s0 a0 dC dI dA H locs ad ls cx ro hK hP hD hS oC sc (gj_ol_push ol trivial) hl)
theorem gj_aload_n {i : Fin 4} {x : Nat} (hd : decode md.2.1 pc = .ok (.aload_n i, 1)) (hk : gj_lk lc i = some (.ref x)) (kk : gj_G md d K N k w (pc + 1) lc (.ref x :: st) n C Q) : gj_G md d K N k w pc lc (st) n C Q := by
  intro p l e R s m args below meth c s0 a0 dC dI dA H locs ad ls cx ro hK hP hD hS oC sc ol hl
  exact lv_aload_n cx.1 cx.2.1 hd rfl (gj_lv hl hk) (kk p l e R s m args below meth c s0 a0 dC dI dA H locs ad ls cx ro hK hP hD hS oC sc (gj_ol_push ol (ol.1 _ (gj_lk_in hk))) hl)
theorem gj_aload_nN {i : Fin 4} (hd : decode md.2.1 pc = .ok (.aload_n i, 1)) (hk : gj_lk lc i = some .null) (kk : gj_G md d K N k w (pc + 1) lc (.null :: st) n C Q) : gj_G md d K N k w pc lc (st) n C Q := by
  intro p l e R s m args below meth c s0 a0 dC dI dA H locs ad ls cx ro hK hP hD hS oC sc ol hl
  exact lv_aload_nN cx.1 cx.2.1 hd rfl (gj_lv hl hk) (kk p l e R s m args below meth c s0 a0 dC dI dA H locs ad ls cx ro hK hP hD hS oC sc (gj_ol_push ol trivial) hl)
theorem gj_istore {i : Nat} {x : Int32} (hd : decode md.2.1 pc = .ok (.istore i, 2)) (hn : i < md.2.2.1) (kk : gj_G md d K N k w (pc + 2) (gj_st1 lc i (.int x)) st n C Q) : gj_G md d K N k w pc lc (.int x :: st) n C Q := by
  intro p l e R s m args below meth c s0 a0 dC dI dA H locs ad ls cx ro hK hP hD hS oC sc ol hl
  exact lv_istore cx.1 cx.2.1 hd hl hn (gj_tl_st1 (v := .int x)) (fun ls hl => kk p l e R s m args below meth c s0 a0 dC dI dA H locs ad ls cx ro hK hP hD hS oC sc (gj_ol_st1 ol) hl)
theorem gj_lstore {i : Nat} {x : Int64} (hd : decode md.2.1 pc = .ok (.lstore i, 2)) (hn : i + 1 < md.2.2.1) (kk : gj_G md d K N k w (pc + 2) (gj_st2 lc i (.long x)) st n C Q) : gj_G md d K N k w pc lc (.long x :: st) n C Q := by
  intro p l e R s m args below meth c s0 a0 dC dI dA H locs ad ls cx ro hK hP hD hS oC sc ol hl
  exact lv_lstore cx.1 cx.2.1 hd hl hn (gj_tl_st2 (v := .long x)) (fun ls hl => kk p l e R s m args below meth c s0 a0 dC dI dA H locs ad ls cx ro hK hP hD hS oC sc (gj_ol_st2 ol) hl)
theorem gj_astore {i : Nat} {x : Nat} (hd : decode md.2.1 pc = .ok (.astore i, 2)) (hn : i < md.2.2.1) (kk : gj_G md d K N k w (pc + 2) (gj_st1 lc i (.ref x)) st n C Q) : gj_G md d K N k w pc lc (.ref x :: st) n C Q := by
  intro p l e R s m args below meth c s0 a0 dC dI dA H locs ad ls cx ro hK hP hD hS oC sc ol hl
  exact lv_astore cx.1 cx.2.1 hd hl hn (gj_tl_st1 (v := .ref x)) (fun ls hl => kk p l e R s m args below meth c s0 a0 dC dI dA H locs ad ls cx ro hK hP hD hS oC sc (gj_ol_st1 ol) hl)
theorem gj_astoreN {i : Nat} (hd : decode md.2.1 pc = .ok (.astore i, 2)) (hn : i < md.2.2.1) (kk : gj_G md d K N k w (pc + 2) (gj_st1 lc i (.null)) st n C Q) : gj_G md d K N k w pc lc (.null :: st) n C Q := by
  intro p l e R s m args below meth c s0 a0 dC dI dA H locs ad ls cx ro hK hP hD hS oC sc ol hl
  exact lv_astoreN cx.1 cx.2.1 hd hl hn (gj_tl_st1 (v := .null)) (fun ls hl => kk p l e R s m args below meth c s0 a0 dC dI dA H locs ad ls cx ro hK hP hD hS oC sc (gj_ol_st1 ol) hl)
theorem gj_istore_n {i : Fin 4} {x : Int32} (hd : decode md.2.1 pc = .ok (.istore_n i, 1)) (hn : i < md.2.2.1) (kk : gj_G md d K N k w (pc + 1) (gj_st1 lc i (.int x)) st n C Q) : gj_G md d K N k w pc lc (.int x :: st) n C Q := by
  intro p l e R s m args below meth c s0 a0 dC dI dA H locs ad ls cx ro hK hP hD hS oC sc ol hl
  exact lv_istore_n cx.1 cx.2.1 hd rfl hl hn (gj_tl_st1 (v := .int x)) (fun ls hl => kk p l e R s m args below meth c s0 a0 dC dI dA H locs ad ls cx ro hK hP hD hS oC sc (gj_ol_st1 ol) hl)
theorem gj_lstore_n {i : Fin 4} {x : Int64} (hd : decode md.2.1 pc = .ok (.lstore_n i, 1)) (hn : i + 1 < md.2.2.1) (kk : gj_G md d K N k w (pc + 1) (gj_st2 lc i (.long x)) st n C Q) : gj_G md d K N k w pc lc (.long x :: st) n C Q := by
  intro p l e R s m args below meth c s0 a0 dC dI dA H locs ad ls cx ro hK hP hD hS oC sc ol hl
  exact lv_lstore_n cx.1 cx.2.1 hd rfl hl hn (gj_tl_st2 (v := .long x)) (fun ls hl => kk p l e R s m args below meth c s0 a0 dC dI dA H locs ad ls cx ro hK hP hD hS oC sc (gj_ol_st2 ol) hl)
theorem gj_astore_n {i : Fin 4} {x : Nat} (hd : decode md.2.1 pc = .ok (.astore_n i, 1)) (hn : i < md.2.2.1) (kk : gj_G md d K N k w (pc + 1) (gj_st1 lc i (.ref x)) st n C Q) : gj_G md d K N k w pc lc (.ref x :: st) n C Q := by
  intro p l e R s m args below meth c s0 a0 dC dI dA H locs ad ls cx ro hK hP hD hS oC sc ol hl
  exact lv_astore_n cx.1 cx.2.1 hd rfl hl hn (gj_tl_st1 (v := .ref x)) (fun ls hl => kk p l e R s m args below meth c s0 a0 dC dI dA H locs ad ls cx ro hK hP hD hS oC sc (gj_ol_st1 ol) hl)
theorem gj_astore_nN {i : Fin 4} (hd : decode md.2.1 pc = .ok (.astore_n i, 1)) (hn : i < md.2.2.1) (kk : gj_G md d K N k w (pc + 1) (gj_st1 lc i (.null)) st n C Q) : gj_G md d K N k w pc lc (.null :: st) n C Q := by
  intro p l e R s m args below meth c s0 a0 dC dI dA H locs ad ls cx ro hK hP hD hS oC sc ol hl
  exact lv_astore_nN cx.1 cx.2.1 hd rfl hl hn (gj_tl_st1 (v := .null)) (fun ls hl => kk p l e R s m args below meth c s0 a0 dC dI dA H locs ad ls cx ro hK hP hD hS oC sc (gj_ol_st1 ol) hl)
theorem gj_iinc {i : Nat} {z : Int} {x : Int32} (hd : decode md.2.1 pc = .ok (.iinc i z, 3)) (hk : gj_lk lc i = some (.int x)) (hn : i < md.2.2.1) (kk : gj_G md d K N k w (pc + 3) (gj_st1 lc i (.int (x + Int32.ofInt z))) st n C Q) : gj_G md d K N k w pc lc st n C Q := by
  intro p l e R s m args below meth c s0 a0 dC dI dA H locs ad ls cx ro hK hP hD hS oC sc ol hl
  obtain ⟨j, hj⟩ := gj_lp (ad := ad) hk
  exact lv_iinc cx.1 cx.2.1 hd hl (k := j) hj rfl hn (gj_tl_st1 (v := .int (x + Int32.ofInt z))) (fun ls hl => kk p l e R s m args below meth c s0 a0 dC dI dA H locs ad ls cx ro hK hP hD hS oC sc (gj_ol_st1 (gj_ol_push ol trivial)) hl)
theorem gj_iadd {x y : Int32} (hd : decode md.2.1 pc = .ok (.iadd, 1)) (kk : gj_G md d K N k w (pc + 1) lc (.int (x + y) :: st) n C Q) : gj_G md d K N k w pc lc (.int y :: .int x :: st) n C Q := by
  intro p l e R s m args below meth c s0 a0 dC dI dA H locs ad ls cx ro hK hP hD hS oC sc ol hl
  exact lv_iadd cx.1 cx.2.1 hd (kk p l e R s m args below meth c s0 a0 dC dI dA H locs ad ls cx ro hK hP hD hS oC sc (gj_ol_push (gj_ol_pop (gj_ol_pop ol)) trivial) hl)
theorem gj_isub {x y : Int32} (hd : decode md.2.1 pc = .ok (.isub, 1)) (kk : gj_G md d K N k w (pc + 1) lc (.int (x - y) :: st) n C Q) : gj_G md d K N k w pc lc (.int y :: .int x :: st) n C Q := by
  intro p l e R s m args below meth c s0 a0 dC dI dA H locs ad ls cx ro hK hP hD hS oC sc ol hl
  exact lv_isub cx.1 cx.2.1 hd (kk p l e R s m args below meth c s0 a0 dC dI dA H locs ad ls cx ro hK hP hD hS oC sc (gj_ol_push (gj_ol_pop (gj_ol_pop ol)) trivial) hl)
theorem gj_imul {x y : Int32} (hd : decode md.2.1 pc = .ok (.imul, 1)) (kk : gj_G md d K N k w (pc + 1) lc (.int (x * y) :: st) n C Q) : gj_G md d K N k w pc lc (.int y :: .int x :: st) n C Q := by
  intro p l e R s m args below meth c s0 a0 dC dI dA H locs ad ls cx ro hK hP hD hS oC sc ol hl
  exact lv_imul cx.1 cx.2.1 hd (kk p l e R s m args below meth c s0 a0 dC dI dA H locs ad ls cx ro hK hP hD hS oC sc (gj_ol_push (gj_ol_pop (gj_ol_pop ol)) trivial) hl)
theorem gj_iand {x y : Int32} (hd : decode md.2.1 pc = .ok (.iand, 1)) (kk : gj_G md d K N k w (pc + 1) lc (.int (x &&& y) :: st) n C Q) : gj_G md d K N k w pc lc (.int y :: .int x :: st) n C Q := by
  intro p l e R s m args below meth c s0 a0 dC dI dA H locs ad ls cx ro hK hP hD hS oC sc ol hl
  exact lv_iand cx.1 cx.2.1 hd (kk p l e R s m args below meth c s0 a0 dC dI dA H locs ad ls cx ro hK hP hD hS oC sc (gj_ol_push (gj_ol_pop (gj_ol_pop ol)) trivial) hl)
theorem gj_ior {x y : Int32} (hd : decode md.2.1 pc = .ok (.ior, 1)) (kk : gj_G md d K N k w (pc + 1) lc (.int (x ||| y) :: st) n C Q) : gj_G md d K N k w pc lc (.int y :: .int x :: st) n C Q := by
  intro p l e R s m args below meth c s0 a0 dC dI dA H locs ad ls cx ro hK hP hD hS oC sc ol hl
  exact lv_ior cx.1 cx.2.1 hd (kk p l e R s m args below meth c s0 a0 dC dI dA H locs ad ls cx ro hK hP hD hS oC sc (gj_ol_push (gj_ol_pop (gj_ol_pop ol)) trivial) hl)
theorem gj_ixor {x y : Int32} (hd : decode md.2.1 pc = .ok (.ixor, 1)) (kk : gj_G md d K N k w (pc + 1) lc (.int (x ^^^ y) :: st) n C Q) : gj_G md d K N k w pc lc (.int y :: .int x :: st) n C Q := by
  intro p l e R s m args below meth c s0 a0 dC dI dA H locs ad ls cx ro hK hP hD hS oC sc ol hl
  exact lv_ixor cx.1 cx.2.1 hd (kk p l e R s m args below meth c s0 a0 dC dI dA H locs ad ls cx ro hK hP hD hS oC sc (gj_ol_push (gj_ol_pop (gj_ol_pop ol)) trivial) hl)
theorem gj_ishl {x y : Int32} (hd : decode md.2.1 pc = .ok (.ishl, 1)) (kk : gj_G md d K N k w (pc + 1) lc (.int (x <<< (y &&& 31)) :: st) n C Q) : gj_G md d K N k w pc lc (.int y :: .int x :: st) n C Q := by
  intro p l e R s m args below meth c s0 a0 dC dI dA H locs ad ls cx ro hK hP hD hS oC sc ol hl
  exact lv_ishl cx.1 cx.2.1 hd (kk p l e R s m args below meth c s0 a0 dC dI dA H locs ad ls cx ro hK hP hD hS oC sc (gj_ol_push (gj_ol_pop (gj_ol_pop ol)) trivial) hl)
theorem gj_ishr {x y : Int32} (hd : decode md.2.1 pc = .ok (.ishr, 1)) (kk : gj_G md d K N k w (pc + 1) lc (.int (x >>> (y &&& 31)) :: st) n C Q) : gj_G md d K N k w pc lc (.int y :: .int x :: st) n C Q := by
  intro p l e R s m args below meth c s0 a0 dC dI dA H locs ad ls cx ro hK hP hD hS oC sc ol hl
  exact lv_ishr cx.1 cx.2.1 hd (kk p l e R s m args below meth c s0 a0 dC dI dA H locs ad ls cx ro hK hP hD hS oC sc (gj_ol_push (gj_ol_pop (gj_ol_pop ol)) trivial) hl)
theorem gj_idiv {x y : Int32} (hd : decode md.2.1 pc = .ok (.idiv, 1)) (hne : ¬ y = 0) (kk : gj_G md d K N k w (pc + 1) lc (.int (x / y) :: st) n C Q) : gj_G md d K N k w pc lc (.int y :: .int x :: st) n C Q := by
  intro p l e R s m args below meth c s0 a0 dC dI dA H locs ad ls cx ro hK hP hD hS oC sc ol hl
  exact lv_idiv cx.1 cx.2.1 hd hne (kk p l e R s m args below meth c s0 a0 dC dI dA H locs ad ls cx ro hK hP hD hS oC sc (gj_ol_push (gj_ol_pop (gj_ol_pop ol)) trivial) hl)
theorem gj_irem {x y : Int32} (hd : decode md.2.1 pc = .ok (.irem, 1)) (hne : ¬ y = 0) (kk : gj_G md d K N k w (pc + 1) lc (.int (x - x / y * y) :: st) n C Q) : gj_G md d K N k w pc lc (.int y :: .int x :: st) n C Q := by
  intro p l e R s m args below meth c s0 a0 dC dI dA H locs ad ls cx ro hK hP hD hS oC sc ol hl
  exact lv_irem cx.1 cx.2.1 hd hne (kk p l e R s m args below meth c s0 a0 dC dI dA H locs ad ls cx ro hK hP hD hS oC sc (gj_ol_push (gj_ol_pop (gj_ol_pop ol)) trivial) hl)
theorem gj_ladd {x y : Int64} (hd : decode md.2.1 pc = .ok (.ladd, 1)) (kk : gj_G md d K N k w (pc + 1) lc (.long (x + y) :: st) n C Q) : gj_G md d K N k w pc lc (.long y :: .long x :: st) n C Q := by
  intro p l e R s m args below meth c s0 a0 dC dI dA H locs ad ls cx ro hK hP hD hS oC sc ol hl
  exact lv_ladd cx.1 cx.2.1 hd (kk p l e R s m args below meth c s0 a0 dC dI dA H locs ad ls cx ro hK hP hD hS oC sc (gj_ol_push (gj_ol_pop (gj_ol_pop ol)) trivial) hl)
theorem gj_lsub {x y : Int64} (hd : decode md.2.1 pc = .ok (.lsub, 1)) (kk : gj_G md d K N k w (pc + 1) lc (.long (x - y) :: st) n C Q) : gj_G md d K N k w pc lc (.long y :: .long x :: st) n C Q := by
  intro p l e R s m args below meth c s0 a0 dC dI dA H locs ad ls cx ro hK hP hD hS oC sc ol hl
  exact lv_lsub cx.1 cx.2.1 hd (kk p l e R s m args below meth c s0 a0 dC dI dA H locs ad ls cx ro hK hP hD hS oC sc (gj_ol_push (gj_ol_pop (gj_ol_pop ol)) trivial) hl)
theorem gj_lmul {x y : Int64} (hd : decode md.2.1 pc = .ok (.lmul, 1)) (kk : gj_G md d K N k w (pc + 1) lc (.long (x * y) :: st) n C Q) : gj_G md d K N k w pc lc (.long y :: .long x :: st) n C Q := by
  intro p l e R s m args below meth c s0 a0 dC dI dA H locs ad ls cx ro hK hP hD hS oC sc ol hl
  exact lv_lmul cx.1 cx.2.1 hd (kk p l e R s m args below meth c s0 a0 dC dI dA H locs ad ls cx ro hK hP hD hS oC sc (gj_ol_push (gj_ol_pop (gj_ol_pop ol)) trivial) hl)
theorem gj_ldiv {x y : Int64} (hd : decode md.2.1 pc = .ok (.ldiv, 1)) (hne : ¬ y = 0) (kk : gj_G md d K N k w (pc + 1) lc (.long (x / y) :: st) n C Q) : gj_G md d K N k w pc lc (.long y :: .long x :: st) n C Q := by
  intro p l e R s m args below meth c s0 a0 dC dI dA H locs ad ls cx ro hK hP hD hS oC sc ol hl
  exact lv_ldiv cx.1 cx.2.1 hd hne (kk p l e R s m args below meth c s0 a0 dC dI dA H locs ad ls cx ro hK hP hD hS oC sc (gj_ol_push (gj_ol_pop (gj_ol_pop ol)) trivial) hl)
theorem gj_lrem {x y : Int64} (hd : decode md.2.1 pc = .ok (.lrem, 1)) (hne : ¬ y = 0) (kk : gj_G md d K N k w (pc + 1) lc (.long (x - x / y * y) :: st) n C Q) : gj_G md d K N k w pc lc (.long y :: .long x :: st) n C Q := by
  intro p l e R s m args below meth c s0 a0 dC dI dA H locs ad ls cx ro hK hP hD hS oC sc ol hl
  exact lv_lrem cx.1 cx.2.1 hd hne (kk p l e R s m args below meth c s0 a0 dC dI dA H locs ad ls cx ro hK hP hD hS oC sc (gj_ol_push (gj_ol_pop (gj_ol_pop ol)) trivial) hl)
theorem gj_lcmp {x y : Int64} (hd : decode md.2.1 pc = .ok (.lcmp, 1)) (kk : gj_G md d K N k w (pc + 1) lc (.int (lg_cmp x y) :: st) n C Q) : gj_G md d K N k w pc lc (.long y :: .long x :: st) n C Q := by
  intro p l e R s m args below meth c s0 a0 dC dI dA H locs ad ls cx ro hK hP hD hS oC sc ol hl
  exact W.lcmp cx.1 cx.2.1 hd (kk p l e R s m args below meth c s0 a0 dC dI dA H locs ad ls cx ro hK hP hD hS oC sc (gj_ol_push (gj_ol_pop (gj_ol_pop ol)) trivial) hl)
theorem gj_ineg {x : Int32} (hd : decode md.2.1 pc = .ok (.ineg, 1)) (kk : gj_G md d K N k w (pc + 1) lc (.int (-x) :: st) n C Q) : gj_G md d K N k w pc lc (.int x :: st) n C Q := by
  intro p l e R s m args below meth c s0 a0 dC dI dA H locs ad ls cx ro hK hP hD hS oC sc ol hl
  exact lv_ineg cx.1 cx.2.1 hd (kk p l e R s m args below meth c s0 a0 dC dI dA H locs ad ls cx ro hK hP hD hS oC sc (gj_ol_push (gj_ol_pop ol) trivial) hl)
theorem gj_i2l {x : Int32} (hd : decode md.2.1 pc = .ok (.i2l, 1)) (kk : gj_G md d K N k w (pc + 1) lc (.long x.toInt64 :: st) n C Q) : gj_G md d K N k w pc lc (.int x :: st) n C Q := by
  intro p l e R s m args below meth c s0 a0 dC dI dA H locs ad ls cx ro hK hP hD hS oC sc ol hl
  exact lv_i2l cx.1 cx.2.1 hd rfl (kk p l e R s m args below meth c s0 a0 dC dI dA H locs ad ls cx ro hK hP hD hS oC sc (gj_ol_push (gj_ol_pop ol) trivial) hl)
theorem gj_l2i {x : Int64} (hd : decode md.2.1 pc = .ok (.l2i, 1)) (kk : gj_G md d K N k w (pc + 1) lc (.int x.toInt32 :: st) n C Q) : gj_G md d K N k w pc lc (.long x :: st) n C Q := by
  intro p l e R s m args below meth c s0 a0 dC dI dA H locs ad ls cx ro hK hP hD hS oC sc ol hl
  exact lv_l2i cx.1 cx.2.1 hd rfl (kk p l e R s m args below meth c s0 a0 dC dI dA H locs ad ls cx ro hK hP hD hS oC sc (gj_ol_push (gj_ol_pop ol) trivial) hl)
theorem gj_dup {v : Value} (hd : decode md.2.1 pc = .ok (.dup, 1)) (hv : v.category = 1) (kk : gj_G md d K N k w (pc + 1) lc (v :: v :: st) n C Q) : gj_G md d K N k w pc lc (v :: st) n C Q := by
  intro p l e R s m args below meth c s0 a0 dC dI dA H locs ad ls cx ro hK hP hD hS oC sc ol hl
  exact lv_dup cx.1 cx.2.1 hd ((gj_cat ad v).trans hv) (kk p l e R s m args below meth c s0 a0 dC dI dA H locs ad ls cx ro hK hP hD hS oC sc (gj_ol_push ol (ol.2 v List.mem_cons_self)) hl)
theorem gj_pop {v : Value} (hd : decode md.2.1 pc = .ok (.pop, 1)) (hv : v.category = 1) (kk : gj_G md d K N k w (pc + 1) lc (st) n C Q) : gj_G md d K N k w pc lc (v :: st) n C Q := by
  intro p l e R s m args below meth c s0 a0 dC dI dA H locs ad ls cx ro hK hP hD hS oC sc ol hl
  exact lv_pop cx.1 cx.2.1 hd ((gj_cat ad v).trans hv) (kk p l e R s m args below meth c s0 a0 dC dI dA H locs ad ls cx ro hK hP hD hS oC sc (gj_ol_pop ol) hl)
theorem gj_dup_x1 {v u : Value} (hd : decode md.2.1 pc = .ok (.dup_x1, 1)) (hv : v.category = 1) (hu : u.category = 1) (kk : gj_G md d K N k w (pc + 1) lc (v :: u :: v :: st) n C Q) : gj_G md d K N k w pc lc (v :: u :: st) n C Q := by
  intro p l e R s m args below meth c s0 a0 dC dI dA H locs ad ls cx ro hK hP hD hS oC sc ol hl
  exact lv_dup_x1 cx.1 cx.2.1 hd ((gj_cat ad v).trans hv) ((gj_cat ad u).trans hu) (kk p l e R s m args below meth c s0 a0 dC dI dA H locs ad ls cx ro hK hP hD hS oC sc (gj_ol_push (gj_ol_push (gj_ol_push (gj_ol_pop (gj_ol_pop ol)) (ol.2 v List.mem_cons_self)) (ol.2 u (List.mem_cons_of_mem _ List.mem_cons_self))) (ol.2 v List.mem_cons_self)) hl)
theorem gj_dup2 {v u : Value} (hd : decode md.2.1 pc = .ok (.dup2, 1)) (hv : v.category = 1) (hu : u.category = 1) (kk : gj_G md d K N k w (pc + 1) lc (v :: u :: v :: u :: st) n C Q) : gj_G md d K N k w pc lc (v :: u :: st) n C Q := by
  intro p l e R s m args below meth c s0 a0 dC dI dA H locs ad ls cx ro hK hP hD hS oC sc ol hl
  exact lv_dup2_11 cx.1 cx.2.1 hd ((gj_cat ad v).trans hv) ((gj_cat ad u).trans hu) (kk p l e R s m args below meth c s0 a0 dC dI dA H locs ad ls cx ro hK hP hD hS oC sc (gj_ol_push (gj_ol_push ol (ol.2 u (List.mem_cons_of_mem _ List.mem_cons_self))) (ol.2 v List.mem_cons_self)) hl)
theorem gj_dup_x2 {v u z : Value} (hd : decode md.2.1 pc = .ok (.dup_x2, 1)) (hv : v.category = 1) (hu : u.category = 1) (hz : z.category = 1) (kk : gj_G md d K N k w (pc + 1) lc (v :: u :: z :: v :: st) n C Q) : gj_G md d K N k w pc lc (v :: u :: z :: st) n C Q := by
  intro p l e R s m args below meth c s0 a0 dC dI dA H locs ad ls cx ro hK hP hD hS oC sc ol hl
  exact lv_dup_x2 cx.1 cx.2.1 hd ((gj_cat ad v).trans hv) ((gj_cat ad u).trans hu) ((gj_cat ad z).trans hz) (kk p l e R s m args below meth c s0 a0 dC dI dA H locs ad ls cx ro hK hP hD hS oC sc (gj_ol_push (gj_ol_push (gj_ol_push (gj_ol_push (gj_ol_pop (gj_ol_pop (gj_ol_pop ol))) (ol.2 v List.mem_cons_self)) (ol.2 z (List.mem_cons_of_mem _ (List.mem_cons_of_mem _ List.mem_cons_self)))) (ol.2 u (List.mem_cons_of_mem _ List.mem_cons_self))) (ol.2 v List.mem_cons_self)) hl)
theorem gj_goto {off : Int} {tgt : Nat} (hd : decode md.2.1 pc = .ok (.goto off, 3)) (ht : (pc : Int) + off = (tgt : Int)) (kk : gj_G md d K N k w tgt lc st n C Q) : gj_G md d K N k w pc lc st n C Q := by
  intro p l e R s m args below meth c s0 a0 dC dI dA H locs ad ls cx ro hK hP hD hS oC sc ol hl
  exact lv_goto cx.1 cx.2.1 hd ht (kk p l e R s m args below meth c s0 a0 dC dI dA H locs ad ls cx ro hK hP hD hS oC sc ol hl)
theorem gj_if_eq {x : Int32} {off : Int} {tgt : Nat} (hd : decode md.2.1 pc = .ok (.ifCond .eq off, 3)) (ht : (pc : Int) + off = (tgt : Int)) (kt : x = 0 → gj_G md d K N k w tgt lc st n C Q) (kf : ¬ (x = 0) → gj_G md d K N k w (pc + 3) lc st n C Q) : gj_G md d K N k w pc lc (.int x :: st) n C Q := by
  intro p l e R s m args below meth c s0 a0 dC dI dA H locs ad ls cx ro hK hP hD hS oC sc ol hl
  exact lv_if_eq cx.1 cx.2.1 hd ht (fun h => kt h p l e R s m args below meth c s0 a0 dC dI dA H locs ad ls cx ro hK hP hD hS oC sc (gj_ol_pop ol) hl) (fun h => kf h p l e R s m args below meth c s0 a0 dC dI dA H locs ad ls cx ro hK hP hD hS oC sc (gj_ol_pop ol) hl)
theorem gj_icmp_eq {x y : Int32} {off : Int} {tgt : Nat} (hd : decode md.2.1 pc = .ok (.if_icmp .eq off, 3)) (ht : (pc : Int) + off = (tgt : Int)) (kt : x = y → gj_G md d K N k w tgt lc st n C Q) (kf : ¬ (x = y) → gj_G md d K N k w (pc + 3) lc st n C Q) : gj_G md d K N k w pc lc (.int y :: .int x :: st) n C Q := by
  intro p l e R s m args below meth c s0 a0 dC dI dA H locs ad ls cx ro hK hP hD hS oC sc ol hl
  exact lv_icmp_eq cx.1 cx.2.1 hd ht (fun h => kt h p l e R s m args below meth c s0 a0 dC dI dA H locs ad ls cx ro hK hP hD hS oC sc (gj_ol_pop (gj_ol_pop ol)) hl) (fun h => kf h p l e R s m args below meth c s0 a0 dC dI dA H locs ad ls cx ro hK hP hD hS oC sc (gj_ol_pop (gj_ol_pop ol)) hl)
theorem gj_if_lt {x : Int32} {off : Int} {tgt : Nat} (hd : decode md.2.1 pc = .ok (.ifCond .lt off, 3)) (ht : (pc : Int) + off = (tgt : Int)) (kt : x < 0 → gj_G md d K N k w tgt lc st n C Q) (kf : ¬ (x < 0) → gj_G md d K N k w (pc + 3) lc st n C Q) : gj_G md d K N k w pc lc (.int x :: st) n C Q := by
  intro p l e R s m args below meth c s0 a0 dC dI dA H locs ad ls cx ro hK hP hD hS oC sc ol hl
  exact lv_if_lt cx.1 cx.2.1 hd ht (fun h => kt h p l e R s m args below meth c s0 a0 dC dI dA H locs ad ls cx ro hK hP hD hS oC sc (gj_ol_pop ol) hl) (fun h => kf h p l e R s m args below meth c s0 a0 dC dI dA H locs ad ls cx ro hK hP hD hS oC sc (gj_ol_pop ol) hl)
theorem gj_icmp_lt {x y : Int32} {off : Int} {tgt : Nat} (hd : decode md.2.1 pc = .ok (.if_icmp .lt off, 3)) (ht : (pc : Int) + off = (tgt : Int)) (kt : x < y → gj_G md d K N k w tgt lc st n C Q) (kf : ¬ (x < y) → gj_G md d K N k w (pc + 3) lc st n C Q) : gj_G md d K N k w pc lc (.int y :: .int x :: st) n C Q := by
  intro p l e R s m args below meth c s0 a0 dC dI dA H locs ad ls cx ro hK hP hD hS oC sc ol hl
  exact lv_icmp_lt cx.1 cx.2.1 hd ht (fun h => kt h p l e R s m args below meth c s0 a0 dC dI dA H locs ad ls cx ro hK hP hD hS oC sc (gj_ol_pop (gj_ol_pop ol)) hl) (fun h => kf h p l e R s m args below meth c s0 a0 dC dI dA H locs ad ls cx ro hK hP hD hS oC sc (gj_ol_pop (gj_ol_pop ol)) hl)
theorem gj_if_ge {x : Int32} {off : Int} {tgt : Nat} (hd : decode md.2.1 pc = .ok (.ifCond .ge off, 3)) (ht : (pc : Int) + off = (tgt : Int)) (kt : 0 ≤ x → gj_G md d K N k w tgt lc st n C Q) (kf : ¬ (0 ≤ x) → gj_G md d K N k w (pc + 3) lc st n C Q) : gj_G md d K N k w pc lc (.int x :: st) n C Q := by
  intro p l e R s m args below meth c s0 a0 dC dI dA H locs ad ls cx ro hK hP hD hS oC sc ol hl
  exact lv_if_ge cx.1 cx.2.1 hd ht (fun h => kt h p l e R s m args below meth c s0 a0 dC dI dA H locs ad ls cx ro hK hP hD hS oC sc (gj_ol_pop ol) hl) (fun h => kf h p l e R s m args below meth c s0 a0 dC dI dA H locs ad ls cx ro hK hP hD hS oC sc (gj_ol_pop ol) hl)
theorem gj_icmp_ge {x y : Int32} {off : Int} {tgt : Nat} (hd : decode md.2.1 pc = .ok (.if_icmp .ge off, 3)) (ht : (pc : Int) + off = (tgt : Int)) (kt : y ≤ x → gj_G md d K N k w tgt lc st n C Q) (kf : ¬ (y ≤ x) → gj_G md d K N k w (pc + 3) lc st n C Q) : gj_G md d K N k w pc lc (.int y :: .int x :: st) n C Q := by
  intro p l e R s m args below meth c s0 a0 dC dI dA H locs ad ls cx ro hK hP hD hS oC sc ol hl
  exact lv_icmp_ge cx.1 cx.2.1 hd ht (fun h => kt h p l e R s m args below meth c s0 a0 dC dI dA H locs ad ls cx ro hK hP hD hS oC sc (gj_ol_pop (gj_ol_pop ol)) hl) (fun h => kf h p l e R s m args below meth c s0 a0 dC dI dA H locs ad ls cx ro hK hP hD hS oC sc (gj_ol_pop (gj_ol_pop ol)) hl)
theorem gj_if_gt {x : Int32} {off : Int} {tgt : Nat} (hd : decode md.2.1 pc = .ok (.ifCond .gt off, 3)) (ht : (pc : Int) + off = (tgt : Int)) (kt : 0 < x → gj_G md d K N k w tgt lc st n C Q) (kf : ¬ (0 < x) → gj_G md d K N k w (pc + 3) lc st n C Q) : gj_G md d K N k w pc lc (.int x :: st) n C Q := by
  intro p l e R s m args below meth c s0 a0 dC dI dA H locs ad ls cx ro hK hP hD hS oC sc ol hl
  exact lv_if_gt cx.1 cx.2.1 hd ht (fun h => kt h p l e R s m args below meth c s0 a0 dC dI dA H locs ad ls cx ro hK hP hD hS oC sc (gj_ol_pop ol) hl) (fun h => kf h p l e R s m args below meth c s0 a0 dC dI dA H locs ad ls cx ro hK hP hD hS oC sc (gj_ol_pop ol) hl)
theorem gj_icmp_gt {x y : Int32} {off : Int} {tgt : Nat} (hd : decode md.2.1 pc = .ok (.if_icmp .gt off, 3)) (ht : (pc : Int) + off = (tgt : Int)) (kt : y < x → gj_G md d K N k w tgt lc st n C Q) (kf : ¬ (y < x) → gj_G md d K N k w (pc + 3) lc st n C Q) : gj_G md d K N k w pc lc (.int y :: .int x :: st) n C Q := by
  intro p l e R s m args below meth c s0 a0 dC dI dA H locs ad ls cx ro hK hP hD hS oC sc ol hl
  exact lv_icmp_gt cx.1 cx.2.1 hd ht (fun h => kt h p l e R s m args below meth c s0 a0 dC dI dA H locs ad ls cx ro hK hP hD hS oC sc (gj_ol_pop (gj_ol_pop ol)) hl) (fun h => kf h p l e R s m args below meth c s0 a0 dC dI dA H locs ad ls cx ro hK hP hD hS oC sc (gj_ol_pop (gj_ol_pop ol)) hl)
theorem gj_if_le {x : Int32} {off : Int} {tgt : Nat} (hd : decode md.2.1 pc = .ok (.ifCond .le off, 3)) (ht : (pc : Int) + off = (tgt : Int)) (kt : x ≤ 0 → gj_G md d K N k w tgt lc st n C Q) (kf : ¬ (x ≤ 0) → gj_G md d K N k w (pc + 3) lc st n C Q) : gj_G md d K N k w pc lc (.int x :: st) n C Q := by
  intro p l e R s m args below meth c s0 a0 dC dI dA H locs ad ls cx ro hK hP hD hS oC sc ol hl
  exact lv_if_le cx.1 cx.2.1 hd ht (fun h => kt h p l e R s m args below meth c s0 a0 dC dI dA H locs ad ls cx ro hK hP hD hS oC sc (gj_ol_pop ol) hl) (fun h => kf h p l e R s m args below meth c s0 a0 dC dI dA H locs ad ls cx ro hK hP hD hS oC sc (gj_ol_pop ol) hl)
theorem gj_icmp_le {x y : Int32} {off : Int} {tgt : Nat} (hd : decode md.2.1 pc = .ok (.if_icmp .le off, 3)) (ht : (pc : Int) + off = (tgt : Int)) (kt : x ≤ y → gj_G md d K N k w tgt lc st n C Q) (kf : ¬ (x ≤ y) → gj_G md d K N k w (pc + 3) lc st n C Q) : gj_G md d K N k w pc lc (.int y :: .int x :: st) n C Q := by
  intro p l e R s m args below meth c s0 a0 dC dI dA H locs ad ls cx ro hK hP hD hS oC sc ol hl
  exact lv_icmp_le cx.1 cx.2.1 hd ht (fun h => kt h p l e R s m args below meth c s0 a0 dC dI dA H locs ad ls cx ro hK hP hD hS oC sc (gj_ol_pop (gj_ol_pop ol)) hl) (fun h => kf h p l e R s m args below meth c s0 a0 dC dI dA H locs ad ls cx ro hK hP hD hS oC sc (gj_ol_pop (gj_ol_pop ol)) hl)
theorem gj_if_ne {x : Int32} {off : Int} {tgt : Nat} (hd : decode md.2.1 pc = .ok (.ifCond .ne off, 3)) (ht : (pc : Int) + off = (tgt : Int)) (kt : ¬ x = 0 → gj_G md d K N k w tgt lc st n C Q) (kf : x = 0 → gj_G md d K N k w (pc + 3) lc st n C Q) : gj_G md d K N k w pc lc (.int x :: st) n C Q := by
  intro p l e R s m args below meth c s0 a0 dC dI dA H locs ad ls cx ro hK hP hD hS oC sc ol hl
  exact lv_if_ne cx.1 cx.2.1 hd ht (fun h => kt h p l e R s m args below meth c s0 a0 dC dI dA H locs ad ls cx ro hK hP hD hS oC sc (gj_ol_pop ol) hl) (fun h => kf h p l e R s m args below meth c s0 a0 dC dI dA H locs ad ls cx ro hK hP hD hS oC sc (gj_ol_pop ol) hl)
theorem gj_icmp_ne {x y : Int32} {off : Int} {tgt : Nat} (hd : decode md.2.1 pc = .ok (.if_icmp .ne off, 3)) (ht : (pc : Int) + off = (tgt : Int)) (kt : ¬ x = y → gj_G md d K N k w tgt lc st n C Q) (kf : x = y → gj_G md d K N k w (pc + 3) lc st n C Q) : gj_G md d K N k w pc lc (.int y :: .int x :: st) n C Q := by
  intro p l e R s m args below meth c s0 a0 dC dI dA H locs ad ls cx ro hK hP hD hS oC sc ol hl
  exact lv_icmp_ne cx.1 cx.2.1 hd ht (fun h => kt h p l e R s m args below meth c s0 a0 dC dI dA H locs ad ls cx ro hK hP hD hS oC sc (gj_ol_pop (gj_ol_pop ol)) hl) (fun h => kf h p l e R s m args below meth c s0 a0 dC dI dA H locs ad ls cx ro hK hP hD hS oC sc (gj_ol_pop (gj_ol_pop ol)) hl)
theorem gj_ifnull {x : Nat} {off : Int} (hd : decode md.2.1 pc = .ok (.ifnull off, 3)) (kk : gj_G md d K N k w (pc + 3) lc (st) n C Q) : gj_G md d K N k w pc lc (.ref x :: st) n C Q := by
  intro p l e R s m args below meth c s0 a0 dC dI dA H locs ad ls cx ro hK hP hD hS oC sc ol hl
  exact lv_ifnull cx.1 cx.2.1 hd (kk p l e R s m args below meth c s0 a0 dC dI dA H locs ad ls cx ro hK hP hD hS oC sc (gj_ol_pop ol) hl)
theorem gj_ifnonnullN {off : Int} (hd : decode md.2.1 pc = .ok (.ifnonnull off, 3)) (kk : gj_G md d K N k w (pc + 3) lc (st) n C Q) : gj_G md d K N k w pc lc (.null :: st) n C Q := by
  intro p l e R s m args below meth c s0 a0 dC dI dA H locs ad ls cx ro hK hP hD hS oC sc ol hl
  exact lv_ifnonnullN cx.1 cx.2.1 hd (kk p l e R s m args below meth c s0 a0 dC dI dA H locs ad ls cx ro hK hP hD hS oC sc (gj_ol_pop ol) hl)
theorem gj_ifnonnull {x : Nat} {off : Int} {tgt : Nat} (hd : decode md.2.1 pc = .ok (.ifnonnull off, 3)) (ht : (pc : Int) + off = (tgt : Int)) (kk : gj_G md d K N k w tgt lc st n C Q) : gj_G md d K N k w pc lc (.ref x :: st) n C Q := by
  intro p l e R s m args below meth c s0 a0 dC dI dA H locs ad ls cx ro hK hP hD hS oC sc ol hl
  exact lv_ifnonnull cx.1 cx.2.1 hd ht (kk p l e R s m args below meth c s0 a0 dC dI dA H locs ad ls cx ro hK hP hD hS oC sc (gj_ol_pop ol) hl)
theorem gj_ifnullN {off : Int} {tgt : Nat} (hd : decode md.2.1 pc = .ok (.ifnull off, 3)) (ht : (pc : Int) + off = (tgt : Int)) (kk : gj_G md d K N k w tgt lc st n C Q) : gj_G md d K N k w pc lc (.null :: st) n C Q := by
  intro p l e R s m args below meth c s0 a0 dC dI dA H locs ad ls cx ro hK hP hD hS oC sc ol hl
  exact lv_ifnullN cx.1 cx.2.1 hd ht (kk p l e R s m args below meth c s0 a0 dC dI dA H locs ad ls cx ro hK hP hD hS oC sc (gj_ol_pop ol) hl)
theorem gj_lookup {dflt off : Int} {ps : Array (Int × Int)} {len tgt : Nat} {x : Int32} (hd : decode md.2.1 pc = .ok (.lookupswitch dflt ps, len)) (hp : (ps.toList.zip (ps.toList.drop 1)).all (fun (a, next) => a.1 < next.1) = true) (ho : Op.lookupswitch.offset ps.toList dflt x.toInt = off) (ht : (pc : Int) + off = (tgt : Int)) (kk : gj_G md d K N k w tgt lc st n C Q) : gj_G md d K N k w pc lc (.int x :: st) n C Q := by
  intro p l e R s m args below meth c s0 a0 dC dI dA H locs ad ls cx ro hK hP hD hS oC sc ol hl
  exact lv_lookup cx.1 cx.2.1 hd hp ho ht (kk p l e R s m args below meth c s0 a0 dC dI dA H locs ad ls cx ro hK hP hD hS oC sc (gj_ol_pop ol) hl)
theorem gj_tableOut {dflt lo hi : Int} {offs : Array Int} {len tgt : Nat} {x : Int32} (hd : decode md.2.1 pc = .ok (.tableswitch dflt lo hi offs, len)) (h : x.toInt < lo ∨ hi < x.toInt) (ht : (pc : Int) + dflt = (tgt : Int)) (kk : gj_G md d K N k w tgt lc st n C Q) : gj_G md d K N k w pc lc (.int x :: st) n C Q := by
  intro p l e R s m args below meth c s0 a0 dC dI dA H locs ad ls cx ro hK hP hD hS oC sc ol hl
  exact lv_tableOut cx.1 cx.2.1 hd h ht (kk p l e R s m args below meth c s0 a0 dC dI dA H locs ad ls cx ro hK hP hD hS oC sc (gj_ol_pop ol) hl)
theorem gj_tableIn {dflt lo hi off : Int} {offs : Array Int} {len tgt : Nat} {x : Int32} (hd : decode md.2.1 pc = .ok (.tableswitch dflt lo hi offs, len)) (h1 : ¬ x.toInt < lo) (h2 : ¬ hi < x.toInt) (ho : offs[(x.toInt - lo).toNat]? = some off) (ht : (pc : Int) + off = (tgt : Int)) (kk : gj_G md d K N k w tgt lc st n C Q) : gj_G md d K N k w pc lc (.int x :: st) n C Q := by
  intro p l e R s m args below meth c s0 a0 dC dI dA H locs ad ls cx ro hK hP hD hS oC sc ol hl
  exact lv_tableIn cx.1 cx.2.1 hd h1 h2 ho ht (kk p l e R s m args below meth c s0 a0 dC dI dA H locs ad ls cx ro hK hP hD hS oC sc (gj_ol_pop ol) hl)
theorem gj_ldc {ix : Nat} {v : Int32} (hd : decode md.2.1 pc = .ok (.ldc ix, 2)) (hw : Cond.constant md.1.cls ix v ∈ lw_tbl) (kk : gj_G md d K N k w (pc + 2) lc (.int v :: st) n C Q) : gj_G md d K N k w pc lc st n C Q := by
  intro p l e R s m args below meth c s0 a0 dC dI dA H locs ad ls cx ro hK hP hD hS oC sc ol hl
  exact lv_ldc cx.1 cx.2.1 cx.2.2.2.2.2.2.2.2.1 (gj_word cx hw rfl) hd (kk p l e R s m args below meth c s0 a0 dC dI dA H locs ad ls cx ro hK hP hD hS oC sc (gj_ol_push ol trivial) hl)
theorem gj_ldcw {ix : Nat} {v : Int32} (hd : decode md.2.1 pc = .ok (.ldc_w ix, 3)) (hw : Cond.constant md.1.cls ix v ∈ lw_tbl) (kk : gj_G md d K N k w (pc + 3) lc (.int v :: st) n C Q) : gj_G md d K N k w pc lc st n C Q := by
  intro p l e R s m args below meth c s0 a0 dC dI dA H locs ad ls cx ro hK hP hD hS oC sc ol hl
  exact lv_ldcw cx.1 cx.2.1 cx.2.2.2.2.2.2.2.2.1 (gj_word cx hw rfl) hd (kk p l e R s m args below meth c s0 a0 dC dI dA H locs ad ls cx ro hK hP hD hS oC sc (gj_ol_push ol trivial) hl)
theorem gj_ldc2 {ix : Nat} {v : Int64} (hd : decode md.2.1 pc = .ok (.ldc2_w ix, 3)) (hw : Cond.constantLong md.1.cls ix v ∈ lw_tbl) (kk : gj_G md d K N k w (pc + 3) lc (.long v :: st) n C Q) : gj_G md d K N k w pc lc st n C Q := by
  intro p l e R s m args below meth c s0 a0 dC dI dA H locs ad ls cx ro hK hP hD hS oC sc ol hl
  exact lv_ldc2 cx.1 cx.2.1 cx.2.2.2.2.2.2.2.2.1 (gj_word cx hw rfl) hd (kk p l e R s m args below meth c s0 a0 dC dI dA H locs ad ls cx ro hK hP hD hS oC sc (gj_ol_push ol trivial) hl)
end
end
section
/-! MEMORY: fields, arrays, making -/
theorem gj_ne0i {s0 : State} {ad : Nat → Nat} {C : Nat → va_E} {x ci : Nat} {fs : List Value} (sc : gj_sc s0 ad (C 0)) (hc : C x = .inr (ci, fs)) : x ≠ 0 := by
  rintro rfl
  obtain ⟨L, xs, h, -⟩ := sc
  rw [hc] at h
  cases h
theorem gj_ne0a {s0 : State} {ad : Nat → Nat} {C : Nat → va_E} {x k len : Nat} {a : gj_X} {ty : FieldType} (sc : gj_sc s0 ad (C 0)) (hc : C x = .inl (k, len, a)) (ha : gj_at[k]? = some ty) : x ≠ 0 := by
  rintro rfl
  obtain ⟨L, xs, h, -⟩ := sc
  rw [hc] at h
  cases h
  revert ha
  exact fun h => by have := (List.getElem?_eq_some_iff.mp h).1; revert this; decide
theorem gj_up0 {C : Nat → va_E} {x : Nat} {e : va_E} (h : x ≠ 0) : va_up C x e 0 = C 0 := va_up_ne C e (Ne.symm h)
theorem gj_wsi {dA : Nat → ClassId} {ad : Nat → Nat} {n x ci : Nat} {C : Nat → va_E} {fs : List Value} (h0 : x ≠ 0) (h : x ≤ n) (hc : C x = .inr (ci, fs)) : (gj_ws dA ad n C)[x - 1]? = some (ad x, .inr (ci, fs.map (gj_tv ad))) := by
  rw [gj_ws_at h0 h, hc]
  rfl
theorem gj_wsa {dA : Nat → ClassId} {ad : Nat → Nat} {n x k len : Nat} {C : Nat → va_E} {a : gj_X} (h0 : x ≠ 0) (h : x ≤ n) (hc : C x = .inl (k, len, a)) : (gj_ws dA ad n C)[x - 1]? = some (ad x, .inl (dA k, len, gj_tx ad a)) := by
  rw [gj_ws_at h0 h, hc]
  rfl
/-- a field by its entry in the pool of own: class ci, place kf -/
def gj_fok (own : String) (ix ci kf : Nat) : Prop := ∃ (C0 : String) (T : u_T) (N0 : Nat), gj_cl[ci]? = some (C0, T, N0) ∧ kf < N0 ∧ Cond.fieldLink own ix (T kf).1 (T kf).2.1 (T kf).2.2.1 ∈ lw_tbl ∧ ∀ w ∈ u_ws C0 T N0, w ∈ lw_tbl
/-- .. and that it may be written -/
def gj_pok (own : String) (ix ci kf : Nat) (ty : FieldType) (fin : Bool) : Prop := ∃ (C0 : String) (T : u_T) (N0 : Nat) (t0 : Nat → FieldType), gj_cl[ci]? = some (C0, T, N0) ∧ kf < N0 ∧ Cond.fieldLink own ix (T kf).1 (T kf).2.1 (T kf).2.2.1 ∈ lw_tbl ∧ (∀ w ∈ u_ws C0 T N0, w ∈ lw_tbl) ∧
  (∀ k, k < N0 → parseFieldDescriptor (T k).2.2.1 = some (t0 k)) ∧ (∀ a, a < N0 → ∀ b, b < N0 → a ≠ b → (T a).2.1 ≠ (T b).2.1) ∧ parseFieldDescriptor (T kf).2.2.1 = some ty ∧ (T kf).2.2.2 = fin ∧ (fin = true → (T kf).1 = own)
theorem gj_lays {md : gj_M} {p : Program} {l : Launch} {s : State} {m : MethodId} {meth : Method} {c : Code} {s0 : State} {a0 args : Array Value} (cx : gj_Cx md p l s m meth c s0 a0) {C0 : String} {T : u_T} {N0 : Nat} (h : ∀ w ∈ u_ws C0 T N0, w ∈ lw_tbl) : ∀ w ∈ u_ws C0 T N0, w.before args s = true := by
  intro w hw
  refine gj_word cx (h w hw) ?_
  obtain ⟨k, -, rfl⟩ := List.mem_map.mp hw
  unfold u_lay
  split <;> rfl
section
variable {md : gj_M} {d K N k w pc : Nat} {lc : List (Nat × Value)} {st : List Value} {n : Nat} {C : Nat → va_E} {Q : gj_R → Prop}
theorem gj_get {ix ci kf x : Nat} {fs : List Value} {v : Value} (hd : decode md.2.1 pc = .ok (.getfield ix, 3)) (hf : gj_fok md.1.cls ix ci kf) (hc : C x = .inr (ci, fs)) (hv : fs[kf]? = some v) (kk : gj_G md d K N k w (pc + 3) lc (v :: st) n C Q) : gj_G md d K N k w pc lc (.ref x :: st) n C Q := by
  intro p l e R s m args below meth c s0 a0 dC dI dA H locs ad ls cx ro hK hP hD hS oC sc ol hl
  obtain ⟨C0, T, N0, h1, h2, h3, h4⟩ := hf
  have hx0 := gj_ne0i sc hc
  have hxn : x ≤ n := ol.2 (.ref x) List.mem_cons_self
  have hvn : gj_ov n v := by
    have := oC x hxn
    rw [hc] at this
    exact this v (List.mem_of_getElem? hv)
  exact va_get (D := (dC, dI)) (cl := gj_cl) cx.1 cx.2.1 (gj_lays cx h4) (fun _ h => h) cx.2.2.2.2.2.2.2.2.1 (va_K.moved cx.2.2.2.2.1.alike hK) hP (x - 1) (gj_wsi hx0 hxn hc) h1 kf h2 (gj_word cx h3 rfl) (fun _ h => h) (v := gj_tv ad v) (by rw [List.getElem?_map, hv]; rfl) hd
    (kk p l e R s m args below meth c s0 a0 dC dI dA H locs ad ls cx ro hK hP hD hS oC sc (gj_ol_push (gj_ol_pop ol) hvn) hl)
theorem gj_put {ix ci kf x : Nat} {fs : List Value} {v : Value} {ty : FieldType} (hd : decode md.2.1 pc = .ok (.putfield ix, 3)) (hf : gj_pok md.1.cls ix ci kf ty false) (hc : C x = .inr (ci, fs)) (hv : kf < fs.length) (hn : ∀ ad, narrow ty (gj_tv ad v) = gj_tv ad v) (hfit : ∀ ad, fits ty (gj_tv ad v) = true) (kk : gj_G md d K N k w (pc + 3) lc st n (va_up C x (.inr (ci, fs.set kf v))) Q) : gj_G md d K N k w pc lc (v :: .ref x :: st) n C Q := by
  intro p l e R s m args below meth c s0 a0 dC dI dA H locs ad ls cx ro hK hP hD hS oC sc ol hl
  obtain ⟨C0, T, N0, t0, h1, h2, h3, h4, h5, h6, h7, h8, -⟩ := hf
  have hx0 := gj_ne0i sc hc
  have hxn : x ≤ n := ol.2 (.ref x) (List.mem_cons_of_mem _ List.mem_cons_self)
  have he : gj_oe n (.inr (ci, fs.set kf v)) := by
    have := oC x hxn
    rw [hc] at this
    intro u hu
    rcases List.mem_or_eq_of_mem_set hu with h | h
    · exact this u h
    · rw [h]; exact ol.2 v List.mem_cons_self
  have e9 : (gj_ws dA ad n C).set (x - 1) (ad x, .inr (ci, (fs.map (gj_tv ad)).set kf (gj_tv ad v))) = gj_ws dA ad n (va_up C x (.inr (ci, fs.set kf v))) := by
    rw [← gj_ws_set _ hx0, ← List.map_set]
    rfl
  refine va_put (D := (dC, dI)) (cl := gj_cl) cx.1 cx.2.1 (gj_lays cx h4) (fun _ h => h) t0 h5 h6 cx.2.2.2.2.2.2.2.2.1 (va_K.moved cx.2.2.2.2.1.alike hK) hP hD hS (x - 1) (gj_wsi hx0 hxn hc) h1 kf h2 (gj_word cx h3 rfl) (fun _ h => h) h8 (v := gj_tv ad v) h7 (hn ad) (hfit ad) (by rw [List.length_map]; exact hv) hd (fun H1 locs1 hP1 hD1 hS1 => ?_)
  rw [e9] at hP1 hD1
  have := kk p l e R s m args below meth c s0 a0 dC dI dA H1 locs1 ad ls cx ro hK hP1 hD1 hS1 (gj_oC_up oC he) (by rw [gj_up0 hx0]; exact sc) (gj_ol_pop (gj_ol_pop ol)) hl
  rw [gj_up0 hx0] at this
  exact this
theorem gj_putF {ix ci kf x : Nat} {fs : List Value} {v : Value} {ty : FieldType} (hd : decode md.2.1 pc = .ok (.putfield ix, 3)) (hf : gj_pok md.1.cls ix ci kf ty true) (hin : md.1.name = "<init>") (hc : C x = .inr (ci, fs)) (hv : kf < fs.length) (hn : ∀ ad, narrow ty (gj_tv ad v) = gj_tv ad v) (hfit : ∀ ad, fits ty (gj_tv ad v) = true) (kk : gj_G md d K N k w (pc + 3) lc st n (va_up C x (.inr (ci, fs.set kf v))) Q) : gj_G md d K N k w pc lc (v :: .ref x :: st) n C Q := by
  intro p l e R s m args below meth c s0 a0 dC dI dA H locs ad ls cx ro hK hP hD hS oC sc ol hl
  obtain ⟨C0, T, N0, t0, h1, h2, h3, h4, h5, h6, h7, h8, h9⟩ := hf
  have hx0 := gj_ne0i sc hc
  have hxn : x ≤ n := ol.2 (.ref x) (List.mem_cons_of_mem _ List.mem_cons_self)
  have he : gj_oe n (.inr (ci, fs.set kf v)) := by
    have := oC x hxn
    rw [hc] at this
    intro u hu
    rcases List.mem_or_eq_of_mem_set hu with h | h
    · exact this u h
    · rw [h]; exact ol.2 v List.mem_cons_self
  have e9 : (gj_ws dA ad n C).set (x - 1) (ad x, .inr (ci, (fs.map (gj_tv ad)).set kf (gj_tv ad v))) = gj_ws dA ad n (va_up C x (.inr (ci, fs.set kf v))) := by
    rw [← gj_ws_set _ hx0, ← List.map_set]
    rfl
  refine va_putF (D := (dC, dI)) (cl := gj_cl) cx.1 cx.2.1 (gj_lays cx h4) (fun _ h => h) t0 h5 h6 cx.2.2.2.2.2.2.2.2.1 (va_K.moved cx.2.2.2.2.1.alike hK) hP hD hS (x - 1) (gj_wsi hx0 hxn hc) h1 kf h2 (gj_word cx h3 rfl) (fun _ h => h) h8 (cx.2.2.2.2.2.2.2.2.2.2.1.trans hin) (h9 rfl) (v := gj_tv ad v) h7 (hn ad) (hfit ad) (by rw [List.length_map]; exact hv) hd (fun H1 locs1 hP1 hD1 hS1 => ?_)
  rw [e9] at hP1 hD1
  have := kk p l e R s m args below meth c s0 a0 dC dI dA H1 locs1 ad ls cx ro hK hP1 hD1 hS1 (gj_oC_up oC he) (by rw [gj_up0 hx0]; exact sc) (gj_ol_pop (gj_ol_pop ol)) hl
  rw [gj_up0 hx0] at this
  exact this
theorem gj_iald {x kA len : Nat} {f : Nat → Int32} {i : Int32} (hd : decode md.2.1 pc = .ok (.iaload, 1)) (hc : C x = .inl (kA, len, .inl f)) (ha : gj_at[kA]? = some .int) (hi : vp_in i len) (kk : gj_G md d K N k w (pc + 1) lc (.int (f i.toNatClampNeg) :: st) n C Q) : gj_G md d K N k w pc lc (.int i :: .ref x :: st) n C Q := by
  intro p l e R s m args below meth c s0 a0 dC dI dA H locs ad ls cx ro hK hP hD hS oC sc ol hl
  have hxn : x ≤ n := ol.2 (.ref x) (List.mem_cons_of_mem _ List.mem_cons_self)
  exact va_iald (D := (dC, dI)) (cl := gj_cl) cx.1 cx.2.1 (va_K.moved cx.2.2.2.2.1.alike hK) hP (x - 1) kA (gj_wsa (gj_ne0a sc hc ha) hxn hc) (gj_tys_at ha) hi hd
    (kk p l e R s m args below meth c s0 a0 dC dI dA H locs ad ls cx ro hK hP hD hS oC sc (gj_ol_push (gj_ol_pop (gj_ol_pop ol)) trivial) hl)
theorem gj_zald {x kA len : Nat} {f : Nat → Int32} {i : Int32} (hd : decode md.2.1 pc = .ok (.baload, 1)) (hc : C x = .inl (kA, len, .inl f)) (ha : gj_at[kA]? = some .boolean) (hi : vp_in i len) (kk : gj_G md d K N k w (pc + 1) lc (.int (f i.toNatClampNeg) :: st) n C Q) : gj_G md d K N k w pc lc (.int i :: .ref x :: st) n C Q := by
  intro p l e R s m args below meth c s0 a0 dC dI dA H locs ad ls cx ro hK hP hD hS oC sc ol hl
  have hxn : x ≤ n := ol.2 (.ref x) (List.mem_cons_of_mem _ List.mem_cons_self)
  exact va_zald (D := (dC, dI)) (cl := gj_cl) cx.1 cx.2.1 (va_K.moved cx.2.2.2.2.1.alike hK) hP (x - 1) kA (gj_wsa (gj_ne0a sc hc ha) hxn hc) (gj_tys_at ha) hi hd
    (kk p l e R s m args below meth c s0 a0 dC dI dA H locs ad ls cx ro hK hP hD hS oC sc (gj_ol_push (gj_ol_pop (gj_ol_pop ol)) trivial) hl)
theorem gj_lald {x kA len : Nat} {f : Nat → Int64} {i : Int32} (hd : decode md.2.1 pc = .ok (.laload, 1)) (hc : C x = .inl (kA, len, .inr (.inl f))) (ha : gj_at[kA]? = some .long) (hi : vp_in i len) (kk : gj_G md d K N k w (pc + 1) lc (.long (f i.toNatClampNeg) :: st) n C Q) : gj_G md d K N k w pc lc (.int i :: .ref x :: st) n C Q := by
  intro p l e R s m args below meth c s0 a0 dC dI dA H locs ad ls cx ro hK hP hD hS oC sc ol hl
  have hxn : x ≤ n := ol.2 (.ref x) (List.mem_cons_of_mem _ List.mem_cons_self)
  exact va_lald (D := (dC, dI)) (cl := gj_cl) cx.1 cx.2.1 (va_K.moved cx.2.2.2.2.1.alike hK) hP (x - 1) kA (gj_wsa (gj_ne0a sc hc ha) hxn hc) (gj_tys_at ha) hi hd
    (kk p l e R s m args below meth c s0 a0 dC dI dA H locs ad ls cx ro hK hP hD hS oC sc (gj_ol_push (gj_ol_pop (gj_ol_pop ol)) trivial) hl)
theorem gj_rf (ad : Nat → Nat) (o : Option Nat) : gj_tv ad (va_rf o) = va_rf (o.map ad) := by cases o <;> rfl
theorem gj_aald {x kA len : Nat} {f : Nat → Option Nat} {i : Int32} {C0 : String} (hd : decode md.2.1 pc = .ok (.aaload, 1)) (hc : C x = .inl (kA, len, .inr (.inr (.inr (.inr f))))) (ha : gj_at[kA]? = some (.object C0)) (hi : vp_in i len) (kk : gj_G md d K N k w (pc + 1) lc (va_rf (f i.toNatClampNeg) :: st) n C Q) : gj_G md d K N k w pc lc (.int i :: .ref x :: st) n C Q := by
  intro p l e R s m args below meth c s0 a0 dC dI dA H locs ad ls cx ro hK hP hD hS oC sc ol hl
  have hxn : x ≤ n := ol.2 (.ref x) (List.mem_cons_of_mem _ List.mem_cons_self)
  have hvn : gj_ov n (va_rf (f i.toNatClampNeg)) := by
    have := oC x hxn
    rw [hc] at this
    cases hf : f i.toNatClampNeg with
    | none => trivial
    | some y => exact this _ _ hf
  have := kk p l e R s m args below meth c s0 a0 dC dI dA H locs ad ls cx ro hK hP hD hS oC sc (gj_ol_push (gj_ol_pop (gj_ol_pop ol)) hvn) hl
  rw [List.map_cons, gj_rf] at this
  exact va_aldq (D := (dC, dI)) (cl := gj_cl) cx.1 cx.2.1 (va_K.moved cx.2.2.2.2.1.alike hK) hP (x - 1) kA (gj_wsa (gj_ne0a sc hc ha) hxn hc) (gj_tys_at ha) hi hd this
theorem gj_iast {x kA len : Nat} {f : Nat → Int32} {i v : Int32} (hd : decode md.2.1 pc = .ok (.iastore, 1)) (hc : C x = .inl (kA, len, .inl f)) (ha : gj_at[kA]? = some .int) (hi : vp_in i len) (kk : gj_G md d K N k w (pc + 1) lc st n (va_up C x (.inl (kA, len, .inl (upd f i.toNatClampNeg v)))) Q) : gj_G md d K N k w pc lc (.int v :: .int i :: .ref x :: st) n C Q := by
  intro p l e R s m args below meth c s0 a0 dC dI dA H locs ad ls cx ro hK hP hD hS oC sc ol hl
  have hxn : x ≤ n := ol.2 (.ref x) (List.mem_cons_of_mem _ (List.mem_cons_of_mem _ List.mem_cons_self))
  have hx0 := gj_ne0a sc hc ha
  refine va_iast (D := (dC, dI)) (cl := gj_cl) cx.1 cx.2.1 (va_K.moved cx.2.2.2.2.1.alike hK) hP hD hS (x - 1) kA (gj_wsa hx0 hxn hc) (gj_tys_at ha) hi hd (fun H1 locs1 hP1 hD1 hS1 => ?_)
  have e9 := gj_ws_set (dA := dA) (ad := ad) (n := n) (C := C) (.inl (kA, len, .inl (upd f i.toNatClampNeg v))) hx0
  have hP1 : va_P (dC, dI) gj_cl ((gj_ws dA ad n C).set (x - 1) (ad x, gj_te dA ad (.inl (kA, len, .inl (upd f i.toNatClampNeg v))))) H1 := hP1
  have hD1 : va_D (fun q : Nat => s0.heap.size ≤ q) ((gj_ws dA ad n C).set (x - 1) (ad x, gj_te dA ad (.inl (kA, len, .inl (upd f i.toNatClampNeg v))))) := hD1
  rw [e9] at hP1 hD1
  have := kk p l e R s m args below meth c s0 a0 dC dI dA H1 locs1 ad ls cx ro hK hP1 hD1 hS1 (gj_oC_up oC trivial) (by rw [gj_up0 hx0]; exact sc) (gj_ol_pop (gj_ol_pop (gj_ol_pop ol))) hl
  rw [gj_up0 hx0] at this
  exact this
theorem gj_zast {x kA len : Nat} {f : Nat → Int32} {i v : Int32} (hd : decode md.2.1 pc = .ok (.bastore, 1)) (hc : C x = .inl (kA, len, .inl f)) (ha : gj_at[kA]? = some .boolean) (hi : vp_in i len) (kk : gj_G md d K N k w (pc + 1) lc st n (va_up C x (.inl (kA, len, .inl (upd f i.toNatClampNeg (vp_nar .boolean v))))) Q) : gj_G md d K N k w pc lc (.int v :: .int i :: .ref x :: st) n C Q := by
  intro p l e R s m args below meth c s0 a0 dC dI dA H locs ad ls cx ro hK hP hD hS oC sc ol hl
  have hxn : x ≤ n := ol.2 (.ref x) (List.mem_cons_of_mem _ (List.mem_cons_of_mem _ List.mem_cons_self))
  have hx0 := gj_ne0a sc hc ha
  refine va_zast (D := (dC, dI)) (cl := gj_cl) cx.1 cx.2.1 (va_K.moved cx.2.2.2.2.1.alike hK) hP hD hS (x - 1) kA (gj_wsa hx0 hxn hc) (gj_tys_at ha) hi hd (fun H1 locs1 hP1 hD1 hS1 => ?_)
  have e9 := gj_ws_set (dA := dA) (ad := ad) (n := n) (C := C) (.inl (kA, len, .inl (upd f i.toNatClampNeg (vp_nar .boolean v)))) hx0
  have hP1 : va_P (dC, dI) gj_cl ((gj_ws dA ad n C).set (x - 1) (ad x, gj_te dA ad (.inl (kA, len, .inl (upd f i.toNatClampNeg (vp_nar .boolean v)))))) H1 := hP1
  have hD1 : va_D (fun q : Nat => s0.heap.size ≤ q) ((gj_ws dA ad n C).set (x - 1) (ad x, gj_te dA ad (.inl (kA, len, .inl (upd f i.toNatClampNeg (vp_nar .boolean v)))))) := hD1
  rw [e9] at hP1 hD1
  have := kk p l e R s m args below meth c s0 a0 dC dI dA H1 locs1 ad ls cx ro hK hP1 hD1 hS1 (gj_oC_up oC trivial) (by rw [gj_up0 hx0]; exact sc) (gj_ol_pop (gj_ol_pop (gj_ol_pop ol))) hl
  rw [gj_up0 hx0] at this
  exact this
theorem gj_last {x kA len : Nat} {f : Nat → Int64} {i : Int32} {v : Int64} (hd : decode md.2.1 pc = .ok (.lastore, 1)) (hc : C x = .inl (kA, len, .inr (.inl f))) (ha : gj_at[kA]? = some .long) (hi : vp_in i len) (kk : gj_G md d K N k w (pc + 1) lc st n (va_up C x (.inl (kA, len, .inr (.inl (vp_updL f i.toNatClampNeg v))))) Q) : gj_G md d K N k w pc lc (.long v :: .int i :: .ref x :: st) n C Q := by
  intro p l e R s m args below meth c s0 a0 dC dI dA H locs ad ls cx ro hK hP hD hS oC sc ol hl
  have hxn : x ≤ n := ol.2 (.ref x) (List.mem_cons_of_mem _ (List.mem_cons_of_mem _ List.mem_cons_self))
  have hx0 := gj_ne0a sc hc ha
  refine va_last (D := (dC, dI)) (cl := gj_cl) cx.1 cx.2.1 (va_K.moved cx.2.2.2.2.1.alike hK) hP hD hS (x - 1) kA (gj_wsa hx0 hxn hc) (gj_tys_at ha) hi hd (fun H1 locs1 hP1 hD1 hS1 => ?_)
  have e9 := gj_ws_set (dA := dA) (ad := ad) (n := n) (C := C) (.inl (kA, len, .inr (.inl (vp_updL f i.toNatClampNeg v)))) hx0
  have hP1 : va_P (dC, dI) gj_cl ((gj_ws dA ad n C).set (x - 1) (ad x, gj_te dA ad (.inl (kA, len, .inr (.inl (vp_updL f i.toNatClampNeg v)))))) H1 := hP1
  have hD1 : va_D (fun q : Nat => s0.heap.size ≤ q) ((gj_ws dA ad n C).set (x - 1) (ad x, gj_te dA ad (.inl (kA, len, .inr (.inl (vp_updL f i.toNatClampNeg v)))))) := hD1
  rw [e9] at hP1 hD1
  have := kk p l e R s m args below meth c s0 a0 dC dI dA H1 locs1 ad ls cx ro hK hP1 hD1 hS1 (gj_oC_up oC trivial) (by rw [gj_up0 hx0]; exact sc) (gj_ol_pop (gj_ol_pop (gj_ol_pop ol))) hl
  rw [gj_up0 hx0] at this
  exact this
theorem gj_upm (ad : Nat → Nat) (f : Nat → Option Nat) (j : Nat) (o : Option Nat) : (fun i => (va_up f j o i).map ad) = va_up (fun i => (f i).map ad) j (o.map ad) := by
  funext i
  unfold va_up
  split <;> rfl
theorem gj_oxq {n j y : Nat} {f : Nat → Option Nat} (h : ∀ j y, f j = some y → y ≤ n) (hy : y ≤ n) : ∀ i z, va_up f j (some y) i = some z → z ≤ n := by
  intro i z hz
  unfold va_up at hz
  split at hz
  · cases hz; exact hy
  · exact h i z hz
theorem gj_oxn {n j : Nat} {f : Nat → Option Nat} (h : ∀ j y, f j = some y → y ≤ n) : ∀ i z, va_up f j none i = some z → z ≤ n := by
  intro i z hz
  unfold va_up at hz
  split at hz
  · cases hz
  · exact h i z hz
theorem gj_aast {x y kA len cv : Nat} {f : Nat → Option Nat} {i : Int32} {r : vw_C} {vs : List Value} (hd : decode md.2.1 pc = .ok (.aastore, 1)) (hc : C x = .inl (kA, len, .inr (.inr (.inr (.inr f))))) (hv : C y = .inr (cv, vs)) (hr : gj_cl[cv]? = some r) (ha : gj_at[kA]? = some (.object r.1)) (hi : vp_in i len) (kk : gj_G md d K N k w (pc + 1) lc st n (va_up C x (.inl (kA, len, .inr (.inr (.inr (.inr (va_up f i.toNatClampNeg (some y)))))))) Q) : gj_G md d K N k w pc lc (.ref y :: .int i :: .ref x :: st) n C Q := by
  intro p l e R s m args below meth c s0 a0 dC dI dA H locs ad ls cx ro hK hP hD hS oC sc ol hl
  have hxn : x ≤ n := ol.2 (.ref x) (List.mem_cons_of_mem _ (List.mem_cons_of_mem _ List.mem_cons_self))
  have hyn : y ≤ n := ol.2 (.ref y) List.mem_cons_self
  have hx0 := gj_ne0a sc hc ha
  have hy0 := gj_ne0i sc hv
  have hox : ∀ j y, f j = some y → y ≤ n := by
    have := oC x hxn
    rw [hc] at this
    exact this
  refine va_astq (D := (dC, dI)) (cl := gj_cl) cx.1 cx.2.1 (va_K.moved cx.2.2.2.2.1.alike hK) hP hD hS (x - 1) kA (y - 1) cv (gj_wsa hx0 hxn hc) (gj_tys_at ha) (gj_wsi hy0 hyn hv) hr hi hd (fun H1 locs1 hP1 hD1 hS1 => ?_)
  have e9 := gj_ws_set (dA := dA) (ad := ad) (n := n) (C := C) (.inl (kA, len, .inr (.inr (.inr (.inr (va_up f i.toNatClampNeg (some y))))))) hx0
  have e8 : gj_te dA ad (.inl (kA, len, .inr (.inr (.inr (.inr (va_up f i.toNatClampNeg (some y))))))) = .inl (dA kA, len, .inr (.inr (.inr (.inr (va_up (fun j => (f j).map ad) i.toNatClampNeg (some (ad y))))))) := by
    show (Sum.inl (dA kA, len, Sum.inr (Sum.inr (Sum.inr (Sum.inr (fun j => (va_up f i.toNatClampNeg (some y) j).map ad))))) : va_E) = _
    rw [gj_upm]
    rfl
  rw [e8] at e9
  rw [e9] at hP1 hD1
  have := kk p l e R s m args below meth c s0 a0 dC dI dA H1 locs1 ad ls cx ro hK hP1 hD1 hS1 (gj_oC_up oC (gj_oxq hox hyn)) (by rw [gj_up0 hx0]; exact sc) (gj_ol_pop (gj_ol_pop (gj_ol_pop ol))) hl
  rw [gj_up0 hx0] at this
  exact this
theorem gj_aastN {x kA len : Nat} {f : Nat → Option Nat} {i : Int32} {C0 : String} (hd : decode md.2.1 pc = .ok (.aastore, 1)) (hc : C x = .inl (kA, len, .inr (.inr (.inr (.inr f))))) (ha : gj_at[kA]? = some (.object C0)) (hi : vp_in i len) (kk : gj_G md d K N k w (pc + 1) lc st n (va_up C x (.inl (kA, len, .inr (.inr (.inr (.inr (va_up f i.toNatClampNeg none))))))) Q) : gj_G md d K N k w pc lc (.null :: .int i :: .ref x :: st) n C Q := by
  intro p l e R s m args below meth c s0 a0 dC dI dA H locs ad ls cx ro hK hP hD hS oC sc ol hl
  have hxn : x ≤ n := ol.2 (.ref x) (List.mem_cons_of_mem _ (List.mem_cons_of_mem _ List.mem_cons_self))
  have hx0 := gj_ne0a sc hc ha
  have hox : ∀ j y, f j = some y → y ≤ n := by
    have := oC x hxn
    rw [hc] at this
    exact this
  refine va_astqN (D := (dC, dI)) (cl := gj_cl) cx.1 cx.2.1 (va_K.moved cx.2.2.2.2.1.alike hK) hP hD hS (x - 1) kA (gj_wsa hx0 hxn hc) (gj_tys_at ha) hi hd (fun H1 locs1 hP1 hD1 hS1 => ?_)
  have e9 := gj_ws_set (dA := dA) (ad := ad) (n := n) (C := C) (.inl (kA, len, .inr (.inr (.inr (.inr (va_up f i.toNatClampNeg none)))))) hx0
  have e8 : gj_te dA ad (.inl (kA, len, .inr (.inr (.inr (.inr (va_up f i.toNatClampNeg none)))))) = .inl (dA kA, len, .inr (.inr (.inr (.inr (va_up (fun j => (f j).map ad) i.toNatClampNeg none))))) := by
    show (Sum.inl (dA kA, len, Sum.inr (Sum.inr (Sum.inr (Sum.inr (fun j => (va_up f i.toNatClampNeg none j).map ad))))) : va_E) = _
    rw [gj_upm]
    rfl
  rw [e8] at e9
  rw [e9] at hP1 hD1
  have := kk p l e R s m args below meth c s0 a0 dC dI dA H1 locs1 ad ls cx ro hK hP1 hD1 hS1 (gj_oC_up oC (gj_oxn hox)) (by rw [gj_up0 hx0]; exact sc) (gj_ol_pop (gj_ol_pop (gj_ol_pop ol))) hl
  rw [gj_up0 hx0] at this
  exact this
theorem gj_alen {x kA len : Nat} {a : gj_X} {ty : FieldType} (hd : decode md.2.1 pc = .ok (.arraylength, 1)) (hc : C x = .inl (kA, len, a)) (ha : gj_at[kA]? = some ty) (kk : gj_G md d K N k w (pc + 1) lc (.int (Int32.ofNat len) :: st) n C Q) : gj_G md d K N k w pc lc (.ref x :: st) n C Q := by
  intro p l e R s m args below meth c s0 a0 dC dI dA H locs ad ls cx ro hK hP hD hS oC sc ol hl
  have hxn : x ≤ n := ol.2 (.ref x) List.mem_cons_self
  exact va_alen (D := (dC, dI)) (cl := gj_cl) cx.1 cx.2.1 (va_K.moved cx.2.2.2.2.1.alike hK) hP (x - 1) kA (gj_wsa (gj_ne0a sc hc ha) hxn hc) (gj_tys_at ha) rfl hd
    (kk p l e R s m args below meth c s0 a0 dC dI dA H locs ad ls cx ro hK hP hD hS oC sc (gj_ol_push (gj_ol_pop ol) trivial) hl)
/-- the script's ints and length -/
theorem gj_xS {p : Program} {l : Launch} {s : State} {m : MethodId} {meth : Method} {c : Code} {s0 : State} {a0 : Array Value} {b L : Nat} {xs : Nat → Int32} (cx : gj_Cx md p l s m meth c s0 a0) (h : va_X b L xs s0 s0.heap) (hb : b < s0.heap.size) : va_X b L xs s s.heap :=
  (va_X.moved cx.2.2.2.2.1.alike h).kept (cx.2.2.2.2.2.1.2 b hb)
theorem gj_sld {L : Nat} {xs : Nat → Int32} {i : Int32} (hd : decode md.2.1 pc = .ok (.iaload, 1)) (hc : C 0 = .inl (999, L, .inl xs)) (hi : vp_in i L) (kk : gj_G md d K N k w (pc + 1) lc (.int (xs i.toNatClampNeg) :: st) n C Q) : gj_G md d K N k w pc lc (.int i :: .ref 0 :: st) n C Q := by
  intro p l e R s m args below meth c s0 a0 dC dI dA H locs ad ls cx ro hK hP hD hS oC sc ol hl
  obtain ⟨L', xs', h1, h2, h3⟩ := id sc
  rw [hc] at h1
  cases h1
  exact va_sld cx.1 cx.2.1 (gj_xS cx h2 h3) (Nat.lt_of_lt_of_le h3 cx.2.2.2.2.2.1.1) (Nat.not_le.mpr h3) hS hi hd
    (kk p l e R s m args below meth c s0 a0 dC dI dA H locs ad ls cx ro hK hP hD hS oC sc (gj_ol_push (gj_ol_pop (gj_ol_pop ol)) trivial) hl)
theorem gj_slen {L : Nat} {xs : Nat → Int32} (hd : decode md.2.1 pc = .ok (.arraylength, 1)) (hc : C 0 = .inl (999, L, .inl xs)) (kk : gj_G md d K N k w (pc + 1) lc (.int (Int32.ofNat L) :: st) n C Q) : gj_G md d K N k w pc lc (.ref 0 :: st) n C Q := by
  intro p l e R s m args below meth c s0 a0 dC dI dA H locs ad ls cx ro hK hP hD hS oC sc ol hl
  obtain ⟨L', xs', h1, h2, h3⟩ := id sc
  rw [hc] at h1
  cases h1
  exact va_slen cx.1 cx.2.1 (gj_xS cx h2 h3) (Nat.lt_of_lt_of_le h3 cx.2.2.2.2.2.1.1) (Nat.not_le.mpr h3) hS hd
    (kk p l e R s m args below meth c s0 a0 dC dI dA H locs ad ls cx ro hK hP hD hS oC sc (gj_ol_push (gj_ol_pop ol) trivial) hl)
end
end
section
/-! MAKING: a new cell takes the next label -/
section
variable {md : gj_M} {d K N k w pc : Nat} {lc : List (Nat × Value)} {st : List Value} {n : Nat} {C : Nat → va_E} {Q : gj_R → Prop}
theorem gj_grow {p : Program} {l : Launch} {e : Env} {R : Room} {s : State} {m : MethodId} {args : Array Value} {below : List Frame} {meth : Method} {c : Code} {s0 : State} {a0 : Array Value} {dC : Nat → ClassId} {dI : Nat → Nat → Nat} {dA : Nat → ClassId} {H1 : Heap} {locs : List Loc} {ad : Nat → Nat} {ls : Array Slot} {q : Nat} {ne : va_E}
    (kk : gj_G md d K N k w pc lc (.ref (n + 1) :: st) (n + 1) (va_up C (n + 1) ne) Q) (cx : gj_Cx md p l s m meth c s0 a0) (ro : gj_ro d K N R) (hK : va_K (dC, dI) gj_cl (gj_tys dA) s0)
    (hP : va_P (dC, dI) gj_cl (gj_ws dA ad n C ++ [(q, gj_te dA ad ne)]) H1) (hD : va_D (fun q : Nat => s0.heap.size ≤ q) (gj_ws dA ad n C ++ [(q, gj_te dA ad ne)])) (hS : va_S (fun q : Nat => s0.heap.size ≤ q) s.heap H1 locs) (oC : gj_oC n C) (he : gj_oe n ne) (sc : gj_sc s0 ad (C 0)) (ol : gj_ol n lc st) (hl : lv_has ls md.2.2.1 (gj_tl ad lc)) :
    W p l e R s m args below meth c H1 locs k w (gj_E below s s0 dC dI dA ad (C 0) n K N Q) (F0 m pc ls (.ref q :: st.map (gj_tv ad))) := by
  have ha : ∀ x, x ≤ n → va_up ad (n + 1) q x = ad x := fun x hx => va_up_ne ad q (by omega)
  have h0 : va_up C (n + 1) ne 0 = C 0 := va_up_ne C ne (by omega)
  rw [gj_ws_push oC he] at hP hD
  have := kk p l e R s m args below meth c s0 a0 dC dI dA H1 locs (va_up ad (n + 1) q) ls cx ro hK hP hD hS (gj_oC_push oC (gj_oe_le (Nat.le_succ n) he)) (by
    rw [h0]
    obtain ⟨L, xs, h1, h2, h3⟩ := sc
    have h4 := ha 0 (Nat.zero_le n)
    exact ⟨L, xs, h1, by rw [h4]; exact h2, by rw [h4]; exact h3⟩) (gj_ol_push (gj_ol_le (Nat.le_succ n) ol) (Nat.le_refl (n + 1))) (by rw [gj_tl_eq ha ol.1]; exact hl)
  rw [List.map_cons, gj_ts_eq ha ol.2, show gj_tv (va_up ad (n + 1) q) (.ref (n + 1)) = .ref q from congrArg Value.ref (va_up_self ad (n + 1) q)] at this
  exact gj_Wm this (gj_E_mono (Nat.le_succ n) ha h0)
theorem gj_newI {z : Int32} {kA len : Nat} (hd : decode md.2.1 pc = .ok (.newarray .int, 2)) (hw : Cond.arrayClass .int ∈ lw_tbl) (ha : gj_at[kA]? = some .int) (hz : ¬ z < 0) (hl : z.toNatClampNeg = len) (hb : len * 4 ≤ 536870912) (hk : k + 1 ≤ K) (hn : w + len ≤ N)
    (kk : gj_G md d K N (k + 1) (w + len) (pc + 2) lc (.ref (n + 1) :: st) (n + 1) (va_up C (n + 1) (.inl (kA, len, .inl (fun _ => 0)))) Q) : gj_G md d K N k w pc lc (.int z :: st) n C Q := by
  intro p l e R s m args below meth c s0 a0 dC dI dA H locs ad ls cx ro hK hP hD hS oC sc ol hl2
  have hKs := va_K.moved cx.2.2.2.2.1.alike hK
  refine va_newa (atype := .int) (ty := .int) (D := (dC, dI)) (cl := gj_cl) (a0 := (len, .inl (fun _ => 0))) cx.1 cx.2.1 (gj_word cx hw rfl) rfl hKs hP hD hS (fun q hq => Nat.le_trans cx.2.2.2.2.2.1.1 hq) (fun _ => rfl) hz hl hb (Nat.le_trans hk ro.2.2.1) (Nat.le_trans hn ro.2.2.2) hd (fun q cA H1 hK1 hP1 hD1 hS1 => ?_)
  have e1 : s.vm.findClass ("[" ++ FieldType.int.toString) = some cA := (hK1.2 (gj_tys dA).length (cA, .int) (by simp)).2
  have e2 : s.vm.findClass ("[" ++ FieldType.int.toString) = some (dA kA) := (hKs.2 kA (dA kA, .int) (gj_tys_at ha)).2
  cases Option.some.inj (e1.symm.trans e2)
  exact gj_grow (ne := .inl (kA, len, .inl (fun _ => 0))) kk cx ro hK hP1 hD1 hS1 oC trivial sc (gj_ol_pop ol) hl2
theorem gj_newZ {z : Int32} {kA len : Nat} (hd : decode md.2.1 pc = .ok (.newarray .boolean, 2)) (hw : Cond.arrayClass .boolean ∈ lw_tbl) (ha : gj_at[kA]? = some .boolean) (hz : ¬ z < 0) (hl : z.toNatClampNeg = len) (hb : len * 1 ≤ 536870912) (hk : k + 1 ≤ K) (hn : w + len ≤ N)
    (kk : gj_G md d K N (k + 1) (w + len) (pc + 2) lc (.ref (n + 1) :: st) (n + 1) (va_up C (n + 1) (.inl (kA, len, .inl (fun _ => 0)))) Q) : gj_G md d K N k w pc lc (.int z :: st) n C Q := by
  intro p l e R s m args below meth c s0 a0 dC dI dA H locs ad ls cx ro hK hP hD hS oC sc ol hl2
  have hKs := va_K.moved cx.2.2.2.2.1.alike hK
  refine va_newa (atype := .boolean) (ty := .boolean) (D := (dC, dI)) (cl := gj_cl) (a0 := (len, .inl (fun _ => 0))) cx.1 cx.2.1 (gj_word cx hw rfl) rfl hKs hP hD hS (fun q hq => Nat.le_trans cx.2.2.2.2.2.1.1 hq) (fun _ => rfl) hz hl hb (Nat.le_trans hk ro.2.2.1) (Nat.le_trans hn ro.2.2.2) hd (fun q cA H1 hK1 hP1 hD1 hS1 => ?_)
  have e1 : s.vm.findClass ("[" ++ FieldType.boolean.toString) = some cA := (hK1.2 (gj_tys dA).length (cA, .boolean) (by simp)).2
  have e2 : s.vm.findClass ("[" ++ FieldType.boolean.toString) = some (dA kA) := (hKs.2 kA (dA kA, .boolean) (gj_tys_at ha)).2
  cases Option.some.inj (e1.symm.trans e2)
  exact gj_grow (ne := .inl (kA, len, .inl (fun _ => 0))) kk cx ro hK hP1 hD1 hS1 oC trivial sc (gj_ol_pop ol) hl2
theorem gj_newL {z : Int32} {kA len : Nat} (hd : decode md.2.1 pc = .ok (.newarray .long, 2)) (hw : Cond.arrayClass .long ∈ lw_tbl) (ha : gj_at[kA]? = some .long) (hz : ¬ z < 0) (hl : z.toNatClampNeg = len) (hb : len * 8 ≤ 536870912) (hk : k + 1 ≤ K) (hn : w + len ≤ N)
    (kk : gj_G md d K N (k + 1) (w + len) (pc + 2) lc (.ref (n + 1) :: st) (n + 1) (va_up C (n + 1) (.inl (kA, len, .inr (.inl (fun _ => 0))))) Q) : gj_G md d K N k w pc lc (.int z :: st) n C Q := by
  intro p l e R s m args below meth c s0 a0 dC dI dA H locs ad ls cx ro hK hP hD hS oC sc ol hl2
  have hKs := va_K.moved cx.2.2.2.2.1.alike hK
  refine va_newa (atype := .long) (ty := .long) (D := (dC, dI)) (cl := gj_cl) (a0 := (len, .inr (.inl (fun _ => 0)))) cx.1 cx.2.1 (gj_word cx hw rfl) rfl hKs hP hD hS (fun q hq => Nat.le_trans cx.2.2.2.2.2.1.1 hq) (fun _ => rfl) hz hl hb (Nat.le_trans hk ro.2.2.1) (Nat.le_trans hn ro.2.2.2) hd (fun q cA H1 hK1 hP1 hD1 hS1 => ?_)
  have e1 : s.vm.findClass ("[" ++ FieldType.long.toString) = some cA := (hK1.2 (gj_tys dA).length (cA, .long) (by simp)).2
  have e2 : s.vm.findClass ("[" ++ FieldType.long.toString) = some (dA kA) := (hKs.2 kA (dA kA, .long) (gj_tys_at ha)).2
  cases Option.some.inj (e1.symm.trans e2)
  exact gj_grow (ne := .inl (kA, len, .inr (.inl (fun _ => 0)))) kk cx ro hK hP1 hD1 hS1 oC trivial sc (gj_ol_pop ol) hl2
theorem gj_newQ {z : Int32} {kA len ix : Nat} {C0 : String} (hd : decode md.2.1 pc = .ok (.anewarray ix, 3)) (hw : Cond.classLink md.1.cls ix C0 ∈ lw_tbl) (hw2 : Cond.arrayOver (.object C0) ∈ lw_tbl) (ha : gj_at[kA]? = some (.object C0)) (hz : ¬ z < 0) (hl : z.toNatClampNeg = len) (hb : len * 4 ≤ 536870912) (hk : k + 1 ≤ K) (hn : w + len ≤ N)
    (kk : gj_G md d K N (k + 1) (w + len) (pc + 3) lc (.ref (n + 1) :: st) (n + 1) (va_up C (n + 1) (.inl (kA, len, .inr (.inr (.inr (.inr (fun _ => none))))))) Q) : gj_G md d K N k w pc lc (.int z :: st) n C Q := by
  intro p l e R s m args below meth c s0 a0 dC dI dA H locs ad ls cx ro hK hP hD hS oC sc ol hl2
  have hKs := va_K.moved cx.2.2.2.2.1.alike hK
  refine va_newq (D := (dC, dI)) (cl := gj_cl) cx.1 cx.2.1 cx.2.2.2.2.2.2.2.2.1 (gj_word cx hw rfl) (va_AO.moved cx.2.2.2.2.1.alike (va_AO.of (cx.2.2.2.1.1 _ hw2))) hKs hP hD hS (fun q hq => Nat.le_trans cx.2.2.2.2.2.1.1 hq) hz hl hb (Nat.le_trans hk ro.2.2.1) (Nat.le_trans hn ro.2.2.2) hd (fun q cA H1 hK1 hP1 hD1 hS1 => ?_)
  obtain ⟨-, -, -, -, -, e1⟩ : va_RA s cA (.object C0) := (hK1.2 (gj_tys dA).length (cA, .object C0) (by simp)).2
  obtain ⟨-, -, -, -, -, e2⟩ : va_RA s (dA kA) (.object C0) := (hKs.2 kA (dA kA, .object C0) (gj_tys_at ha)).2
  cases Option.some.inj (e1.symm.trans e2)
  exact gj_grow (ne := .inl (kA, len, .inr (.inr (.inr (.inr (fun _ => none)))))) kk cx ro hK hP1 hD1 hS1 oC (fun _ _ h => nomatch h) sc (gj_ol_pop ol) hl2
/-- a class that can be made: its fields' first values -/
def gj_nok (own : String) (ix ci N0 : Nat) (fs : List Value) : Prop := ∃ (C0 : String) (T : u_T) (t0 : Nat → FieldType), gj_cl[ci]? = some (C0, T, N0) ∧ (∀ w ∈ u_ws C0 T N0, w ∈ lw_tbl) ∧ (∀ k, k < N0 → parseFieldDescriptor (T k).2.2.1 = some (t0 k)) ∧ Cond.classLink own ix C0 ∈ lw_tbl ∧ Cond.instantiable C0 N0 ∈ lw_tbl ∧ Cond.initialized C0 ∈ lw_tbl ∧
  (∀ j, j < N0 → defaultValue (t0 j) = vp_V fs j) ∧ (∀ ad, fs.map (gj_tv ad) = fs) ∧ ∀ n, gj_oe n (.inr (ci, fs))
theorem gj_new {ix ci N0 : Nat} {fs : List Value} (hd : decode md.2.1 pc = .ok (.new ix, 3)) (hf : gj_nok md.1.cls ix ci N0 fs) (hk : k + 1 ≤ K) (hn : w + N0 ≤ N)
    (kk : gj_G md d K N (k + 1) (w + N0) (pc + 3) lc (.ref (n + 1) :: st) (n + 1) (va_up C (n + 1) (.inr (ci, fs))) Q) : gj_G md d K N k w pc lc st n C Q := by
  intro p l e R s m args below meth c s0 a0 dC dI dA H locs ad ls cx ro hK hP hD hS oC sc ol hl2
  obtain ⟨C0, T, t0, h1, h2, h3, h4, h5, h6, h7, h8, h9⟩ := hf
  refine va_new (D := (dC, dI)) (cl := gj_cl) (fs := fs) cx.1 cx.2.1 (gj_lays cx h2) (fun _ h => h) t0 h3 cx.2.2.2.2.2.2.2.2.1 (gj_word cx h4 rfl) (gj_word cx h5 rfl) (gj_word cx h6 rfl) (va_K.moved cx.2.2.2.2.1.alike hK) hP hD hS (fun q hq => Nat.le_trans cx.2.2.2.2.2.1.1 hq) h1 h7 (Nat.le_trans hk ro.2.2.1) (Nat.le_trans hn ro.2.2.2) hd (fun q H1 hP1 hD1 hS1 => ?_)
  have e9 : gj_te dA ad (.inr (ci, fs)) = .inr (ci, fs) := by
    show (Sum.inr (ci, fs.map (gj_tv ad)) : va_E) = _
    rw [h8]
  exact gj_grow (ne := .inr (ci, fs)) kk cx ro hK (by rw [e9]; exact hP1) (by rw [e9]; exact hD1) hS1 oC (h9 n) sc ol hl2
theorem gj_objInit {ix x : Nat} (hd : decode md.2.1 pc = .ok (.invokespecial ix, 3)) (h1 : Cond.methodLink md.1.cls ix objectInit ∈ lw_tbl) (h2 : Cond.instanceMethod objectInit ∈ lw_tbl) (h3 : Cond.code objectInit ⟨#[0xb1]⟩ 1 none ∈ lw_tbl) (hs : (st.map fun v => v.category).sum ≤ 100) (kk : gj_G md d K N k w (pc + 3) lc st n C Q) : gj_G md d K N k w pc lc (.ref x :: st) n C Q := by
  intro p l e R s m args below meth c s0 a0 dC dI dA H locs ad ls cx ro hK hP hD hS oC sc ol hl
  exact W.objInit cx.1 cx.2.1 cx.2.2.2.2.2.2.2.2.1 (gj_word cx h1 rfl) (gj_word cx h2 rfl) (gj_word cx h3 rfl) rfl (by rw [cx.2.2.2.2.2.2.2.1]; exact hl.1) rfl hd (by have := ro.1; omega) (by
      have e1 := gj_cats ad st
      show 2 * 0 + ((st.map (gj_tv ad)).map fun v => v.category).sum + 12 ≤ R.locals
      rw [e1]
      have := ro.2.1
      omega)
    (kk p l e R s m args below meth c s0 a0 dC dI dA H locs ad ls cx ro hK hP hD hS oC sc (gj_ol_pop ol) hl)
theorem gj_max {ix : Nat} {x y : Int32} (hd : decode md.2.1 pc = .ok (.invokestatic ix, 3)) (h1 : Cond.methodLink md.1.cls ix Lib.Math.max.name ∈ lw_tbl) (h2 : Cond.static Lib.Math.max.name ∈ lw_tbl) (h3 : Cond.initialized "java/lang/Math" ∈ lw_tbl) (h4 : Cond.code Lib.Math.max.name Lib.Math.max.code 2 (some .int) ∈ lw_tbl) (hs : (st.map fun v => v.category).sum ≤ 100) (hk : k ≤ K) (hw : w ≤ N) (kk : gj_G md d K N k w (pc + 3) lc (.int (if x < y then y else x) :: st) n C Q) : gj_G md d K N k w pc lc (.int y :: .int x :: st) n C Q := by
  intro p l e R s m args below meth c s0 a0 dC dI dA H locs ad ls cx ro hK hP hD hS oC sc ol hl
  exact va_mmax cx.1 cx.2.1 (cx.2.2.2.2.2.2.2.1.trans hl.1.symm) cx.2.2.2.2.2.2.2.2.1 (gj_word cx h1 rfl) (gj_word cx h2 rfl) (gj_word cx h3 rfl) (gj_word cx h4 rfl) (by have := ro.1; omega) (by
      rw [gj_cats ad st]
      have := ro.2.1
      omega) (Nat.le_trans hk ro.2.2.1) (Nat.le_trans hw ro.2.2.2) hd
    (kk p l e R s m args below meth c s0 a0 dC dI dA H locs ad ls cx ro hK hP hD hS oC sc (gj_ol_push (gj_ol_pop (gj_ol_pop ol)) trivial) hl)
theorem gj_maxL {ix : Nat} {x y : Int64} (hd : decode md.2.1 pc = .ok (.invokestatic ix, 3)) (h1 : Cond.methodLink md.1.cls ix Lib.MathLoose.max_long.x ∈ lw_tbl) (h2 : Cond.static Lib.MathLoose.max_long.x ∈ lw_tbl) (h3 : Cond.initialized "java/lang/Math" ∈ lw_tbl) (h4 : Cond.code Lib.MathLoose.max_long.x Lib.MathLoose.max_long.code 4 (some .long) ∈ lw_tbl) (hs : (st.map fun v => v.category).sum ≤ 100) (hk : k ≤ K) (hw : w ≤ N) (kk : gj_G md d K N k w (pc + 3) lc (.long (if y < x then x else y) :: st) n C Q) : gj_G md d K N k w pc lc (.long y :: .long x :: st) n C Q := by
  intro p l e R s m args below meth c s0 a0 dC dI dA H locs ad ls cx ro hK hP hD hS oC sc ol hl
  exact va_mmax_long cx.1 cx.2.1 (cx.2.2.2.2.2.2.2.1.trans hl.1.symm) cx.2.2.2.2.2.2.2.2.1 (gj_word cx h1 rfl) (gj_word cx h2 rfl) (gj_word cx h3 rfl) (gj_word cx h4 rfl) (by have := ro.1; omega) (by
      rw [gj_cats ad st]
      have := ro.2.1
      omega) (Nat.le_trans hk ro.2.2.1) (Nat.le_trans hw ro.2.2.2) hd
    (kk p l e R s m args below meth c s0 a0 dC dI dA H locs ad ls cx ro hK hP hD hS oC sc (gj_ol_push (gj_ol_pop (gj_ol_pop ol)) trivial) hl)
end
end
section
/-! CALLS -/
/-- a method of the tables -/
def gj_mok (md : gj_M) : Prop := plainName md.1.cls = true ∧ (md.1.cls ≠ "java/lang/invoke/MethodHandle" ∧ md.1.cls ≠ "java/lang/invoke/VarHandle") ∧
  ((md.2.2.2.2 = [] ∧ Cond.code md.1 md.2.1 md.2.2.1 md.2.2.2.1 ∈ lw_tbl) ∨ Cond.codeWith md.1 md.2.1 md.2.2.1 md.2.2.2.1 md.2.2.2.2 ∈ lw_tbl)
theorem gj_meth {md me : gj_M} {p : Program} {l : Launch} {s : State} {m : MethodId} {meth : Method} {c : Code} {s0 : State} {a0 : Array Value} (cx : gj_Cx md p l s m meth c s0 a0) (hm : gj_mok me) :
    ∃ (mk : MethodId) (methk : Method) (ck : Code), s.methodNamed? me.1 = some mk ∧ s.vm.method? mk = some methk ∧ methk.code = some ck ∧ ck.code = me.2.1 ∧ ck.maxLocals = me.2.2.1 ∧ methk.sig.returnType = me.2.2.2.1 ∧ methk.locks = false ∧ ck.exceptionTable.toList = tableOf me.2.2.2.2 ∧ parseMethodDescriptor me.1.desc = some methk.sig := by
  rcases hm.2.2 with ⟨h0, h⟩ | h
  · have hc : (Cond.code me.1 me.2.1 me.2.2.1 me.2.2.2.1).before a0 s = true := gj_word cx h rfl
    obtain ⟨mk, hn⟩ := Cond.code_named hc
    obtain ⟨methk, ck, h1, h2, h3, h4, h5, h6, h7, h8⟩ := Cond.code_spec hn hc
    refine ⟨mk, methk, ck, hn, h1, h2, h3, h4, h5, h6, ?_, h8⟩
    rw [h0]
    have h9 : ck.exceptionTable.size = 0 := by simpa [Array.isEmpty] using h7
    exact List.eq_nil_of_length_eq_zero (by simpa using h9)
  · have hc : (Cond.codeWith me.1 me.2.1 me.2.2.1 me.2.2.2.1 me.2.2.2.2).before a0 s = true := gj_word cx h rfl
    obtain ⟨mk, methk, ck, hn, h1, h2, h3, h4, h5, h6, h7, h8⟩ := Cond.codeWith_spec hc
    exact ⟨mk, methk, ck, hn, h1, h2, h3, h4, h6, h7, by rw [← h5]; exact (table_eq _).symm, h8⟩
theorem gj_weaken {tb : Tables} {e : Env} {mid below : List Frame} {a b : State} (h : Steps tb e (mid ++ below) a b) : Steps tb e below a b := by
  obtain ⟨n, h1, h2⟩ := h
  exact ⟨n, h1, fun k hk => (h2 k hk).weaken⟩
section
variable {md me : gj_M} {d K N k w K1 N1 pc : Nat} {lc : List (Nat × Value)} {st rest : List Value} {n : Nat} {C : Nat → va_E} {Q Q1 : gj_R → Prop}
/-- where an exception of class E has come up at the frame's pc -/
def gj_GX (md : gj_M) (d K N k w pc : Nat) (lc : List (Nat × Value)) (E : String) (n : Nat) (C : Nat → va_E) (Q : gj_R → Prop) : Prop :=
  ∀ (p : Program) (l : Launch) (e : Env) (R : Room) (s : State) (m : MethodId) (args : Array Value) (below : List Frame) (meth : Method) (c : Code) (s0 : State) (a0 : Array Value) (dC : Nat → ClassId) (dI : Nat → Nat → Nat) (dA : Nat → ClassId) (H : Heap) (locs : List Loc) (ad : Nat → Nat) (ls : Array Slot) (rs : List Value) (q : Addr) (ce : Cell),
    gj_Cx md p l s m meth c s0 a0 → gj_ro d K N R → va_K (dC, dI) gj_cl (gj_tys dA) s0 →
    va_P (dC, dI) gj_cl (gj_ws dA ad n C) H → va_D (fun q : Nat => s0.heap.size ≤ q) (gj_ws dA ad n C) → va_S (fun q : Nat => s0.heap.size ≤ q) s.heap H locs → gj_oC n C → gj_sc s0 ad (C 0) → (∀ q ∈ lc, gj_ov n q.2) → lv_has ls md.2.2.1 (gj_tl ad lc) →
    H[q]? = some ce → ce.vm = .none → s.vm.findClass E = some ce.cls →
    ∀ T : State, T.heap = H → Stand p l e R s m args below meth c T locs k w → ∃ t, Steps p.tables e below ((T.setTop (F0 m pc ls rs)).pushFrame (.throwing q)) t ∧ gj_E below s s0 dC dI dA ad (C 0) n K N Q t
/-- the callee's walk, seen from the caller's frame g -/
theorem gj_into {p : Program} {l : Launch} {e : Env} {R : Room} {s : State} {m : MethodId} {args : Array Value} {below : List Frame} {meth : Method} {c : Code} {s0 : State} {a0 : Array Value} {dC : Nat → ClassId} {dI : Nat → Nat → Nat} {dA : Nat → ClassId} {H : Heap} {locs : List Loc} {ad : Nat → Nat} {as : List Value} {T : State} {g : JFrame} {ig : Instr} {mk : MethodId} {methk : Method} {ck : Code}
    (X : Stand p l e R s m args below meth c T locs k w) (hT : T.heap = H) (cx : gj_Cx md p l s m meth c s0 a0) (ro : gj_ro (d + 1) K N R) (hK : va_K (dC, dI) gj_cl (gj_tys dA) s0)
    (hP : va_P (dC, dI) gj_cl (gj_ws dA ad n C) H) (hD : va_D (fun q : Nat => s0.heap.size ≤ q) (gj_ws dA ad n C)) (hS : va_S (fun q : Nat => s0.heap.size ≤ q) s.heap H locs) (oC : gj_oC n C) (sc : gj_sc s0 ad (C 0)) (ov : ∀ v ∈ as, gj_ov n v)
    (hg : g.method = m) (hsize : g.locals.size = c.maxLocals) (hdg : decode c.code g.pc = .ok (ig, 3)) (hst : 2 * g.monitorRoom + (g.stack.map fun v => v.category).sum + me.2.2.1 ≤ 49)
    (hplain : plainName me.1.cls = true) (hn : s.methodNamed? me.1 = some mk) (hmk : s.vm.method? mk = some methk) (hck : methk.code = some ck) (hby : ck.code = me.2.1) (hml : ck.maxLocals = me.2.2.1) (hret : methk.sig.returnType = me.2.2.2.1) (hlk : methk.locks = false) (htb : ck.exceptionTable.toList = tableOf me.2.2.2.2)
    (hal : (lg_sl (as.map (gj_tv ad))).length ≤ me.2.2.1) (hk : k + K1 ≤ K) (hw : w + N1 ≤ N) (hG : gj_G me d K1 N1 0 0 0 (lv_args 0 as) [] n C Q1) :
    ∃ t, (∀ acts, Steps p.tables e below (doInvoke e (T.setTop g) acts mk (as.map (gj_tv ad)).toArray).1 t) ∧ gj_E (.java g :: below) (T.calling g mk (as.map (gj_tv ad)).toArray) s0 dC dI dA ad (C 0) n K1 N1 Q1 t := by
  have hTv : s.WarmedH T.vm := X.warmed
  have hpk : T.plainMethod mk := hTv.plainAt (fun k hk => by
    obtain ⟨k', hk', hn'⟩ := className_of_methodNamed hn
    cases Option.some.inj (hk.symm.trans hk')
    rw [hn']
    exact hplain)
  have hmT : T.vm.method? mk = some methk := by rw [hTv.alike.method?]; exact hmk
  obtain ⟨Y, hin⟩ := X.into hg hsize hdg (as.map (gj_tv ad)).toArray (R' := { frames := d + 8, cells := K1, slots := N1, locals := 60 * d + 200 }) hmT hck hlk hpk (by have := ro.1; show d + 8 + 1 ≤ R.frames; omega) (by have := ro.2.1; rw [hml]; show _ + (me.2.2.1 + 11) + (60 * d + 200) ≤ R.locals; omega) (Nat.le_trans hk ro.2.2.1) (Nat.le_trans hw ro.2.2.2)
  obtain ⟨hx, -, htr, hroot, hWs, h0, -⟩ := id cx
  have hh : (T.calling g mk (as.map (gj_tv ad)).toArray).heap = H := hT
  have hvm : (T.calling g mk (as.map (gj_tv ad)).toArray).vm = T.vm := rfl
  have hW2 : s0.WarmedH (T.calling g mk (as.map (gj_tv ad)).toArray).vm := by rw [hvm]; exact State.WarmedH.trans hWs hTv
  have cx2 : gj_Cx me p l (T.calling g mk (as.map (gj_tv ad)).toArray) mk methk ck s0 a0 := by
    refine ⟨hx, hby, htr, hroot, hW2, ?_, hret, hml, ?_, hlk, (name_of_methodNamed hn hmk).1, htb⟩
    · rw [hh]
      exact ⟨Nat.le_trans h0.1 hS.1, fun q hq => by rw [hS.2.1 q (Nat.lt_of_lt_of_le hq h0.1) (Nat.not_le.mpr hq)]; exact h0.2 q hq⟩
    · rw [hvm, hTv.alike.findClass]
      exact findClass_of_methodNamed hn
  have hl := lv_entry (as.map (gj_tv ad)) (n := me.2.2.1) hal
  rw [gj_args] at hl
  have := hG p l e { frames := d + 8, cells := K1, slots := N1, locals := 60 * d + 200 } (T.calling g mk (as.map (gj_tv ad)).toArray) mk (as.map (gj_tv ad)).toArray (.java g :: below) methk ck s0 a0 dC dI dA H [] ad _ cx2 ⟨Nat.le_refl _, Nat.le_refl _, Nat.le_refl _, Nat.le_refl _⟩ hK hP hD (by rw [hh]; exact va_S.rf) oC sc ⟨gj_args_ov as 0 ov, fun v hv => nomatch hv⟩ hl
  obtain ⟨t, h1, h2⟩ := this _ (show ((T.setTop g).pushFrame (.java (entryFrame mk (as.map (gj_tv ad)).toArray ck.maxLocals))).heap = H from hT) Y
  refine ⟨t, fun acts => ?_, h2⟩
  rw [hin acts]
  refine gj_weaken (mid := [.java g]) ?_
  rw [List.map_nil, ← lg_entry_eq] at h1
  rw [hml] at h1 ⊢
  exact h1
/-- how any call goes on: 'inv' is the instruction's own step -/
theorem gj_call {p : Program} {l : Launch} {e : Env} {R : Room} {s : State} {m : MethodId} {args : Array Value} {below : List Frame} {meth : Method} {c : Code} {s0 : State} {a0 : Array Value} {dC : Nat → ClassId} {dI : Nat → Nat → Nat} {dA : Nat → ClassId} {H : Heap} {locs : List Loc} {ad : Nat → Nat} {ls : Array Slot} {as : List Value} {ig : Instr} {mk : MethodId} {methk : Method} {ck : Code} {stk : List Value}
    (cx : gj_Cx md p l s m meth c s0 a0) (ro : gj_ro (d + 1) K N R) (hK : va_K (dC, dI) gj_cl (gj_tys dA) s0)
    (hP : va_P (dC, dI) gj_cl (gj_ws dA ad n C) H) (hD : va_D (fun q : Nat => s0.heap.size ≤ q) (gj_ws dA ad n C)) (hS : va_S (fun q : Nat => s0.heap.size ≤ q) s.heap H locs) (oC : gj_oC n C) (sc : gj_sc s0 ad (C 0)) (ov : ∀ v ∈ as, gj_ov n v) (ol : gj_ol n lc rest) (hl : lv_has ls md.2.2.1 (gj_tl ad lc))
    (hdg : decode md.2.1 pc = .ok (ig, 3)) (hst : (rest.map fun v => v.category).sum + me.2.2.1 ≤ 49)
    (hplain : plainName me.1.cls = true) (hn : s.methodNamed? me.1 = some mk) (hmk : s.vm.method? mk = some methk) (hck : methk.code = some ck) (hby : ck.code = me.2.1) (hml : ck.maxLocals = me.2.2.1) (hret : methk.sig.returnType = me.2.2.2.1) (hlk : methk.locks = false) (htb : ck.exceptionTable.toList = tableOf me.2.2.2.2)
    (hal : (lg_sl (as.map (gj_tv ad))).length ≤ me.2.2.1) (hk : k + K1 ≤ K) (hw : w + N1 ≤ N) (hG : gj_G me d K1 N1 0 0 0 (lv_args 0 as) [] n C Q1)
    (inv : ∀ T : State, T.heap = H → Stand p l e R s m args below meth c T locs k w → ∃ vm₁, Stand p l e R s m args below meth c (T.setVm vm₁) locs k w ∧ ∀ target, (∀ acts, Steps p.tables e below (doInvoke e ((T.setVm vm₁).setTop (F0 m pc ls (rest.map (gj_tv ad)))) acts mk (as.map (gj_tv ad)).toArray).1 target) → Steps p.tables e below (T.setTop (F0 m pc ls stk)) target)
    (kr : ∀ (v : Option Value) (n' : Nat) (C' : Nat → va_E), n ≤ n' → Q1 (.inl v, n', C') → gj_G md (d + 1) K N (k + K1) (w + N1) (pc + 3) lc (v.toList ++ rest) n' C' Q)
    (kx : ∀ (E : String) (n' : Nat) (C' : Nat → va_E), n ≤ n' → Q1 (.inr E, n', C') → gj_GX md (d + 1) K N (k + K1) (w + N1) pc lc E n' C' Q) :
    W p l e R s m args below meth c H locs k w (gj_E below s s0 dC dI dA ad (C 0) n K N Q) (F0 m pc ls stk) := by
  intro T hT X
  obtain ⟨vm₁, X₁, hstep⟩ := inv T hT X
  have hdc : decode c.code pc = .ok (ig, 3) := by rw [cx.2.1]; exact hdg
  obtain ⟨t, hsteps, o, L, rv, n', C', ad', h1, h2, h3, h4, h5, h6, h7, h8, h9, h10, h11, h12, h13, h14, h15⟩ := gj_into (g := F0 m pc ls (rest.map (gj_tv ad))) X₁ hT cx ro hK hP hD hS oC sc ov rfl (by rw [cx.2.2.2.2.2.2.2.1]; exact hl.1) hdc (by
      show 2 * 0 + ((rest.map (gj_tv ad)).map fun v => v.category).sum + me.2.2.1 ≤ 49
      rw [gj_cats]
      omega) hplain hn hmk hck hby hml hret hlk htb hal hk hw hG
  have hvm1 : s.WarmedH (T.setVm vm₁).vm := X₁.warmed
  have hal' : ∀ x, x ≤ n → ad' x = ad x := h11
  have hls : lv_has ls md.2.2.1 (gj_tl ad' lc) := by rw [gj_tl_eq hal' ol.1]; exact hl
  have hsc : gj_sc s0 ad' (C' 0) := by
    rw [h12]
    obtain ⟨L0, xs, q1, q2, q3⟩ := sc
    have q4 := hal' 0 (Nat.zero_le n)
    exact ⟨L0, xs, q1, by rw [q4]; exact q2, by rw [q4]; exact q3⟩
  have hSt : ∀ T' : State, T'.heap = t.heap → va_S (fun q : Nat => s0.heap.size ≤ q) s.heap T'.heap (locs ++ L) := by
    intro T' hT'
    have hz : ∀ q : Nat, q < s.heap.size → ¬ s0.heap.size ≤ q → t.heap[q]? = s.heap[q]? := fun q hq hn => by
      have hq0 : q < s0.heap.size := Nat.not_le.mp hn
      rw [h6.2 q hq0, cx.2.2.2.2.2.1.2 q hq0]
    have hsz : s.heap.size ≤ t.heap.size := by
      have e1 : (T.setVm vm₁).heap.size ≤ t.heap.size := h4.2.1
      have e2 : (T.setVm vm₁).heap = H := hT
      rw [e2] at e1
      exact Nat.le_trans hS.1 e1
    rw [hT']
    exact ⟨hsz, hz, fun z hz => (List.mem_append.mp hz).elim (hS.2.2 z) (h5 z)⟩
  rcases rv with v | E
  · have ho : o = .returned (v.map (gj_tv ad')) := h8
    subst ho
    obtain ⟨T', X', hW', hB', ht⟩ := X₁.outOf (g := F0 m pc ls (rest.map (gj_tv ad))) rfl hdc h2 h3 h4
    have hT' : T'.heap = t.heap := by rw [ht]; rfl
    have hk2 := kr v n' C' h10 h7
    have ol2 : gj_ol n' lc (v.toList ++ rest) := ⟨fun q hq => gj_ov_le h10 (ol.1 q hq), fun u hu => by
      rcases List.mem_append.mp hu with h | h
      · cases v with
        | none => cases h
        | some v => rw [List.mem_singleton.mp h]; exact h9
      · exact gj_ov_le h10 (ol.2 u h)⟩
    obtain ⟨t2, a1, b1⟩ := hk2 p l e R s m args below meth c s0 a0 dC dI dA T'.heap (locs ++ L) ad' ls cx ro hK (by rw [hT']; exact h13) h14 (hSt T' hT') h15 hsc ol2 hls T' rfl X'
    refine ⟨t2, hstep _ (fun acts => (hsteps acts).trans ?_), gj_E_mono h10 hal' h12 t2 b1⟩
    rw [ht]
    have e5 : ((v.toList ++ rest).map (gj_tv ad')) = (v.map (gj_tv ad')).toList ++ rest.map (gj_tv ad) := by
      rw [List.map_append, gj_ts_eq hal' ol.2]
      cases v <;> rfl
    rw [e5] at a1
    exact a1
  · obtain ⟨q, ce, ho, hce, hcv, hcl⟩ : ∃ (q : Addr) (ce : Cell), o = .threw q ∧ t.heap[q]? = some ce ∧ ce.vm = .none ∧ ((T.setVm vm₁).calling (F0 m pc ls (rest.map (gj_tv ad))) mk (as.map (gj_tv ad)).toArray).vm.findClass E = some ce.cls := h8
    subst ho
    obtain ⟨T', X', hW', hB', ht⟩ := X₁.outOfThrown (g := F0 m pc ls (rest.map (gj_tv ad))) rfl h2 h3 h4
    have hT' : T'.heap = t.heap := by rw [ht, throwing_heap]
    have hcl2 : s.vm.findClass E = some ce.cls := by
      have e7 : (T.setVm vm₁).vm.findClass E = some ce.cls := hcl
      rw [hvm1.alike.findClass] at e7
      exact e7
    obtain ⟨t2, a1, b1⟩ := kx E n' C' h10 h7 p l e R s m args below meth c s0 a0 dC dI dA T'.heap (locs ++ L) ad' ls (rest.map (gj_tv ad)) q ce cx ro hK (by rw [hT']; exact h13) h14 (hSt T' hT') h15 hsc (fun q hq => gj_ov_le h10 (ol.1 q hq)) hls (by rw [hT']; exact hce) hcv hcl2 T' rfl X'
    refine ⟨t2, hstep _ (fun acts => (hsteps acts).trans ?_), gj_E_mono h10 hal' h12 t2 b1⟩
    rw [ht]
    exact a1
end
/-! THE INVOKE INSTRUCTIONS -/
section
variable {md me : gj_M} {d K N k w K1 N1 pc ix : Nat} {lc : List (Nat × Value)} {rest as : List Value} {n : Nat} {C : Nat → va_E} {Q Q1 : gj_R → Prop}
theorem gj_sl (ad : Nat → Nat) : ∀ as : List Value, (lg_sl (as.map (gj_tv ad))).length = (lg_sl as).length
  | [] => rfl
  | v :: as => by
    have h := gj_sl ad as
    cases v <;> simp_all [lg_sl, gj_tv, Value.category]
/-- what a stack holds is what its parts hold -/
theorem gj_ol_app {as : List Value} (h : gj_ol n lc (as.reverse ++ rest)) : (∀ v ∈ as, gj_ov n v) ∧ gj_ol n lc rest :=
  ⟨fun v hv => h.2 v (List.mem_append_left _ (List.mem_reverse.mpr hv)), h.1, fun v hv => h.2 v (List.mem_append_right _ hv)⟩
theorem gj_rev (ad : Nat → Nat) (as rest : List Value) : (as.reverse ++ rest).map (gj_tv ad) = (as.map (gj_tv ad)).reverse ++ rest.map (gj_tv ad) := by
  rw [List.map_append, List.map_reverse]
theorem gj_plen {x : MethodName} {sig : MethodDescriptor} {q : Nat} (h : (parseMethodDescriptor x.desc).map (fun d => d.parameters.length) = some q) (hs : parseMethodDescriptor x.desc = some sig) : sig.parameters.length = q := by
  rw [hs] at h
  exact Option.some.inj h
theorem gj_callS (hd : decode md.2.1 pc = .ok (.invokestatic ix, 3)) (hm : gj_mok me) (h1 : Cond.methodLink md.1.cls ix me.1 ∈ lw_tbl) (h2 : Cond.static me.1 ∈ lw_tbl) (h3 : Cond.initialized me.1.cls ∈ lw_tbl) (hlen : (parseMethodDescriptor me.1.desc).map (fun d => d.parameters.length) = some as.length) (hal : (lg_sl as).length ≤ me.2.2.1) (hst : (rest.map fun v => v.category).sum + me.2.2.1 ≤ 49) (hk : k + K1 ≤ K) (hw : w + N1 ≤ N) (hG : gj_G me d K1 N1 0 0 0 (lv_args 0 as) [] n C Q1)
    (kx : ∀ (E : String) (n' : Nat) (C' : Nat → va_E), n ≤ n' → Q1 (.inr E, n', C') → gj_GX md (d + 1) K N (k + K1) (w + N1) pc lc E n' C' Q)
    (kr : ∀ (v : Option Value) (n' : Nat) (C' : Nat → va_E), n ≤ n' → Q1 (.inl v, n', C') → gj_G md (d + 1) K N (k + K1) (w + N1) (pc + 3) lc (v.toList ++ rest) n' C' Q) :
    gj_G md (d + 1) K N k w pc lc (as.reverse ++ rest) n C Q := by
  intro p l e R s m args below meth c s0 a0 dC dI dA H locs ad ls cx ro hK hP hD hS oC sc ol hl
  obtain ⟨mk, methk, ck, hn, hmk, hck, hby, hml, hret, hlk, htb, hsig⟩ := gj_meth cx hm
  obtain ⟨kP, hkP, -⟩ := className_of_methodNamed hn
  have hst2 : (Cond.static me.1).before args s = true := gj_word cx h2 rfl
  have hin2 : (Cond.initialized me.1.cls).before args s = true := gj_word cx h3 rfl
  have hstatic : methk.isStatic = true := Cond.static_spec hn hmk hst2
  have hinit : kP.init = .initialized := Cond.initialized_spec (findClass_of_methodNamed hn) hkP hin2
  obtain ⟨ov, ol2⟩ := gj_ol_app ol
  refine gj_call cx ro hK hP hD hS oC sc ov ol2 hl hd hst hm.1 hn hmk hck hby hml hret hlk htb (by rw [gj_sl]; exact hal) hk hw hG ?_ kr kx
  intro T hT X
  obtain ⟨vm₁, X₁, st⟩ := X.invokestatic cx.1 cx.2.2.2.2.2.2.2.2.1 (gj_word cx h1 rfl) hn hmk hstatic hkP hinit hm.2.1 (g := F0 m pc ls ((as.reverse ++ rest).map (gj_tv ad))) rfl (argsL := as.map (gj_tv ad)) (rest := rest.map (gj_tv ad)) (by rw [List.length_map]; exact (gj_plen hlen hsig).symm) (gj_rev ad as rest) (by rw [cx.2.1]; exact hd)
  exact ⟨vm₁, X₁, st⟩
theorem gj_callSN {host : String} (hd : decode md.2.1 pc = .ok (.invokestatic ix, 3)) (hm : gj_mok me) (h1 : Cond.methodLinkNest md.1.cls ix me.1 host ∈ lw_tbl) (h2 : Cond.static me.1 ∈ lw_tbl) (h3 : Cond.initialized me.1.cls ∈ lw_tbl) (hlen : (parseMethodDescriptor me.1.desc).map (fun d => d.parameters.length) = some as.length) (hal : (lg_sl as).length ≤ me.2.2.1) (hst : (rest.map fun v => v.category).sum + me.2.2.1 ≤ 49) (hk : k + K1 ≤ K) (hw : w + N1 ≤ N) (hG : gj_G me d K1 N1 0 0 0 (lv_args 0 as) [] n C Q1)
    (kx : ∀ (E : String) (n' : Nat) (C' : Nat → va_E), n ≤ n' → Q1 (.inr E, n', C') → gj_GX md (d + 1) K N (k + K1) (w + N1) pc lc E n' C' Q)
    (kr : ∀ (v : Option Value) (n' : Nat) (C' : Nat → va_E), n ≤ n' → Q1 (.inl v, n', C') → gj_G md (d + 1) K N (k + K1) (w + N1) (pc + 3) lc (v.toList ++ rest) n' C' Q) :
    gj_G md (d + 1) K N k w pc lc (as.reverse ++ rest) n C Q := by
  intro p l e R s m args below meth c s0 a0 dC dI dA H locs ad ls cx ro hK hP hD hS oC sc ol hl
  obtain ⟨mk, methk, ck, hn, hmk, hck, hby, hml, hret, hlk, htb, hsig⟩ := gj_meth cx hm
  obtain ⟨kP, hkP, -⟩ := className_of_methodNamed hn
  have hst2 : (Cond.static me.1).before args s = true := gj_word cx h2 rfl
  have hin2 : (Cond.initialized me.1.cls).before args s = true := gj_word cx h3 rfl
  have hstatic : methk.isStatic = true := Cond.static_spec hn hmk hst2
  have hinit : kP.init = .initialized := Cond.initialized_spec (findClass_of_methodNamed hn) hkP hin2
  have hlink : (Cond.methodLinkNest md.1.cls ix me.1 host).before args s = true := va_Nw.use rfl (va_Nw.warmM cx.2.2.2.2.1 (va_Nw.of rfl (cx.2.2.2.1.1 _ h1)))
  obtain ⟨ov, ol2⟩ := gj_ol_app ol
  refine gj_call cx ro hK hP hD hS oC sc ov ol2 hl hd hst hm.1 hn hmk hck hby hml hret hlk htb (by rw [gj_sl]; exact hal) hk hw hG ?_ kr kx
  intro T hT X
  obtain ⟨vm₁, X₁, st⟩ := X.invokestaticNest cx.1 cx.2.2.2.2.2.2.2.2.1 hlink hn hmk hstatic hkP hinit hm.2.1 (g := F0 m pc ls ((as.reverse ++ rest).map (gj_tv ad))) rfl (argsL := as.map (gj_tv ad)) (rest := rest.map (gj_tv ad)) (by rw [List.length_map]; exact (gj_plen hlen hsig).symm) (gj_rev ad as rest) (by rw [cx.2.1]; exact hd)
  exact ⟨vm₁, X₁, st⟩
theorem gj_callV {x ci N0 : Nat} {T0 : u_T} {fs : List Value} (hd : decode md.2.1 pc = .ok (.invokevirtual ix, 3)) (hm : gj_mok me) (h1 : Cond.methodLink md.1.cls ix me.1 ∈ lw_tbl) (h2 : Cond.instanceMethod me.1 ∈ lw_tbl) (h3 : Cond.selects me.1.cls me.1 me.1 ∈ lw_tbl) (hc : C x = .inr (ci, fs)) (hcl : gj_cl[ci]? = some (me.1.cls, T0, N0)) (hlen : (parseMethodDescriptor me.1.desc).map (fun d => d.parameters.length) = some as.length) (hal : (lg_sl (.ref x :: as)).length ≤ me.2.2.1) (hst : (rest.map fun v => v.category).sum + me.2.2.1 ≤ 49) (hk : k + K1 ≤ K) (hw : w + N1 ≤ N) (hG : gj_G me d K1 N1 0 0 0 (lv_args 0 (.ref x :: as)) [] n C Q1)
    (kx : ∀ (E : String) (n' : Nat) (C' : Nat → va_E), n ≤ n' → Q1 (.inr E, n', C') → gj_GX md (d + 1) K N (k + K1) (w + N1) pc lc E n' C' Q)
    (kr : ∀ (v : Option Value) (n' : Nat) (C' : Nat → va_E), n ≤ n' → Q1 (.inl v, n', C') → gj_G md (d + 1) K N (k + K1) (w + N1) (pc + 3) lc (v.toList ++ rest) n' C' Q) :
    gj_G md (d + 1) K N k w pc lc (as.reverse ++ .ref x :: rest) n C Q := by
  intro p l e R s m args below meth c s0 a0 dC dI dA H locs ad ls cx ro hK hP hD hS oC sc ol hl
  obtain ⟨mk, methk, ck, hn, hmk, hck, hby, hml, hret, hlk, htb, hsig⟩ := gj_meth cx hm
  obtain ⟨ov, ol1⟩ := gj_ol_app ol
  have hxn : x ≤ n := ol1.2 (.ref x) List.mem_cons_self
  have hsel : (Cond.selects me.1.cls me.1 me.1).before args s = true := gj_word cx h3 rfl
  have hins : (Cond.instanceMethod me.1).before args s = true := gj_word cx h2 rfl
  obtain ⟨mk2, methM, hn2, hmM, hstM, habM⟩ := Cond.instanceMethod_spec hins
  cases Option.some.inj (hn.symm.trans hn2)
  cases Option.some.inj (hmk.symm.trans hmM)
  obtain ⟨cellB, hcB, hoB, hclB⟩ := va_recv (va_K.moved cx.2.2.2.2.1.alike hK) hP hcl (gj_wsi (gj_ne0i sc hc) hxn hc)
  obtain ⟨c2, r2, m2, q1, q2, q3, q4, kP, hkP, hkPi⟩ := Cond.selects_spec hsel
  have hclB : s.vm.findClass me.1.cls = some cellB.cls := hclB
  cases hclB.symm.trans q1
  cases (State.methodFound?_of_named hn hm.2.1).symm.trans q2
  cases hn.symm.trans q3
  refine gj_call (as := .ref x :: as) cx ro hK hP hD hS oC sc (fun v hv => (List.mem_cons.mp hv).elim (fun e => by rw [e]; exact hxn) (ov v)) (gj_ol_pop ol1) hl hd hst hm.1 hn hmk hck hby hml hret hlk htb (by rw [gj_sl]; exact hal) hk hw hG ?_ kr kx
  intro T hT X
  have hselP : selectMethod e.platform s.vm cellB.cls mk = .method mk := by rw [Launch.admits_selectMethod X.admits]; exact q4
  obtain ⟨vm₁, X₁, st⟩ := X.invokevirtual cx.1 cx.2.2.2.2.2.2.2.2.1 (gj_word cx h1 rfl) hn hmk hstM hkP hkPi hm.2.1 (a := ad x) (cell := cellB) (by rw [hT]; exact hcB) (fun z h => by rw [h] at hoB; cases hoB) hselP hmk habM hkP hkPi (g := F0 m pc ls ((as.reverse ++ .ref x :: rest).map (gj_tv ad))) rfl (argsL := as.map (gj_tv ad)) (rest := rest.map (gj_tv ad)) (by rw [List.length_map]; exact (gj_plen hlen hsig).symm) (gj_rev ad as (.ref x :: rest)) (by rw [cx.2.1]; exact hd)
  exact ⟨vm₁, X₁, st⟩
theorem gj_callI {x : Nat} (hd : decode md.2.1 pc = .ok (.invokespecial ix, 3)) (hm : gj_mok me) (hnm : me.1.name = "<init>") (hrt : me.2.2.2.1 = none) (hhd : me.2.2.2.2 = []) (h0 : Cond.code me.1 me.2.1 me.2.2.1 none ∈ lw_tbl) (h1 : Cond.methodLink md.1.cls ix me.1 ∈ lw_tbl) (h2 : Cond.instanceMethod me.1 ∈ lw_tbl) (hlen : (parseMethodDescriptor me.1.desc).map (fun d => d.parameters.length) = some as.length) (hal : (lg_sl (.ref x :: as)).length ≤ me.2.2.1) (hst : (rest.map fun v => v.category).sum + me.2.2.1 ≤ 49) (hk : k + K1 ≤ K) (hw : w + N1 ≤ N) (hG : gj_G me d K1 N1 0 0 0 (lv_args 0 (.ref x :: as)) [] n C Q1)
    (kx : ∀ (E : String) (n' : Nat) (C' : Nat → va_E), n ≤ n' → Q1 (.inr E, n', C') → gj_GX md (d + 1) K N (k + K1) (w + N1) pc lc E n' C' Q)
    (kr : ∀ (v : Option Value) (n' : Nat) (C' : Nat → va_E), n ≤ n' → Q1 (.inl v, n', C') → gj_G md (d + 1) K N (k + K1) (w + N1) (pc + 3) lc (v.toList ++ rest) n' C' Q) :
    gj_G md (d + 1) K N k w pc lc (as.reverse ++ .ref x :: rest) n C Q := by
  intro p l e R s m args below meth c s0 a0 dC dI dA H locs ad ls cx ro hK hP hD hS oC sc ol hl
  obtain ⟨mk, methk, ck, hn, hmk, hck, hby, hml, hret, hlk, htb, hsig⟩ := gj_meth cx hm
  obtain ⟨ov, ol1⟩ := gj_ol_app ol
  have hxn : x ≤ n := ol1.2 (.ref x) List.mem_cons_self
  refine gj_call (as := .ref x :: as) cx ro hK hP hD hS oC sc (fun v hv => (List.mem_cons.mp hv).elim (fun e => by rw [e]; exact hxn) (ov v)) (gj_ol_pop ol1) hl hd hst hm.1 hn hmk hck hby hml hret hlk htb (by rw [gj_sl]; exact hal) hk hw hG ?_ kr kx
  intro T hT X
  have hpl : e.platform.magicAccessors = ({} : Platform).magicAccessors := by rw [X.admits.platform]
  obtain ⟨mk2, methM, cM, kP, vm₁, hn2, -, -, -, -, -, -, -, hW₁, st⟩ := Steps.initColdArgs (e := e) X.here cx.1 X.warmed hpl cx.2.2.2.2.2.2.2.2.1 hnm hm.2.1 (gj_word cx h1 rfl) (gj_word cx h2 rfl) (gj_word (args := args) cx h0 rfl) (f := F0 m pc ls ((as.reverse ++ .ref x :: rest).map (gj_tv ad))) rfl (a := ad x) (argsL := as.map (gj_tv ad)) (rest := rest.map (gj_tv ad)) (fun sig hs => by rw [List.length_map]; exact (gj_plen hlen hs).symm) (gj_rev ad as (.ref x :: rest)) (by rw [cx.2.1]; exact hd)
  cases Option.some.inj (hn.symm.trans hn2)
  exact ⟨vm₁, X.noted hW₁, st⟩
theorem gj_callIN {x : Nat} {host : String} (hd : decode md.2.1 pc = .ok (.invokespecial ix, 3)) (hm : gj_mok me) (hnm : me.1.name = "<init>") (h0 : Cond.code me.1 me.2.1 me.2.2.1 none ∈ lw_tbl) (h1 : Cond.methodLinkNest md.1.cls ix me.1 host ∈ lw_tbl) (h2 : Cond.instanceMethod me.1 ∈ lw_tbl) (hlen : (parseMethodDescriptor me.1.desc).map (fun d => d.parameters.length) = some as.length) (hal : (lg_sl (.ref x :: as)).length ≤ me.2.2.1) (hst : (rest.map fun v => v.category).sum + me.2.2.1 ≤ 49) (hk : k + K1 ≤ K) (hw : w + N1 ≤ N) (hG : gj_G me d K1 N1 0 0 0 (lv_args 0 (.ref x :: as)) [] n C Q1)
    (kx : ∀ (E : String) (n' : Nat) (C' : Nat → va_E), n ≤ n' → Q1 (.inr E, n', C') → gj_GX md (d + 1) K N (k + K1) (w + N1) pc lc E n' C' Q)
    (kr : ∀ (v : Option Value) (n' : Nat) (C' : Nat → va_E), n ≤ n' → Q1 (.inl v, n', C') → gj_G md (d + 1) K N (k + K1) (w + N1) (pc + 3) lc (v.toList ++ rest) n' C' Q) :
    gj_G md (d + 1) K N k w pc lc (as.reverse ++ .ref x :: rest) n C Q := by
  intro p l e R s m args below meth c s0 a0 dC dI dA H locs ad ls cx ro hK hP hD hS oC sc ol hl
  obtain ⟨mk, methk, ck, hn, hmk, hck, hby, hml, hret, hlk, htb, hsig⟩ := gj_meth cx hm
  obtain ⟨ov, ol1⟩ := gj_ol_app ol
  have hxn : x ≤ n := ol1.2 (.ref x) List.mem_cons_self
  have hlink : (Cond.methodLinkNest md.1.cls ix me.1 host).before args s = true := va_Nw.use rfl (va_Nw.warmM cx.2.2.2.2.1 (va_Nw.of rfl (cx.2.2.2.1.1 _ h1)))
  refine gj_call (as := .ref x :: as) cx ro hK hP hD hS oC sc (fun v hv => (List.mem_cons.mp hv).elim (fun e => by rw [e]; exact hxn) (ov v)) (gj_ol_pop ol1) hl hd hst hm.1 hn hmk hck hby hml hret hlk htb (by rw [gj_sl]; exact hal) hk hw hG ?_ kr kx
  intro T hT X
  have hpl : e.platform.magicAccessors = ({} : Platform).magicAccessors := by rw [X.admits.platform]
  obtain ⟨mk2, methM, cM, kP, vm₁, hn2, -, -, -, -, -, -, -, hW₁, st⟩ := Steps.initColdArgsNest (e := e) X.here cx.1 X.warmed hpl cx.2.2.2.2.2.2.2.2.1 hnm hm.2.1 hlink (gj_word cx h2 rfl) (gj_word (args := args) cx h0 rfl) (f := F0 m pc ls ((as.reverse ++ .ref x :: rest).map (gj_tv ad))) rfl (a := ad x) (argsL := as.map (gj_tv ad)) (rest := rest.map (gj_tv ad)) (fun sig hs => by rw [List.length_map]; exact (gj_plen hlen hs).symm) (gj_rev ad as (.ref x :: rest)) (by rw [cx.2.1]; exact hd)
  cases Option.some.inj (hn.symm.trans hn2)
  exact ⟨vm₁, X.noted hW₁, st⟩
end
end
section
/-! EXCEPTIONS: out of the method; caught in it; made and thrown -/
section
variable {md : gj_M} {d K N k w pc : Nat} {lc : List (Nat × Value)} {st : List Value} {n : Nat} {C : Nat → va_E} {Q : gj_R → Prop} {E : String}
theorem gj_xout (hout : (tableOf md.2.2.2.2).all (fun x => !covers x pc) = true) (hk : k ≤ K) (hw : w ≤ N) (hQ : Q (.inr E, n, C)) : gj_GX md d K N k w pc lc E n C Q := by
  intro p l e R s m args below meth c s0 a0 dC dI dA H locs ad ls rs q ce cx ro hK hP hD hS oC sc ov hl hce hcv hcl T hT X
  obtain ⟨st1, hrun, hend, hW, hsm⟩ := X.leaveThrown q (g := F0 m pc ls rs) rfl rfl rfl (outside_of_table cx.2.2.2.2.2.2.2.2.2.2.2 hout) cx.2.2.2.2.2.2.2.2.2.1
  have hh : (T.setFrames (.throwing q :: below)).heap = H := hT
  refine ⟨_, st1, .threw q, locs, .inr E, n, C, ad, hrun, hend, hW, hsm.mono hk hw, hS.2.2, ?_, hQ, ⟨q, ce, rfl, by rw [hh]; exact hce, hcv, hcl⟩, trivial, Nat.le_refl n, fun _ _ => rfl, rfl, by rw [hh]; exact hP, hD, oC⟩
  rw [hh]
  exact ⟨Nat.le_trans cx.2.2.2.2.2.1.1 hS.1, fun q hq => by rw [hS.2.1 q (Nat.lt_of_lt_of_le hq cx.2.2.2.2.2.1.1) (Nat.not_le.mpr hq)]; exact cx.2.2.2.2.2.1.2 q hq⟩
/-- where the search through a table's rows ends -/
def gj_sr (pl : Platform) (s : State) (own : ClassId) (pc : Nat) (thrown : ClassId) : List ExceptionTableEntry → Nat → Prop
  | [], _ => False
  | y :: r, h => (covers y pc = false ∧ gj_sr pl s own pc thrown r h) ∨ (covers y pc = true ∧ y.catchType ≠ 0 ∧ ∃ c, s.vm.ClassLinks pl own y.catchType c ∧ ((s.vm.assignable thrown c = true ∧ y.handlerPc = h) ∨ (s.vm.assignable thrown c = false ∧ gj_sr pl s own pc thrown r h)))
theorem gj_fh {e : Env} {S : State} {f : JFrame} {a : Addr} {Q : Handler → Pre} {E : CtlPost} {d : Bool} {acts : List Action} {x : ExceptionTableEntry} {t : List ExceptionTableEntry} {c : ClassId} {cell : Cell} (hx : covers x f.pc = true) (h0 : x.catchType ≠ 0)
    (hl : S.vm.ClassLinks e.platform f.method.cls x.catchType c) (hcell : S.heap[a]? = some cell) (hobj : ∀ k, cell.vm ≠ .statics k) (hk : ∃ k, S.vm.classes[cell.cls]? = some k) (hc : ∃ k, S.vm.classes[c]? = some k) :
    wp (findHandler.go f a (x :: t)) Q E e d acts S ↔ if S.vm.assignable cell.cls c = true then Q (.found x.handlerPc) d acts (S.setVm (S.vm.noted f.method.cls x.catchType (.cls c))) else wp (findHandler.go f a t) Q E e d acts (S.setVm (S.vm.noted f.method.cls x.catchType (.cls c))) := by
  simp only [covers] at hx
  obtain ⟨ha, ht⟩ := (resolveClass_links e.toSetting hl).op (op := VmOp.resolveClass f.method.cls x.catchType) rfl
  have hal : S.vm.Alike (S.vm.noted f.method.cls x.catchType (.cls c)) := (Vm.Alike.refl S.vm).noted _ _ _
  obtain ⟨k1, hk1⟩ := hk
  obtain ⟨k2, hk2⟩ := hc
  obtain ⟨k1', hk1', -⟩ := hal.2.2 _ _ hk1
  obtain ⟨k2', hk2', -⟩ := hal.2.2 _ _ hk2
  have has : (S.vm.noted f.method.cls x.catchType (.cls c)).assignable cell.cls c = S.vm.assignable cell.cls c := hal.assignable ..
  cases hfit : S.vm.assignable cell.cls c <;> rw [hfit] at has <;>
    simp [findHandler.go, hx, h0, ha, ht, hcell, hobj, hk1', hk2', has, VmOp.dirties, VmOp.acts]
theorem gj_search {e : Env} {s : State} {f : JFrame} {a : Addr} {cell : Cell} {h : Nat} (hobj : ∀ k, cell.vm ≠ .statics k) (hk0 : ∃ k, s.vm.classes[cell.cls]? = some k) :
    ∀ (rows : List ExceptionTableEntry) (S : State), s.WarmedH S.vm → S.heap[a]? = some cell → gj_sr e.platform s f.method.cls f.pc cell.cls rows h →
      ∃ vm', s.WarmedH vm' ∧ ∀ (Q : Handler → Pre) (E : CtlPost) (d : Bool) (acts : List Action), wp (findHandler.go f a rows) Q E e d acts S ↔ Q (.found h) d acts (S.setVm vm')
  | [], _, _, _, hs => hs.elim
  | y :: r, S, hW, hcell, hs => by
    rcases hs with ⟨hc, hs⟩ | ⟨hc, h0, c, hl, hs⟩
    · obtain ⟨vm', hW', hq⟩ := gj_search hobj hk0 r S hW hcell hs
      exact ⟨vm', hW', fun Q E d acts => by rw [W.findHandler_go_skip hc]; exact hq Q E d acts⟩
    · obtain ⟨k0, hk0'⟩ := id hk0
      obtain ⟨k1, hk1, -⟩ := hW.alike.2.2 _ _ hk0'
      obtain ⟨dk, _, _, kt, hd, _, _, _, _, hkt, _, hopen⟩ := hl.here
      obtain ⟨kt', hkt', -⟩ := hW.alike.2.2 _ _ hkt
      have hW2 := hW.noted hd hopen (State.rightAt_cls hl)
      have hrow := fun (Q : Handler → Pre) (E : CtlPost) (d : Bool) (acts : List Action) => gj_fh (t := r) (Q := Q) (E := E) (d := d) (acts := acts) hc h0 (hW.classLinks hl) hcell hobj ⟨k1, hk1⟩ ⟨kt', hkt'⟩
      rcases hs with ⟨hf, hh⟩ | ⟨hf, hs⟩
      · exact ⟨_, hW2, fun Q E d acts => by rw [hrow, if_pos (by rw [hW.alike.assignable]; exact hf), hh]⟩
      · obtain ⟨vm', hW', hq⟩ := gj_search hobj hk0 r (S.setVm (S.vm.noted f.method.cls y.catchType (.cls c))) hW2 hcell hs
        exact ⟨vm', hW', fun Q E d acts => by
          rw [hrow, if_neg (by rw [hW.alike.assignable, hf]; decide)]
          exact hq Q E d acts⟩
theorem gj_caught {tb : Tables} {e : Env} {T target : State} {g : JFrame} {c : Code} {below : List Frame} {a : Addr} (h : At T g.method c below) {pc : Nat} {vm' : Vm}
    (hfind : ∀ (Q : Handler → Pre) (E : CtlPost) (d : Bool) (acts : List Action), wp (findHandler g a) Q E e d acts ((T.setTop g).pushFrame (.throwing a)) ↔ Q (.found pc) d acts (((T.setTop g).pushFrame (.throwing a)).setVm vm'))
    (hrest : Steps tb e below ((T.setVm vm').setTop { g with pc := pc, stack := [.ref a] }) target) : Steps tb e below ((T.setTop g).pushFrame (.throwing a)) target := by
  obtain ⟨hgo, hw⟩ := h.throwing a
  obtain ⟨g₀, hg⟩ := Option.isSome_iff_exists.mp h.top
  obtain ⟨r, hr⟩ := State.topJava?_eq_some.mp hg
  have hr' : (T.setVm vm').frames = .java g₀ :: r := hr
  have key : (stepThrowing e ((T.setTop g).pushFrame (.throwing a)) a (.java g :: T.frames.tail)).Is ((((T.setTop g).pushFrame (.throwing a)).setVm vm').setFrames (.java { g with pc := pc, stack := [.ref a] } :: T.frames.tail)) [] := by
    simp only [stepThrowing, searchFrame, vmDo]
    generalize hres : Sem.go _ e false [] ((T.setTop g).pushFrame (.throwing a)) = res
    obtain ⟨as, rfl, ha⟩ := Sem.eq_ok_of hres (a := Handler.found pc) (s' := ((T.setTop g).pushFrame (.throwing a)).setVm vm') (acts' := []) (by simp [hfind _ _ _ _])
    exact ⟨rfl, ha⟩
  refine Steps.head hgo hw ?_
  rw [stepThread_throwing (frames_entered h.top _), key.1]
  have e1 : ((((T.setTop g).pushFrame (.throwing a)).setVm vm').setFrames (.java { g with pc := pc, stack := [.ref a] } :: T.frames.tail)) = (T.setVm vm').setTop { g with pc := pc, stack := [.ref a] } := by
    rw [State.setTop_of_frames _ hr', hr, State.pushFrame, State.setTop_of_frames _ hr, State.setFrames_setFrames]
    exact State.setFrames_setFrames (T.setVm vm') _ _
  rw [e1]
  exact hrest
/-- .. by the words: which row of the method's own table takes the exception -/
def gj_hs (own E : String) (pc : Nat) : List (Nat × Nat × Nat × Nat) → Nat → Prop
  | [], _ => False
  | y :: r, h => covers ⟨y.1, y.2.1, y.2.2.1, y.2.2.2⟩ pc = true ∧ y.2.2.2 ≠ 0 ∧ ∃ nm : String, Cond.classLink own y.2.2.2 nm ∈ lw_tbl ∧ ((Cond.castable E nm ∈ lw_tbl ∧ y.2.2.1 = h) ∨ (Cond.not (.castable E nm) ∈ gj_nar ∧ gj_hs own E pc r h))
theorem gj_hs_sr {p : Program} {l : Launch} {e : Env} {s : State} {m : MethodId} {meth : Method} {c : Code} {s0 : State} {a0 : Array Value} (cx : gj_Cx md p l s m meth c s0 a0) (hpl : e.platform.magicAccessors = ({} : Platform).magicAccessors) {thrown : ClassId} (hE : s.vm.findClass E = some thrown) {h : Nat} :
    ∀ hh : List (Nat × Nat × Nat × Nat), gj_hs md.1.cls E pc hh h → gj_sr e.platform s m.cls pc thrown (tableOf hh) h
  | [], hs => hs.elim
  | y :: r, hs => by
    obtain ⟨h1, h2, nm, h3, h4⟩ := hs
    obtain ⟨c5, hc5, hcl5⟩ := Cond.classLink_spec cx.2.2.2.2.2.2.2.2.1 (gj_word (args := a0) cx h3 rfl) e.platform hpl
    refine Or.inr ⟨h1, h2, c5, hcl5, ?_⟩
    rcases h4 with ⟨h5, h6⟩ | ⟨h5, h6⟩
    · obtain ⟨c3, c4, hc3, hc4, hasg⟩ := Cond.castable_spec (va_Nw.use (A := a0) rfl (va_Nw.warmC cx.2.2.2.2.1 (va_Nw.of rfl (cx.2.2.2.1.1 _ h5))))
      cases Option.some.inj (hc3.symm.trans hE)
      cases Option.some.inj (hc4.symm.trans hc5)
      exact Or.inl ⟨hasg, h6⟩
    · obtain ⟨a8, b8, q1, q2, q3⟩ := va_Nc.moved cx.2.2.2.2.1.alike (va_Nc.of (flat_of_before _ cx.2.2.2.1.2 _ h5))
      cases Option.some.inj (q1.symm.trans hE)
      cases Option.some.inj (q2.symm.trans hc5)
      exact Or.inr ⟨q3, gj_hs_sr cx hpl hE r h6⟩
def gj_rm (lc : List (Nat × Value)) (i : Nat) : List (Nat × Value) := lc.filter (fun q => !(q.1 == i) && !(q.1 + 1 == i && q.2.category == 2))
theorem gj_tl_rm {ad : Nat → Nat} {i : Nat} : (gj_tl ad lc).filter (fun q => !(q.1 == i) && !(q.1 + 1 == i && q.2.category == 2)) = gj_tl ad (gj_rm lc i) := by
  unfold gj_tl gj_rm
  rw [List.filter_map]
  congr 1
  refine List.filter_congr fun q _ => ?_
  simp [gj_cat]
theorem gj_xcatch {hpc i ln : Nat} (hh : gj_hs md.1.cls E pc md.2.2.2.2 hpc) (hd : (∃ j : Fin 4, (j : Nat) = i ∧ ln = 1 ∧ decode md.2.1 hpc = .ok (.astore_n j, 1)) ∨ (ln = 2 ∧ decode md.2.1 hpc = .ok (.astore i, 2))) (hi : i < md.2.2.1) (kk : gj_G md d K N k w (hpc + ln) (gj_rm lc i) [] n C Q) : gj_GX md d K N k w pc lc E n C Q := by
  intro p l e R s m args below meth c s0 a0 dC dI dA H locs ad ls rs q ce cx ro hK hP hD hS oC sc ov hl hce hcv hcl T hT X
  have hpl : e.platform.magicAccessors = ({} : Platform).magicAccessors := by rw [X.admits.platform]
  have hobj : ∀ k, ce.vm ≠ .statics k := fun k h => by rw [hcv] at h; cases h
  obtain ⟨k9, h9, -⟩ := Vm.findClass_spec hcl
  obtain ⟨vm', hW', hq⟩ := gj_search (e := e) (f := F0 m pc ls rs) (a := q) (cell := ce) (h := hpc) hobj ⟨k9, h9⟩ (tableOf md.2.2.2.2) ((T.setTop (F0 m pc ls rs)).pushFrame (.throwing q)) X.warmed (by rw [throwing_heap, hT]; exact hce) (gj_hs_sr cx hpl hcl _ hh)
  have hrest : ∀ (ls' : Array Slot), lv_has ls' md.2.2.1 ((i, .ref q) :: gj_tl ad (gj_rm lc i)) → W p l e R s m args below meth c H locs k w (gj_E below s s0 dC dI dA ad (C 0) n K N Q) (F0 m (hpc + ln) ls' []) := fun ls' hl' =>
    kk p l e R s m args below meth c s0 a0 dC dI dA H locs ad ls' cx ro hK hP hD hS oC sc ⟨fun z hz => ov z (List.mem_filter.mp hz).1, fun v hv => nomatch hv⟩ ⟨hl'.1, hl'.2.1, fun z hz => hl'.2.2 z (List.mem_cons_of_mem _ hz)⟩
  have hW : W p l e R s m args below meth c H locs k w (gj_E below s s0 dC dI dA ad (C 0) n K N Q) (F0 m hpc ls [.ref q]) := by
    rcases hd with ⟨j, hj, rfl, hd⟩ | ⟨rfl, hd⟩
    · exact lv_astore_n cx.1 cx.2.1 hd hj hl hi (by rw [gj_tl_rm]) hrest
    · exact lv_astore cx.1 cx.2.1 hd hl hi (by rw [gj_tl_rm]) hrest
  obtain ⟨t, a1, b1⟩ := hW (T.setVm vm') hT (X.noted hW')
  refine ⟨t, gj_caught (g := F0 m pc ls rs) (c := c) X.here (pc := hpc) (vm' := vm') (fun Q E d acts => ?_) a1, b1⟩
  rw [W.findHandler_eq (meth := meth) (code := c) (by rw [throwing_vm]; exact X.method') X.code, cx.2.2.2.2.2.2.2.2.2.2.2]
  exact hq Q E d acts
end
end
section
/-! rows of the given names text (exceptions, no traces), as far as the throw wants them -/
section
variable {p : Program} {l : Launch} {e : Env} {R : Room} {s : State} {m : MethodId} {args : Array Value} {below : List Frame} {meth : Method} {c : Code} {H : Heap} {locs : List Loc} {cells slots : Nat} {Q : State → Prop}
theorem vx_frame {U : State} {k n : Nat} (h : s.sameButNew ({ U with vm := s.vm } : State) locs k n) : s.heap.size ≤ U.heap.size ∧ ∀ q : Nat, q < s.heap.size → (∀ z ∈ locs, z.base ≠ q) → U.heap[q]? = s.heap[q]? := by
  obtain ⟨-, h2, -, -, -, h6⟩ := h
  refine ⟨h2, fun q hq hz => ?_⟩
  obtain ⟨c9, e1, e2, e3, e4⟩ := h6 q _ (Array.getElem?_eq_getElem hq)
  have hs : c9.slots = (s.heap[q]).slots := Array.ext_getElem? fun i => e4 i fun hm => hz _ hm rfl
  have h9 : c9 = s.heap[q] := by
    rw [hs] at e2
    exact e2
  have e5 : U.heap[q]? = some c9 := e1
  rw [e5, h9, Array.getElem?_eq_getElem hq]
def vx_no (w : Cond) : Bool := decide (w ≠ .isRef (.static Bundle.tN "UNASSIGNED_STACK" Bundle.steD)) && decide (w ≠ .isRef (.static Bundle.tN "SUPPRESSED_SENTINEL" Bundle.listD)) && decide (w ≠ .laysStatic Bundle.tN "UNASSIGNED_STACK" Bundle.steD) && decide (w ≠ .laysStatic Bundle.tN "SUPPRESSED_SENTINEL" Bundle.listD)
def vx_atS (own : String) (ic : Nat) (X : String) (names : List String) : List Cond := (Bundle.ownAtoms own ic X names).filter vx_no
def vx_ot (w : Cond) : Bool := w.onTables || goodWord w
theorem vx_ot_at {args a' : Array Value} {s U : State} {w : Cond} (hW : s.WarmedH U.vm) (hvm : s.vm = U.vm) (hg : vx_ot w = true) (h : w.before args s = true) : w.before a' U = true := by
  simp only [vx_ot, Bool.or_eq_true] at hg
  rcases hg with hg | hg
  · exact va_tabs hg hvm h
  · exact word_at hW (good_of_word hg) h
theorem vx_own {args : Array Value} {s : State} {L : List Cond} (h1 : ∀ w ∈ L.filter vx_no, w.before args s = true)
    (hU : (Cond.isRef (.static Bundle.tN "UNASSIGNED_STACK" Bundle.steD)).before args s = true) (hN : (Cond.isRef (.static Bundle.tN "SUPPRESSED_SENTINEL" Bundle.listD)).before args s = true)
    (lU : (Cond.laysStatic Bundle.tN "UNASSIGNED_STACK" Bundle.steD).before args s = true) (lN : (Cond.laysStatic Bundle.tN "SUPPRESSED_SENTINEL" Bundle.listD).before args s = true) : ∀ w ∈ L, w.before args s = true := by
  intro w hw
  by_cases e1 : w = .isRef (.static Bundle.tN "UNASSIGNED_STACK" Bundle.steD)
  · rw [e1]; exact hU
  · by_cases e2 : w = .isRef (.static Bundle.tN "SUPPRESSED_SENTINEL" Bundle.listD)
    · rw [e2]; exact hN
    · by_cases e3 : w = .laysStatic Bundle.tN "UNASSIGNED_STACK" Bundle.steD
      · rw [e3]; exact lU
      · by_cases e4 : w = .laysStatic Bundle.tN "SUPPRESSED_SENTINEL" Bundle.listD
        · rw [e4]; exact lN
        · exact h1 w (List.mem_filter.mpr ⟨hw, by unfold vx_no; rw [decide_eq_true e1, decide_eq_true e2, decide_eq_true e3, decide_eq_true e4]; rfl⟩)
def vx_L (C n d : String) (A : Nat → Prop) (U : State) (H : Heap) : Prop := ∃ (c : ClassId) (k : Class) (i : Nat) (f : Field) (a : Nat) (cell : Cell), U.vm.findClass C = some c ∧ U.fieldFound? C n d = some (c, k, i, f) ∧ f.isStatic = true ∧ k.statics = some a ∧ H[a]? = some cell ∧ cell.vm.isStatics = true ∧ cell.cls = c ∧ f.slot < cell.slots.size ∧ k.staticTypes[f.slot]? = some f.type ∧ ¬ A a
theorem vx_L.moved {C n d : String} {A : Nat → Prop} {u U : State} {H : Heap} (hvm : u.vm.Alike U.vm) (h : vx_L C n d A u H) : vx_L C n d A U H := by
  obtain ⟨c, k, i, f, a, cell, h1, h2, h3, h4, h5, h6, h7, h8, h9, h10⟩ := h
  obtain ⟨k', hi', he⟩ := State.fieldFound?_setVm hvm h2
  exact ⟨c, k', i, f, a, cell, by rw [hvm.findClass]; exact h1, hi', h3, by rw [he]; exact h4, h5, h6, h7, h8, by rw [he]; exact h9, h10⟩
theorem vx_L.kept {C n d : String} {A : Nat → Prop} {U : State} {H H1 : Heap} (h : vx_L C n d A U H) (hq : ∀ a : Nat, a < H.size → ¬ A a → H1[a]? = H[a]?) : vx_L C n d A U H1 := by
  obtain ⟨c, k, i, f, a, cell, h1, h2, h3, h4, h5, h6, h7, h8, h9, h10⟩ := h
  exact ⟨c, k, i, f, a, cell, h1, h2, h3, h4, by rw [hq a (Array.getElem?_eq_some_iff.mp h5).1 h10]; exact h5, h6, h7, h8, h9, h10⟩
theorem vx_L.word {C n d : String} {A : Nat → Prop} {s : State} {args : Array Value} (h : vx_L C n d A s s.heap) : (Cond.laysStatic C n d).before args s = true := by
  obtain ⟨c, k, i, f, a, cell, h1, h2, h3, h4, h5, h6, h7, h8, h9, -⟩ := h
  show (Cond.laysStatic C n d).holds args s none s [] = true
  exact Cond.laysStatic_of h1 h2 h3 h4 h5 h6 h7 h8 h9
def vx_Zq (C n d : String) (A : Nat → Prop) (U : State) (H : Heap) : Prop := va_Zq C n d A U H ∧ vx_L C n d A U H
theorem vx_Zq.moved {C n d : String} {A : Nat → Prop} {u U : State} {H : Heap} (hvm : u.vm.Alike U.vm) (h : vx_Zq C n d A u H) : vx_Zq C n d A U H := ⟨va_Zq.moved hvm h.1, vx_L.moved hvm h.2⟩
theorem vx_Zq.kept {C n d : String} {A : Nat → Prop} {U : State} {H H1 : Heap} (h : vx_Zq C n d A U H) (hq : ∀ a : Nat, a < H.size → ¬ A a → H1[a]? = H[a]?) : vx_Zq C n d A U H1 := ⟨va_Zq.kept h.1 hq, vx_L.kept h.2 hq⟩
theorem vx_Zqof {args : Array Value} {s : State} {C n d : String} {A : Nat → Prop} (hl : (Cond.laysStatic C n d).before args s = true) (hini : (Cond.initialized C).before args s = true) (h : (Cond.isRef (.static C n d)).before args s = true) (hA : ∀ a : Nat, a < s.heap.size → ¬ A a) : vx_Zq C n d A s s.heap := by
  refine ⟨va_Zqof hl hini h hA, ?_⟩
  obtain ⟨c, k, i, f, a, cell, h1, h2, h3, h4, h5, h6, h7, h8, h9⟩ := Cond.laysStatic_spec hl
  exact ⟨c, k, i, f, a, cell, h1, h2, h3, h4, h5, h6, h7, h8, h9, hA a (Array.getElem?_eq_some_iff.mp h5).1⟩
theorem vx_isRef {C n d : String} {v : Value} {A : Nat → Prop} {s : State} {args : Array Value} (h : va_Z C n d v A s s.heap) (hv : v.isRef = true) : (Cond.isRef (.static C n d)).before args s = true := by
  obtain ⟨cf, kf, fi, f, a, cell, h1, h2, h3, h4, h5, h6, h7, -⟩ := h
  have he : (Term.static C n d).eval args s none [] s = some v := by
    simp [Term.eval, State.fieldNamed?, h1, h2, h4, h5, h6, h7]
  simp only [Cond.before, Cond.holds, Cond.value, he]
  cases v <;> simp_all [Value.isRef]
theorem vx_isRefq {C n d : String} {A : Nat → Prop} {s : State} {args : Array Value} (h : va_Zq C n d A s s.heap) : (Cond.isRef (.static C n d)).before args s = true := by
  rcases h with h | ⟨t, h⟩
  · exact vx_isRef h rfl
  · exact vx_isRef h rfl
theorem vx_rebase {T : State} (X : Stand p l e R s m args below meth c T locs cells slots) {R' : Room} (hf : R'.frames ≤ R.frames) (hl : R'.locals ≤ R.locals) (hc : cells + R'.cells ≤ R.cells) (hs : slots + R'.slots ≤ R.slots) :
    Stand p l e R' ((T.setVm s.vm).setFrames (.invoking m args :: below)) m args below meth c T [] 0 0 := by
  have htop : (T.setVm s.vm).topJava?.isSome := X.here.top
  have hF : ((T.setVm s.vm).setFrames (.invoking m args :: below)).frames = .invoking m args :: below := State.frames_setFrames _ (State.cur_lt_of_top htop)
  obtain ⟨g₀, hg0⟩ := Option.isSome_iff_exists.mp htop
  obtain ⟨r, hr⟩ := State.topJava?_eq_some.mp hg0
  have hl9 : e.platform.stackLimits (T.setVm s.vm).me = e.platform.stackLimits s.me := X.limits
  have hb9 : (T.setVm s.vm).me.stackBytes = s.me.stackBytes := X.bytes
  refine ⟨X.admits, X.cas, X.clock, hF, ?_, X.hears, X.method, X.code, X.here, X.tail, X.warmed, ?_, ?_, ?_⟩
  · have h := X.room
    have hU : ((T.setVm s.vm).setFrames (.invoking m args :: below)).localsInUse = s.localsInUse := by
      rw [State.localsInUse_invoking hF (meth := meth) (c := c) X.method X.code, State.localsInUse_invoking X.frames X.method X.code]
    simp only [State.hasRoom, Bool.and_eq_true, decide_eq_true_eq] at h ⊢
    obtain ⟨⟨⟨⟨h1, h2, h3, h4, h5, h6⟩, h7⟩, h8⟩, h9⟩ := h
    rw [X.frames, List.length_cons] at h2 h3
    have q1 := X.heapSize
    have q2 := X.used
    simp only [hF, hU, List.length_cons, State.stackLimits_setFrames, State.stackBytes_setFrames, hl9, hb9]
    refine ⟨⟨⟨⟨by omega, by omega, by omega, by omega, by omega, h6⟩, ?_⟩, ?_⟩, X.book⟩
    · show T.heap.size + R'.cells ≤ e.platform.maxCells
      omega
    · show T.slotsUsed + R'.slots ≤ e.platform.maxSlots
      omega
  · rw [State.stackLimits_setFrames]; rfl
  · rw [State.stackBytes_setFrames]; rfl
  · refine ⟨?_, Nat.le_refl _, Nat.le_refl _, ?_, ?_, fun a c9 h9 => ⟨c9, h9, rfl, rfl, fun _ _ => rfl⟩⟩
    · obtain ⟨t, ht, -⟩ := State.frames_cons hr
      show T.setVm s.vm = { ((T.setVm s.vm).setFrames (.invoking m args :: below)).setFrames (T.setVm s.vm).frames with heap := T.heap, slotsUsed := T.slotsUsed }
      rw [State.setFrames_setFrames, State.setFrames_self ht]
      rfl
    · show T.slotsUsed = T.slotsUsed + ((T.heap.toList.drop T.heap.size).map (·.slots.size)).sum
      rw [List.drop_eq_nil_of_le (Nat.le_of_eq Array.length_toList)]
      rfl
    · show ((T.heap.toList.drop T.heap.size).map (·.slots.size)).sum ≤ 0
      rw [List.drop_eq_nil_of_le (Nat.le_of_eq Array.length_toList)]
      exact Nat.le_refl _
end
/-! THE THROW: new; dup; ldc; invokespecial; athrow -/
/-- the words that a throw of cls wants are there -/
def gj_tok (own cls text : String) (ik is ic : Nat) : Prop := Bundle.fit cls = true ∧ Cond.classLink own ik cls ∈ lw_tbl ∧ Cond.initialized cls ∈ lw_tbl ∧ Cond.stringRef own is text ∈ lw_tbl ∧ Cond.castable cls cls ∈ lw_tbl ∧
  (∀ w ∈ (vx_atS own ic cls ["java/lang/RuntimeException", "java/lang/Exception"]).filter goodWord, w ∈ lw_tbl) ∧ (∀ w ∈ (vx_atS own ic cls ["java/lang/RuntimeException", "java/lang/Exception"]).filter (fun w => !goodWord w), w = .castable cls cls) ∧
  (∀ w ∈ Cond.classLink own ik cls :: Cond.initialized cls :: vx_atS own ic cls ["java/lang/RuntimeException", "java/lang/Exception"], vx_ot w = true)

section
variable {md : gj_M} {d K N k w pc : Nat} {lc : List (Nat × Value)} {st : List Value} {n : Nat} {C : Nat → va_E} {Q : gj_R → Prop}
theorem gw_lsU : Cond.laysStatic "java/lang/Throwable" "UNASSIGNED_STACK" "[Ljava/lang/StackTraceElement;" ∈ lw_tbl := by decide +kernel
theorem gw_lsN : Cond.laysStatic "java/lang/Throwable" "SUPPRESSED_SENTINEL" "Ljava/util/List;" ∈ lw_tbl := by decide +kernel
theorem gw_iniT : Cond.initialized "java/lang/Throwable" ∈ lw_tbl := by decide +kernel
theorem gn_U : Cond.isRef (.static "java/lang/Throwable" "UNASSIGNED_STACK" "[Ljava/lang/StackTraceElement;") ∈ gj_nar := by decide +kernel
theorem gn_N : Cond.isRef (.static "java/lang/Throwable" "SUPPRESSED_SENTINEL" "Ljava/util/List;") ∈ gj_nar := by decide +kernel
set_option maxHeartbeats 1000000 in
theorem gj_throw {cls text : String} {ik is ic : Nat} (ht : gj_tok md.1.cls cls text ik is ic) (d0 : decode md.2.1 pc = .ok (.new ik, 3)) (d3 : decode md.2.1 (pc + 3) = .ok (.dup, 1)) (d4 : decode md.2.1 (pc + 4) = .ok (.ldc is, 2)) (d6 : decode md.2.1 (pc + 6) = .ok (.invokespecial ic, 3)) (d9 : decode md.2.1 (pc + 9) = .ok (.athrow, 1))
    (hout : (tableOf md.2.2.2.2).all (fun x => !covers x (pc + 9)) = true) (hst : (st.map fun v => v.category).sum ≤ 50) (hk : k + 1 ≤ K) (hw : w + 6 ≤ N) (hQ : Q (.inr cls, n, C)) : gj_G md d K N k w pc lc st n C Q := by
  intro p l e R s m args below meth c s0 a0 dC dI dA H locs ad ls cx ro hK hP hD hS oC sc ol hl T hT X
  obtain ⟨hfit, h1, h2, h3, h4, h5, h6, h7⟩ := ht
  have hexec := cx.1
  have hb := cx.2.1
  have hWs0 := cx.2.2.2.2.1
  have htr : e.platform.stackTraces = false := (show e.platform.stackTraces = l.stackTraces by rw [X.admits.platform]).trans cx.2.2.1
  have Y := vx_rebase X (R' := { frames := R.frames, locals := R.locals, cells := 1, slots := 6 }) (Nat.le_refl _) (Nat.le_refl _) (Nat.le_trans hk ro.2.2.1) (Nat.le_trans hw ro.2.2.2)
  obtain ⟨s', hA⟩ : ∃ z, z = (T.setVm s.vm).setFrames (.invoking m args :: below) := ⟨_, rfl⟩
  rw [← hA] at Y
  have hvm : s'.vm = s.vm := by rw [hA]; rfl
  have hhp : s'.heap = H := by rw [hA]; exact hT
  have hW0 : s.WarmedH s'.vm := by rw [hvm]; exact State.WarmedH.refl s
  have hal : s0.vm.Alike s'.vm := by rw [hvm]; exact hWs0.alike
  have hat : ∀ w ∈ vx_atS md.1.cls ic cls ["java/lang/RuntimeException", "java/lang/Exception"], w.before args s = true := by
    intro w hw
    by_cases g : goodWord w = true
    · exact gj_word cx (h5 w (List.mem_filter.mpr ⟨hw, g⟩)) g
    · have hw2 : w = .castable cls cls := h6 w (List.mem_filter.mpr ⟨hw, by
        show (!goodWord w) = true
        cases hgw : goodWord w
        · rfl
        · exact absurd hgw g⟩)
      rw [hw2]
      exact va_Nw.use rfl (va_Nw.warmC hWs0 (va_Nw.of rfl (cx.2.2.2.1.1 _ h4)))
  have hat' : ∀ w ∈ vx_atS md.1.cls ic cls ["java/lang/RuntimeException", "java/lang/Exception"], w.before args s' = true := fun w hw => vx_ot_at hW0 hvm.symm (h7 w (List.mem_cons_of_mem _ (List.mem_cons_of_mem _ hw))) (hat w hw)
  have hk' : (Cond.classLink md.1.cls ik cls).before args s' = true := vx_ot_at hW0 hvm.symm (h7 _ List.mem_cons_self) (gj_word (args := args) cx h1 rfl)
  have hini' : (Cond.initialized cls).before args s' = true := vx_ot_at hW0 hvm.symm (h7 _ (List.mem_cons_of_mem _ List.mem_cons_self)) (gj_word (args := args) cx h2 rfl)
  have hold : ∀ a : Nat, a < s0.heap.size → ¬ s0.heap.size ≤ a → H[a]? = s0.heap[a]? := fun a ha hn => by
    rw [hS.2.1 a (Nat.lt_of_lt_of_le ha cx.2.2.2.2.2.1.1) hn]
    exact cx.2.2.2.2.2.1.2 a ha
  have nar := flat_of_before _ cx.2.2.2.1.2
  have hU0 : vx_Zq Bundle.tN "UNASSIGNED_STACK" Bundle.steD (fun q : Nat => s0.heap.size ≤ q) s0 s0.heap := vx_Zqof (cx.2.2.2.1.1 _ gw_lsU) (cx.2.2.2.1.1 _ gw_iniT) (nar _ gn_U) (fun a ha => Nat.not_le.mpr ha)
  have hN0 : vx_Zq Bundle.tN "SUPPRESSED_SENTINEL" Bundle.listD (fun q : Nat => s0.heap.size ≤ q) s0 s0.heap := vx_Zqof (cx.2.2.2.1.1 _ gw_lsN) (cx.2.2.2.1.1 _ gw_iniT) (nar _ gn_N) (fun a ha => Nat.not_le.mpr ha)
  have hU' : vx_Zq Bundle.tN "UNASSIGNED_STACK" Bundle.steD (fun q : Nat => s0.heap.size ≤ q) s' s'.heap := by rw [hhp]; exact vx_Zq.moved hal (hU0.kept hold)
  have hN' : vx_Zq Bundle.tN "SUPPRESSED_SENTINEL" Bundle.listD (fun q : Nat => s0.heap.size ≤ q) s' s'.heap := by rw [hhp]; exact vx_Zq.moved hal (hN0.kept hold)
  have h : ∀ w ∈ Bundle.ownAtoms md.1.cls ic cls ["java/lang/RuntimeException", "java/lang/Exception"], w.before args s' = true := vx_own hat' (vx_isRefq hU'.1) (vx_isRefq hN'.1) hU'.2.word hN'.2.word
  have hown' : s'.vm.findClass md.1.cls = some m.cls := by rw [hvm]; exact cx.2.2.2.2.2.2.2.2.1
  have hins : (Cond.instantiable cls 6).before args s' = true := h _ (by simp [Bundle.ownAtoms])
  have hown0 : s0.vm.findClass md.1.cls = some m.cls := by rw [← hWs0.alike.findClass]; exact cx.2.2.2.2.2.2.2.2.1
  obtain ⟨_, _, _, sa, -, -, -, -, -, hsa0⟩ := Cond.stringRef_spec hown0 (cx.2.2.2.1.1 _ h3)
  have hstr : vk_R md.1.cls is text sa s' := vk_R.warm hW0 (vk_R.warm hWs0 (vk_R.of (cx.2.2.2.1.1 _ h3) hsa0))
  obtain ⟨vm₁, cX, kX, hfX, hkX, -, -, X₁, st1⟩ := Y.newCold hexec (own := md.1.cls) (C := cls) (index := ik) (n := 6) hown' hk' hins hini'
    (g := F0 m pc ls (st.map (gj_tv ad))) rfl (by rw [hb]; exact d0) (Nat.le_refl _) (Nat.le_refl _)
  generalize hT1 : (T.setVm vm₁).pushCell { cls := cX, slots := kX.instanceTypes.map defaultValue, vm := .none } = T1 at X₁ st1
  have hcat : (Value.ref T.heap.size).category = 1 := rfl
  have hcellA : T1.heap[T.heap.size]? = some (freshCell cX kX) := by rw [← hT1]; exact State.heap_pushCell_size _ _
  have d3' : decode c.code (pc + 3) = .ok (.dup, 1) := by rw [hb]; exact d3
  have d4' : decode c.code (pc + 4) = .ok (.ldc is, 2) := by rw [hb]; exact d4
  obtain ⟨U, hsteps, hrun, hend, hW, hsame, ce, hce, hO⟩ := X₁.ctorThrowS hexec htr (own := md.1.cls) (cls := cls) (names := ["java/lang/RuntimeException", "java/lang/Exception"]) (ic := ic) hown' hfit (by decide) h (fun x hx => nomatch hx) hfX hkX hcellA (by rw [hhp, hT]; exact Nat.le_refl _) (msg := .ref sa) rfl
    (g := { method := m, pc := pc + 6, locals := ls, stack := .ref sa :: .ref T.heap.size :: .ref T.heap.size :: st.map (gj_tv ad), locked := none }) rfl (by rw [cx.2.2.2.2.2.2.2.1]; exact hl.1) rfl rfl (rest := st.map (gj_tv ad)) rfl
    (by rw [hb]; exact d6) (by rw [hb]; exact d9) (outside_of_table cx.2.2.2.2.2.2.2.2.2.2.2 hout) (by have := ro.1; show 2 + 3 < R.frames; omega) (by
      simp only [List.map_cons, List.sum_cons, hcat, List.length_cons, List.length_nil, gj_cats]
      have := ro.2.1
      show 2 * 0 + (1 + (st.map fun v => v.category).sum) + _ ≤ R.locals
      omega) cx.2.2.2.2.2.2.2.2.2.1
  obtain ⟨f1, f2⟩ := vx_frame hsame
  rw [hhp] at f1 f2
  have hWs : s.WarmedH U.vm := State.WarmedH.trans hW0 hW
  have hcl : s.vm.findClass cls = some ce.cls := by
    have h9 := hO.cls
    rw [hvm] at h9
    exact h9
  have hall : s.sameButNew ({ U with vm := s.vm } : State) locs K N := by
    subst hA
    obtain ⟨e1, e2⟩ := hsame
    rw [State.setFrames_setFrames] at e1
    have h2 : (T.setVm s.vm).sameButNew ({ U with vm := s.vm } : State) [] (0 + 1) (0 + 6) := ⟨e1, e2⟩
    have h3 := X.same.trans h2
    rw [List.append_nil] at h3
    exact h3.mono hk hw
  have f3 : ∀ q : Nat, q < H.size → U.heap[q]? = H[q]? := fun q hq => f2 q hq (fun z hz => nomatch hz)
  refine ⟨U, ?_, .threw T.heap.size, locs, .inr cls, n, C, ad, hrun, hend, hWs, hall, hS.2.2, ⟨Nat.le_trans (Nat.le_trans cx.2.2.2.2.2.1.1 hS.1) f1, fun q hq => ?_⟩, hQ, ⟨T.heap.size, ce, rfl, hce, hO.vm, hcl⟩, trivial, Nat.le_refl n, fun _ _ => rfl, rfl, hP.kept (fun k q hk => f3 q.1 (hP k q hk).lt), hD, oC⟩
  · refine st1 _ ?_
    show Steps p.tables e below (T1.setTop { method := m, pc := pc + 3, locals := ls, stack := .ref T.heap.size :: st.map (gj_tv ad), locked := none }) _
    jvm_step X₁.here [X₁.here.top, hexec, d3', Value.category]
    exact X₁.ldcString hexec (own := md.1.cls) (text := text) (index := is) (a := sa) hown' hstr.1 hstr.2
      (g := { method := m, pc := pc + 4, locals := ls, stack := .ref T.heap.size :: .ref T.heap.size :: st.map (gj_tv ad), locked := none }) rfl d4' _ hsteps
  · rw [f3 q (Nat.lt_of_lt_of_le hq (Nat.le_trans cx.2.2.2.2.2.1.1 hS.1))]
    exact hold q hq (Nat.not_le.mpr hq)
end
end
section
/-! words of the tables, by their places -/
theorem gw_0 : Cond.selects "RateBreaks" ⟨"RateBreaks", "readInto", "(LRateBreaks$Rates;)I"⟩ ⟨"RateBreaks", "readInto", "(LRateBreaks$Rates;)I"⟩ ∈ lw_tbl := List.mem_of_getElem? (i := 0) (by decide +kernel)
theorem gw_1 : Cond.selects "RateBreaks$Text" ⟨"RateBreaks$Text", "takeNumber", "()I"⟩ ⟨"RateBreaks$Text", "takeNumber", "()I"⟩ ∈ lw_tbl := List.mem_of_getElem? (i := 1) (by decide +kernel)
theorem gw_2 : Cond.selects "RateBreaks$Rates" ⟨"RateBreaks$Rates", "takeKind", "(I[I)Z"⟩ ⟨"RateBreaks$Rates", "takeKind", "(I[I)Z"⟩ ∈ lw_tbl := List.mem_of_getElem? (i := 2) (by decide +kernel)
theorem gw_3 : Cond.selects "RateBreaks$Rates" ⟨"RateBreaks$Rates", "takeStep", "(IIII)Z"⟩ ⟨"RateBreaks$Rates", "takeStep", "(IIII)Z"⟩ ∈ lw_tbl := List.mem_of_getElem? (i := 3) (by decide +kernel)
theorem gw_4 : Cond.selects "RateBreaks$Rates" ⟨"RateBreaks$Rates", "heaviest", "(I)I"⟩ ⟨"RateBreaks$Rates", "heaviest", "(I)I"⟩ ∈ lw_tbl := List.mem_of_getElem? (i := 4) (by decide +kernel)
theorem gw_6 : Cond.selects "RateBreaks" ⟨"RateBreaks", "present", "(I)LRateBreaks$Shipment;"⟩ ⟨"RateBreaks", "present", "(I)LRateBreaks$Shipment;"⟩ ∈ lw_tbl := List.mem_of_getElem? (i := 6) (by decide +kernel)
theorem gw_7 : Cond.selects "RateBreaks" ⟨"RateBreaks", "priceNow", "(LRateBreaks$Shipment;I)I"⟩ ⟨"RateBreaks", "priceNow", "(LRateBreaks$Shipment;I)I"⟩ ∈ lw_tbl := List.mem_of_getElem? (i := 7) (by decide +kernel)
theorem gw_8 : Cond.selects "RateBreaks$Ratios" ⟨"RateBreaks$Ratios", "placeFor", "(I)I"⟩ ⟨"RateBreaks$Ratios", "placeFor", "(I)I"⟩ ∈ lw_tbl := List.mem_of_getElem? (i := 8) (by decide +kernel)
theorem gw_9 : Cond.selects "RateBreaksModel" ⟨"RateBreaksModel", "oneLine", "()Z"⟩ ⟨"RateBreaksModel", "oneLine", "()Z"⟩ ∈ lw_tbl := List.mem_of_getElem? (i := 9) (by decide +kernel)
theorem gw_10 : Cond.selects "RateBreaksModel" ⟨"RateBreaksModel", "here", "()I"⟩ ⟨"RateBreaksModel", "here", "()I"⟩ ∈ lw_tbl := List.mem_of_getElem? (i := 10) (by decide +kernel)
theorem gw_11 : Cond.selects "RateBreaksModel" ⟨"RateBreaksModel", "number", "()I"⟩ ⟨"RateBreaksModel", "number", "()I"⟩ ∈ lw_tbl := List.mem_of_getElem? (i := 11) (by decide +kernel)
theorem gw_12 : Cond.selects "RateBreaksModel" ⟨"RateBreaksModel", "heaviest", "(II)I"⟩ ⟨"RateBreaksModel", "heaviest", "(II)I"⟩ ∈ lw_tbl := List.mem_of_getElem? (i := 12) (by decide +kernel)
theorem gw_13 : Cond.selects "RateBreaksModel" ⟨"RateBreaksModel", "seen", "(II)Z"⟩ ⟨"RateBreaksModel", "seen", "(II)Z"⟩ ∈ lw_tbl := List.mem_of_getElem? (i := 13) (by decide +kernel)
theorem gw_14 : Cond.selects "RateBreaksModel" ⟨"RateBreaksModel", "noShipment", "(I)Z"⟩ ⟨"RateBreaksModel", "noShipment", "(I)Z"⟩ ∈ lw_tbl := List.mem_of_getElem? (i := 14) (by decide +kernel)
theorem gw_15 : Cond.selects "RateBreaksModel" ⟨"RateBreaksModel", "toPay", "(II)I"⟩ ⟨"RateBreaksModel", "toPay", "(II)I"⟩ ∈ lw_tbl := List.mem_of_getElem? (i := 15) (by decide +kernel)
theorem gw_16 : Cond.selects "RateBreaksModel" ⟨"RateBreaksModel", "find", "(II)I"⟩ ⟨"RateBreaksModel", "find", "(II)I"⟩ ∈ lw_tbl := List.mem_of_getElem? (i := 16) (by decide +kernel)
theorem gw_17 : Cond.selects "RateBreaksModel" ⟨"RateBreaksModel", "priceOf", "(II)I"⟩ ⟨"RateBreaksModel", "priceOf", "(II)I"⟩ ∈ lw_tbl := List.mem_of_getElem? (i := 17) (by decide +kernel)
theorem gw_18 : Cond.selects "RateBreaksModel" ⟨"RateBreaksModel", "booked", "(I)I"⟩ ⟨"RateBreaksModel", "booked", "(I)I"⟩ ∈ lw_tbl := List.mem_of_getElem? (i := 18) (by decide +kernel)
theorem gw_19 : Cond.initialized "RateBreaksLaw" ∈ lw_tbl := List.mem_of_getElem? (i := 19) (by decide +kernel)
theorem gw_20 : Cond.initialized "RateBreaks" ∈ lw_tbl := List.mem_of_getElem? (i := 20) (by decide +kernel)
theorem gw_21 : Cond.initialized "RateBreaks$Text" ∈ lw_tbl := List.mem_of_getElem? (i := 21) (by decide +kernel)
theorem gw_22 : Cond.initialized "RateBreaks$Rates" ∈ lw_tbl := List.mem_of_getElem? (i := 22) (by decide +kernel)
theorem gw_23 : Cond.initialized "RateBreaks$Ratios" ∈ lw_tbl := List.mem_of_getElem? (i := 23) (by decide +kernel)
theorem gw_24 : Cond.initialized "java/lang/Math" ∈ lw_tbl := List.mem_of_getElem? (i := 24) (by decide +kernel)
theorem gw_25 : Cond.initialized "RateBreaksModel" ∈ lw_tbl := List.mem_of_getElem? (i := 25) (by decide +kernel)
theorem gw_26 : Cond.initialized "java/lang/Throwable" ∈ lw_tbl := List.mem_of_getElem? (i := 26) (by decide +kernel)
theorem gw_27 : Cond.initialized "java/lang/Exception" ∈ lw_tbl := List.mem_of_getElem? (i := 27) (by decide +kernel)
theorem gw_28 : Cond.initialized "java/lang/RuntimeException" ∈ lw_tbl := List.mem_of_getElem? (i := 28) (by decide +kernel)
theorem gw_29 : Cond.initialized "java/lang/IllegalArgumentException" ∈ lw_tbl := List.mem_of_getElem? (i := 29) (by decide +kernel)
theorem gw_30 : Cond.initialized "java/lang/UnsupportedOperationException" ∈ lw_tbl := List.mem_of_getElem? (i := 30) (by decide +kernel)
theorem gw_31 : Cond.initialized "RateBreaks$Shipment" ∈ lw_tbl := List.mem_of_getElem? (i := 31) (by decide +kernel)
theorem gw_32 : Cond.initialized "java/util/NoSuchElementException" ∈ lw_tbl := List.mem_of_getElem? (i := 32) (by decide +kernel)
theorem gw_33 : Cond.initialized "java/lang/ArithmeticException" ∈ lw_tbl := List.mem_of_getElem? (i := 33) (by decide +kernel)
theorem gw_34 : Cond.initialized "java/lang/IllegalStateException" ∈ lw_tbl := List.mem_of_getElem? (i := 34) (by decide +kernel)
theorem gw_35 : Cond.classLink "RateBreaksLaw" 8 "RateBreaks" ∈ lw_tbl := List.mem_of_getElem? (i := 35) (by decide +kernel)
theorem gw_36 : Cond.instantiable "RateBreaks" 8 ∈ lw_tbl := List.mem_of_getElem? (i := 36) (by decide +kernel)
theorem gw_37 : Cond.methodLink "RateBreaksLaw" 69 ⟨"RateBreaks", "<init>", "()V"⟩ ∈ lw_tbl := List.mem_of_getElem? (i := 37) (by decide +kernel)
theorem gw_38 : Cond.instanceMethod ⟨"RateBreaks", "<init>", "()V"⟩ ∈ lw_tbl := List.mem_of_getElem? (i := 38) (by decide +kernel)
theorem gw_39 : Cond.code ⟨"RateBreaks", "<init>", "()V"⟩ prog_1_method_1_code 2 (Option.none : Option Jvm.ClassFile.FieldType) ∈ lw_tbl := List.mem_of_getElem? (i := 39) (by decide +kernel)
theorem gw_40 : Cond.methodLink "RateBreaks" 1 ⟨"java/lang/Object", "<init>", "()V"⟩ ∈ lw_tbl := List.mem_of_getElem? (i := 40) (by decide +kernel)
theorem gw_41 : Cond.instanceMethod ⟨"java/lang/Object", "<init>", "()V"⟩ ∈ lw_tbl := List.mem_of_getElem? (i := 41) (by decide +kernel)
theorem gw_42 : Cond.code ⟨"java/lang/Object", "<init>", "()V"⟩ object_method_1_code 1 (Option.none : Option Jvm.ClassFile.FieldType) ∈ lw_tbl := List.mem_of_getElem? (i := 42) (by decide +kernel)
theorem gw_43 : Cond.classLink "RateBreaks" 7 "RateBreaks$Text" ∈ lw_tbl := List.mem_of_getElem? (i := 43) (by decide +kernel)
theorem gw_44 : Cond.instantiable "RateBreaks$Text" 4 ∈ lw_tbl := List.mem_of_getElem? (i := 44) (by decide +kernel)
theorem gw_45 : Cond.methodLinkNest "RateBreaks" 9 ⟨"RateBreaks$Text", "<init>", "()V"⟩ "RateBreaks" ∈ lw_tbl := List.mem_of_getElem? (i := 45) (by decide +kernel)
theorem gw_46 : Cond.instanceMethod ⟨"RateBreaks$Text", "<init>", "()V"⟩ ∈ lw_tbl := List.mem_of_getElem? (i := 46) (by decide +kernel)
theorem gw_47 : Cond.code ⟨"RateBreaks$Text", "<init>", "()V"⟩ prog_5_method_1_code 1 (Option.none : Option Jvm.ClassFile.FieldType) ∈ lw_tbl := List.mem_of_getElem? (i := 47) (by decide +kernel)
theorem gw_48 : Cond.methodLink "RateBreaks$Text" 3 ⟨"java/lang/Object", "<init>", "()V"⟩ ∈ lw_tbl := List.mem_of_getElem? (i := 48) (by decide +kernel)
theorem gw_49 : Cond.fieldLink "RateBreaks$Text" 9 "RateBreaks$Text" "signs" "[I" ∈ lw_tbl := List.mem_of_getElem? (i := 49) (by decide +kernel)
theorem gw_50 : Cond.fieldLink "RateBreaks$Text" 15 "RateBreaks$Text" "numbers" "[I" ∈ lw_tbl := List.mem_of_getElem? (i := 50) (by decide +kernel)
theorem gw_51 : Cond.fieldLink "RateBreaks" 214 "RateBreaks$Text" "numbers" "[I" ∈ lw_tbl := List.mem_of_getElem? (i := 51) (by decide +kernel)
theorem gw_52 : Cond.fieldLink "RateBreaks$Text" 18 "RateBreaks$Text" "length" "I" ∈ lw_tbl := List.mem_of_getElem? (i := 52) (by decide +kernel)
theorem gw_53 : Cond.fieldLink "RateBreaks" 57 "RateBreaks$Text" "length" "I" ∈ lw_tbl := List.mem_of_getElem? (i := 53) (by decide +kernel)
theorem gw_54 : Cond.fieldLink "RateBreaks$Text" 22 "RateBreaks$Text" "place" "I" ∈ lw_tbl := List.mem_of_getElem? (i := 54) (by decide +kernel)
theorem gw_64 : Cond.arrayClass FieldType.int ∈ lw_tbl := List.mem_of_getElem? (i := 64) (by decide +kernel)
theorem gw_65 : Cond.classLink "RateBreaks" 16 "RateBreaks$Rates" ∈ lw_tbl := List.mem_of_getElem? (i := 65) (by decide +kernel)
theorem gw_66 : Cond.instantiable "RateBreaks$Rates" 10 ∈ lw_tbl := List.mem_of_getElem? (i := 66) (by decide +kernel)
theorem gw_67 : Cond.methodLink "RateBreaks" 18 ⟨"RateBreaks$Rates", "<init>", "()V"⟩ ∈ lw_tbl := List.mem_of_getElem? (i := 67) (by decide +kernel)
theorem gw_68 : Cond.instanceMethod ⟨"RateBreaks$Rates", "<init>", "()V"⟩ ∈ lw_tbl := List.mem_of_getElem? (i := 68) (by decide +kernel)
theorem gw_69 : Cond.code ⟨"RateBreaks$Rates", "<init>", "()V"⟩ prog_2_method_1_code 1 (Option.none : Option Jvm.ClassFile.FieldType) ∈ lw_tbl := List.mem_of_getElem? (i := 69) (by decide +kernel)
theorem gw_70 : Cond.methodLink "RateBreaks$Rates" 3 ⟨"java/lang/Object", "<init>", "()V"⟩ ∈ lw_tbl := List.mem_of_getElem? (i := 70) (by decide +kernel)
theorem gw_71 : Cond.methodLink "RateBreaks$Rates" 36 ⟨"RateBreaks$Rates", "clear", "()V"⟩ ∈ lw_tbl := List.mem_of_getElem? (i := 71) (by decide +kernel)
theorem gw_72 : Cond.instanceMethod ⟨"RateBreaks$Rates", "clear", "()V"⟩ ∈ lw_tbl := List.mem_of_getElem? (i := 72) (by decide +kernel)
theorem gw_73 : Cond.selects "RateBreaks$Rates" ⟨"RateBreaks$Rates", "clear", "()V"⟩ ⟨"RateBreaks$Rates", "clear", "()V"⟩ ∈ lw_tbl := List.mem_of_getElem? (i := 73) (by decide +kernel)
theorem gw_74 : Cond.code ⟨"RateBreaks$Rates", "clear", "()V"⟩ prog_2_method_2_code 2 (Option.none : Option Jvm.ClassFile.FieldType) ∈ lw_tbl := List.mem_of_getElem? (i := 74) (by decide +kernel)
theorem gw_75 : Cond.fieldLink "RateBreaks$Rates" 9 "RateBreaks$Rates" "lanes" "[I" ∈ lw_tbl := List.mem_of_getElem? (i := 75) (by decide +kernel)
theorem gw_76 : Cond.fieldLink "RateBreaks$Rates" 15 "RateBreaks$Rates" "above" "[I" ∈ lw_tbl := List.mem_of_getElem? (i := 76) (by decide +kernel)
theorem gw_77 : Cond.fieldLink "RateBreaks$Rates" 18 "RateBreaks$Rates" "upTo" "[I" ∈ lw_tbl := List.mem_of_getElem? (i := 77) (by decide +kernel)
theorem gw_78 : Cond.fieldLink "RateBreaks$Rates" 21 "RateBreaks$Rates" "cents" "[I" ∈ lw_tbl := List.mem_of_getElem? (i := 78) (by decide +kernel)
theorem gw_79 : Cond.fieldLink "RateBreaks$Rates" 24 "RateBreaks$Rates" "divisors" "[I" ∈ lw_tbl := List.mem_of_getElem? (i := 79) (by decide +kernel)
theorem gw_80 : Cond.fieldLink "RateBreaks" 100 "RateBreaks$Rates" "divisors" "[I" ∈ lw_tbl := List.mem_of_getElem? (i := 80) (by decide +kernel)
theorem gw_81 : Cond.fieldLink "RateBreaks$Rates" 27 "RateBreaks$Rates" "minima" "[I" ∈ lw_tbl := List.mem_of_getElem? (i := 81) (by decide +kernel)
theorem gw_82 : Cond.fieldLink "RateBreaks$Rates" 30 "RateBreaks$Rates" "fuelUps" "[I" ∈ lw_tbl := List.mem_of_getElem? (i := 82) (by decide +kernel)
theorem gw_83 : Cond.fieldLink "RateBreaks$Rates" 33 "RateBreaks$Rates" "fuelDowns" "[I" ∈ lw_tbl := List.mem_of_getElem? (i := 83) (by decide +kernel)
theorem gw_84 : Cond.fieldLink "RateBreaks$Rates" 39 "RateBreaks$Rates" "lines" "I" ∈ lw_tbl := List.mem_of_getElem? (i := 84) (by decide +kernel)
theorem gw_85 : Cond.fieldLink "RateBreaks" 77 "RateBreaks$Rates" "lines" "I" ∈ lw_tbl := List.mem_of_getElem? (i := 85) (by decide +kernel)
theorem gw_86 : Cond.fieldLink "RateBreaks$Rates" 43 "RateBreaks$Rates" "steps" "I" ∈ lw_tbl := List.mem_of_getElem? (i := 86) (by decide +kernel)
theorem gw_108 : Cond.classLink "RateBreaks" 26 "RateBreaks$Shipment" ∈ lw_tbl := List.mem_of_getElem? (i := 108) (by decide +kernel)
theorem gw_109 : Cond.arrayOver (FieldType.object "RateBreaks$Shipment") ∈ lw_tbl := List.mem_of_getElem? (i := 109) (by decide +kernel)
theorem gw_110 : Cond.classLink "RateBreaks" 36 "RateBreaks$Ratios" ∈ lw_tbl := List.mem_of_getElem? (i := 110) (by decide +kernel)
theorem gw_111 : Cond.arrayOver (FieldType.object "RateBreaks$Ratios") ∈ lw_tbl := List.mem_of_getElem? (i := 111) (by decide +kernel)
theorem gw_112 : Cond.instantiable "RateBreaks$Ratios" 4 ∈ lw_tbl := List.mem_of_getElem? (i := 112) (by decide +kernel)
theorem gw_113 : Cond.methodLink "RateBreaks" 42 ⟨"RateBreaks$Ratios", "<init>", "(I)V"⟩ ∈ lw_tbl := List.mem_of_getElem? (i := 113) (by decide +kernel)
theorem gw_114 : Cond.instanceMethod ⟨"RateBreaks$Ratios", "<init>", "(I)V"⟩ ∈ lw_tbl := List.mem_of_getElem? (i := 114) (by decide +kernel)
theorem gw_115 : Cond.code ⟨"RateBreaks$Ratios", "<init>", "(I)V"⟩ prog_3_method_1_code 3 (Option.none : Option Jvm.ClassFile.FieldType) ∈ lw_tbl := List.mem_of_getElem? (i := 115) (by decide +kernel)
theorem gw_116 : Cond.methodLink "RateBreaks$Ratios" 3 ⟨"java/lang/Object", "<init>", "()V"⟩ ∈ lw_tbl := List.mem_of_getElem? (i := 116) (by decide +kernel)
theorem gw_117 : Cond.methodLink "RateBreaks$Ratios" 15 ⟨"java/lang/Math", "max", "(II)I"⟩ ∈ lw_tbl := List.mem_of_getElem? (i := 117) (by decide +kernel)
theorem gw_118 : Cond.static ⟨"java/lang/Math", "max", "(II)I"⟩ ∈ lw_tbl := List.mem_of_getElem? (i := 118) (by decide +kernel)
theorem gw_119 : Cond.code ⟨"java/lang/Math", "max", "(II)I"⟩ prog_12_method_65_code 2 (Option.some FieldType.int) ∈ lw_tbl := List.mem_of_getElem? (i := 119) (by decide +kernel)
theorem gw_120 : Cond.fieldLink "RateBreaks$Ratios" 21 "RateBreaks$Ratios" "froms" "[I" ∈ lw_tbl := List.mem_of_getElem? (i := 120) (by decide +kernel)
theorem gw_121 : Cond.fieldLink "RateBreaks$Ratios" 25 "RateBreaks$Ratios" "ups" "[I" ∈ lw_tbl := List.mem_of_getElem? (i := 121) (by decide +kernel)
theorem gw_122 : Cond.fieldLink "RateBreaks" 177 "RateBreaks$Ratios" "ups" "[I" ∈ lw_tbl := List.mem_of_getElem? (i := 122) (by decide +kernel)
theorem gw_123 : Cond.fieldLink "RateBreaks$Ratios" 28 "RateBreaks$Ratios" "downs" "[I" ∈ lw_tbl := List.mem_of_getElem? (i := 123) (by decide +kernel)
theorem gw_124 : Cond.fieldLink "RateBreaks" 180 "RateBreaks$Ratios" "downs" "[I" ∈ lw_tbl := List.mem_of_getElem? (i := 124) (by decide +kernel)
theorem gw_125 : Cond.fieldLink "RateBreaks$Ratios" 9 "RateBreaks$Ratios" "size" "I" ∈ lw_tbl := List.mem_of_getElem? (i := 125) (by decide +kernel)
theorem gw_126 : Cond.fieldLink "RateBreaks" 124 "RateBreaks$Ratios" "size" "I" ∈ lw_tbl := List.mem_of_getElem? (i := 126) (by decide +kernel)
theorem gw_136 : Cond.fieldLink "RateBreaks" 10 "RateBreaks" "text" "LRateBreaks$Text;" ∈ lw_tbl := List.mem_of_getElem? (i := 136) (by decide +kernel)
theorem gw_137 : Cond.fieldLink "RateBreaks" 19 "RateBreaks" "rates" "LRateBreaks$Rates;" ∈ lw_tbl := List.mem_of_getElem? (i := 137) (by decide +kernel)
theorem gw_138 : Cond.fieldLink "RateBreaks" 23 "RateBreaks" "draft" "LRateBreaks$Rates;" ∈ lw_tbl := List.mem_of_getElem? (i := 138) (by decide +kernel)
theorem gw_139 : Cond.fieldLink "RateBreaks" 28 "RateBreaks" "shipments" "[LRateBreaks$Shipment;" ∈ lw_tbl := List.mem_of_getElem? (i := 139) (by decide +kernel)
theorem gw_140 : Cond.fieldLink "RateBreaks" 32 "RateBreaks" "made" "I" ∈ lw_tbl := List.mem_of_getElem? (i := 140) (by decide +kernel)
theorem gw_141 : Cond.fieldLink "RateBreaks" 38 "RateBreaks" "contracts" "[LRateBreaks$Ratios;" ∈ lw_tbl := List.mem_of_getElem? (i := 141) (by decide +kernel)
theorem gw_142 : Cond.fieldLink "RateBreaks" 45 "RateBreaks" "bookedBy" "[I" ∈ lw_tbl := List.mem_of_getElem? (i := 142) (by decide +kernel)
theorem gw_143 : Cond.fieldLink "RateBreaks" 49 "RateBreaks" "currencies" "LRateBreaks$Ratios;" ∈ lw_tbl := List.mem_of_getElem? (i := 143) (by decide +kernel)
theorem gw_161 : Cond.methodLink "RateBreaksLaw" 83 ⟨"RateBreaks", "read", "()I"⟩ ∈ lw_tbl := List.mem_of_getElem? (i := 161) (by decide +kernel)
theorem gw_162 : Cond.instanceMethod ⟨"RateBreaks", "read", "()I"⟩ ∈ lw_tbl := List.mem_of_getElem? (i := 162) (by decide +kernel)
theorem gw_163 : Cond.selects "RateBreaks" ⟨"RateBreaks", "read", "()I"⟩ ⟨"RateBreaks", "read", "()I"⟩ ∈ lw_tbl := List.mem_of_getElem? (i := 163) (by decide +kernel)
theorem gw_164 : Cond.code ⟨"RateBreaks", "read", "()I"⟩ prog_1_method_3_code 3 (Option.some FieldType.int) ∈ lw_tbl := List.mem_of_getElem? (i := 164) (by decide +kernel)
theorem gw_165 : Cond.methodLink "RateBreaks" 70 ⟨"RateBreaks", "readInto", "(LRateBreaks$Rates;)I"⟩ ∈ lw_tbl := List.mem_of_getElem? (i := 165) (by decide +kernel)
theorem gw_167 : Cond.instanceMethod ⟨"RateBreaks", "readInto", "(LRateBreaks$Rates;)I"⟩ ∈ lw_tbl := List.mem_of_getElem? (i := 167) (by decide +kernel)
theorem gw_168 : Cond.code ⟨"RateBreaks", "readInto", "(LRateBreaks$Rates;)I"⟩ prog_1_method_24_code 5 (Option.some FieldType.int) ∈ lw_tbl := List.mem_of_getElem? (i := 168) (by decide +kernel)
theorem gw_169 : Cond.methodLink "RateBreaks" 207 ⟨"RateBreaks$Rates", "clear", "()V"⟩ ∈ lw_tbl := List.mem_of_getElem? (i := 169) (by decide +kernel)
theorem gw_170 : Cond.methodLink "RateBreaks" 208 ⟨"RateBreaks$Text", "behindLine", "(I)I"⟩ ∈ lw_tbl := List.mem_of_getElem? (i := 170) (by decide +kernel)
theorem gw_171 : Cond.instanceMethod ⟨"RateBreaks$Text", "behindLine", "(I)I"⟩ ∈ lw_tbl := List.mem_of_getElem? (i := 171) (by decide +kernel)
theorem gw_172 : Cond.selects "RateBreaks$Text" ⟨"RateBreaks$Text", "behindLine", "(I)I"⟩ ⟨"RateBreaks$Text", "behindLine", "(I)I"⟩ ∈ lw_tbl := List.mem_of_getElem? (i := 172) (by decide +kernel)
theorem gw_173 : Cond.code ⟨"RateBreaks$Text", "behindLine", "(I)I"⟩ prog_5_method_5_code 4 (Option.some FieldType.int) ∈ lw_tbl := List.mem_of_getElem? (i := 173) (by decide +kernel)
theorem gw_174 : Cond.methodLink "RateBreaks$Text" 25 ⟨"RateBreaks$Text", "at", "(I)I"⟩ ∈ lw_tbl := List.mem_of_getElem? (i := 174) (by decide +kernel)
theorem gw_175 : Cond.instanceMethod ⟨"RateBreaks$Text", "at", "(I)I"⟩ ∈ lw_tbl := List.mem_of_getElem? (i := 175) (by decide +kernel)
theorem gw_176 : Cond.selects "RateBreaks$Text" ⟨"RateBreaks$Text", "at", "(I)I"⟩ ⟨"RateBreaks$Text", "at", "(I)I"⟩ ∈ lw_tbl := List.mem_of_getElem? (i := 176) (by decide +kernel)
theorem gw_177 : Cond.code ⟨"RateBreaks$Text", "at", "(I)I"⟩ prog_5_method_4_code 2 (Option.some FieldType.int) ∈ lw_tbl := List.mem_of_getElem? (i := 177) (by decide +kernel)
theorem gw_178 : Cond.methodLink "RateBreaks$Text" 29 ⟨"RateBreaks$Text", "numbersBehind", "(I)I"⟩ ∈ lw_tbl := List.mem_of_getElem? (i := 178) (by decide +kernel)
theorem gw_179 : Cond.static ⟨"RateBreaks$Text", "numbersBehind", "(I)I"⟩ ∈ lw_tbl := List.mem_of_getElem? (i := 179) (by decide +kernel)
theorem gw_180 : Cond.code ⟨"RateBreaks$Text", "numbersBehind", "(I)I"⟩ prog_5_method_6_code 1 (Option.some FieldType.int) ∈ lw_tbl := List.mem_of_getElem? (i := 180) (by decide +kernel)
theorem gw_181 : Cond.methodLink "RateBreaks$Text" 32 ⟨"RateBreaks$Text", "takeNumber", "()I"⟩ ∈ lw_tbl := List.mem_of_getElem? (i := 181) (by decide +kernel)
theorem gw_183 : Cond.instanceMethod ⟨"RateBreaks$Text", "takeNumber", "()I"⟩ ∈ lw_tbl := List.mem_of_getElem? (i := 183) (by decide +kernel)
theorem gw_184 : Cond.code ⟨"RateBreaks$Text", "takeNumber", "()I"⟩ prog_5_method_7_code 5 (Option.some FieldType.int) ∈ lw_tbl := List.mem_of_getElem? (i := 184) (by decide +kernel)
theorem gw_185 : Cond.methodLink "RateBreaks$Text" 36 ⟨"RateBreaks$Text", "isDigit", "(I)Z"⟩ ∈ lw_tbl := List.mem_of_getElem? (i := 185) (by decide +kernel)
theorem gw_186 : Cond.static ⟨"RateBreaks$Text", "isDigit", "(I)Z"⟩ ∈ lw_tbl := List.mem_of_getElem? (i := 186) (by decide +kernel)
theorem gw_187 : Cond.code ⟨"RateBreaks$Text", "isDigit", "(I)Z"⟩ prog_5_method_8_code 1 (Option.some FieldType.boolean) ∈ lw_tbl := List.mem_of_getElem? (i := 187) (by decide +kernel)
theorem gw_188 : Cond.methodLink "RateBreaks" 211 ⟨"RateBreaks$Text", "at", "(I)I"⟩ ∈ lw_tbl := List.mem_of_getElem? (i := 188) (by decide +kernel)
theorem gw_189 : Cond.methodLink "RateBreaks" 217 ⟨"RateBreaks$Rates", "take", "(I[I)Z"⟩ ∈ lw_tbl := List.mem_of_getElem? (i := 189) (by decide +kernel)
theorem gw_190 : Cond.instanceMethod ⟨"RateBreaks$Rates", "take", "(I[I)Z"⟩ ∈ lw_tbl := List.mem_of_getElem? (i := 190) (by decide +kernel)
theorem gw_191 : Cond.selects "RateBreaks$Rates" ⟨"RateBreaks$Rates", "take", "(I[I)Z"⟩ ⟨"RateBreaks$Rates", "take", "(I[I)Z"⟩ ∈ lw_tbl := List.mem_of_getElem? (i := 191) (by decide +kernel)
theorem gw_192 : Cond.code ⟨"RateBreaks$Rates", "take", "(I[I)Z"⟩ prog_2_method_3_code 3 (Option.some FieldType.boolean) ∈ lw_tbl := List.mem_of_getElem? (i := 192) (by decide +kernel)
theorem gw_193 : Cond.methodLink "RateBreaks$Rates" 46 ⟨"RateBreaks$Rates", "takeKind", "(I[I)Z"⟩ ∈ lw_tbl := List.mem_of_getElem? (i := 193) (by decide +kernel)
theorem gw_195 : Cond.instanceMethod ⟨"RateBreaks$Rates", "takeKind", "(I[I)Z"⟩ ∈ lw_tbl := List.mem_of_getElem? (i := 195) (by decide +kernel)
theorem gw_196 : Cond.code ⟨"RateBreaks$Rates", "takeKind", "(I[I)Z"⟩ prog_2_method_4_code 4 (Option.some FieldType.boolean) ∈ lw_tbl := List.mem_of_getElem? (i := 196) (by decide +kernel)
theorem gw_197 : Cond.methodLink "RateBreaks$Rates" 50 ⟨"RateBreaks$Rates", "takeStep", "(IIII)Z"⟩ ∈ lw_tbl := List.mem_of_getElem? (i := 197) (by decide +kernel)
theorem gw_199 : Cond.instanceMethod ⟨"RateBreaks$Rates", "takeStep", "(IIII)Z"⟩ ∈ lw_tbl := List.mem_of_getElem? (i := 199) (by decide +kernel)
theorem gw_200 : Cond.code ⟨"RateBreaks$Rates", "takeStep", "(IIII)Z"⟩ prog_2_method_6_code 7 (Option.some FieldType.boolean) ∈ lw_tbl := List.mem_of_getElem? (i := 200) (by decide +kernel)
theorem gw_201 : Cond.constant "RateBreaks$Rates" 54 (100000 : Int32) ∈ lw_tbl := List.mem_of_getElem? (i := 201) (by decide +kernel)
theorem gw_202 : Cond.constant "RateBreaks$Rates" 59 (1000000 : Int32) ∈ lw_tbl := List.mem_of_getElem? (i := 202) (by decide +kernel)
theorem gw_203 : Cond.methodLinkNest "RateBreaks$Rates" 60 ⟨"RateBreaks", "laneOf", "(II)I"⟩ "RateBreaks" ∈ lw_tbl := List.mem_of_getElem? (i := 203) (by decide +kernel)
theorem gw_204 : Cond.static ⟨"RateBreaks", "laneOf", "(II)I"⟩ ∈ lw_tbl := List.mem_of_getElem? (i := 204) (by decide +kernel)
theorem gw_205 : Cond.code ⟨"RateBreaks", "laneOf", "(II)I"⟩ prog_1_method_26_code 2 (Option.some FieldType.int) ∈ lw_tbl := List.mem_of_getElem? (i := 205) (by decide +kernel)
theorem gw_206 : Cond.methodLink "RateBreaks$Rates" 64 ⟨"RateBreaks$Rates", "heaviest", "(I)I"⟩ ∈ lw_tbl := List.mem_of_getElem? (i := 206) (by decide +kernel)
theorem gw_208 : Cond.instanceMethod ⟨"RateBreaks$Rates", "heaviest", "(I)I"⟩ ∈ lw_tbl := List.mem_of_getElem? (i := 208) (by decide +kernel)
theorem gw_209 : Cond.code ⟨"RateBreaks$Rates", "heaviest", "(I)I"⟩ prog_2_method_7_code 4 (Option.some FieldType.int) ∈ lw_tbl := List.mem_of_getElem? (i := 209) (by decide +kernel)
theorem gw_210 : Cond.methodLink "RateBreaks$Rates" 55 ⟨"RateBreaks$Rates", "takeOnce", "([IIII)Z"⟩ ∈ lw_tbl := List.mem_of_getElem? (i := 210) (by decide +kernel)
theorem gw_211 : Cond.static ⟨"RateBreaks$Rates", "takeOnce", "([IIII)Z"⟩ ∈ lw_tbl := List.mem_of_getElem? (i := 211) (by decide +kernel)
theorem gw_212 : Cond.code ⟨"RateBreaks$Rates", "takeOnce", "([IIII)Z"⟩ prog_2_method_5_code 4 (Option.some FieldType.boolean) ∈ lw_tbl := List.mem_of_getElem? (i := 212) (by decide +kernel)
theorem gw_213 : Cond.methodLink "RateBreaks" 74 ⟨"RateBreaks$Text", "clear", "()V"⟩ ∈ lw_tbl := List.mem_of_getElem? (i := 213) (by decide +kernel)
theorem gw_214 : Cond.instanceMethod ⟨"RateBreaks$Text", "clear", "()V"⟩ ∈ lw_tbl := List.mem_of_getElem? (i := 214) (by decide +kernel)
theorem gw_215 : Cond.selects "RateBreaks$Text" ⟨"RateBreaks$Text", "clear", "()V"⟩ ⟨"RateBreaks$Text", "clear", "()V"⟩ ∈ lw_tbl := List.mem_of_getElem? (i := 215) (by decide +kernel)
theorem gw_216 : Cond.code ⟨"RateBreaks$Text", "clear", "()V"⟩ prog_5_method_2_code 1 (Option.none : Option Jvm.ClassFile.FieldType) ∈ lw_tbl := List.mem_of_getElem? (i := 216) (by decide +kernel)
theorem gw_217 : Cond.methodLink "RateBreaksLaw" 132 ⟨"RateBreaks", "count", "(I)I"⟩ ∈ lw_tbl := List.mem_of_getElem? (i := 217) (by decide +kernel)
theorem gw_218 : Cond.instanceMethod ⟨"RateBreaks", "count", "(I)I"⟩ ∈ lw_tbl := List.mem_of_getElem? (i := 218) (by decide +kernel)
theorem gw_219 : Cond.selects "RateBreaks" ⟨"RateBreaks", "count", "(I)I"⟩ ⟨"RateBreaks", "count", "(I)I"⟩ ∈ lw_tbl := List.mem_of_getElem? (i := 219) (by decide +kernel)
theorem gw_220 : Cond.code ⟨"RateBreaks", "count", "(I)I"⟩ prog_1_method_18_code 5 (Option.some FieldType.int) ∈ lw_tbl := List.mem_of_getElem? (i := 220) (by decide +kernel)
theorem gw_221 : Cond.methodLink "RateBreaks" 189 ⟨"RateBreaks", "addend", "(LRateBreaks$Shipment;I)I"⟩ ∈ lw_tbl := List.mem_of_getElem? (i := 221) (by decide +kernel)
theorem gw_222 : Cond.static ⟨"RateBreaks", "addend", "(LRateBreaks$Shipment;I)I"⟩ ∈ lw_tbl := List.mem_of_getElem? (i := 222) (by decide +kernel)
theorem gw_223 : Cond.code ⟨"RateBreaks", "addend", "(LRateBreaks$Shipment;I)I"⟩ prog_1_method_19_code 2 (Option.some FieldType.int) ∈ lw_tbl := List.mem_of_getElem? (i := 223) (by decide +kernel)
theorem gw_224 : Cond.methodLink "RateBreaks" 127 ⟨"RateBreaks$Shipment", "isBooked", "()Z"⟩ ∈ lw_tbl := List.mem_of_getElem? (i := 224) (by decide +kernel)
theorem gw_225 : Cond.instanceMethod ⟨"RateBreaks$Shipment", "isBooked", "()Z"⟩ ∈ lw_tbl := List.mem_of_getElem? (i := 225) (by decide +kernel)
theorem gw_226 : Cond.selects "RateBreaks$Shipment" ⟨"RateBreaks$Shipment", "isBooked", "()Z"⟩ ⟨"RateBreaks$Shipment", "isBooked", "()Z"⟩ ∈ lw_tbl := List.mem_of_getElem? (i := 226) (by decide +kernel)
theorem gw_227 : Cond.code ⟨"RateBreaks$Shipment", "isBooked", "()Z"⟩ prog_4_method_2_code 1 (Option.some FieldType.boolean) ∈ lw_tbl := List.mem_of_getElem? (i := 227) (by decide +kernel)
theorem gw_228 : Cond.methodLink "RateBreaks" 156 ⟨"RateBreaks$Shipment", "isInvoiced", "()Z"⟩ ∈ lw_tbl := List.mem_of_getElem? (i := 228) (by decide +kernel)
theorem gw_229 : Cond.instanceMethod ⟨"RateBreaks$Shipment", "isInvoiced", "()Z"⟩ ∈ lw_tbl := List.mem_of_getElem? (i := 229) (by decide +kernel)
theorem gw_230 : Cond.selects "RateBreaks$Shipment" ⟨"RateBreaks$Shipment", "isInvoiced", "()Z"⟩ ⟨"RateBreaks$Shipment", "isInvoiced", "()Z"⟩ ∈ lw_tbl := List.mem_of_getElem? (i := 230) (by decide +kernel)
theorem gw_231 : Cond.code ⟨"RateBreaks$Shipment", "isInvoiced", "()Z"⟩ prog_4_method_3_code 1 (Option.some FieldType.boolean) ∈ lw_tbl := List.mem_of_getElem? (i := 231) (by decide +kernel)
theorem gw_232 : Cond.methodLink "RateBreaksLaw" 73 ⟨"RateBreaksLaw", "sign", "(LRateBreaks;I[J)I"⟩ ∈ lw_tbl := List.mem_of_getElem? (i := 232) (by decide +kernel)
theorem gw_233 : Cond.static ⟨"RateBreaksLaw", "sign", "(LRateBreaks;I[J)I"⟩ ∈ lw_tbl := List.mem_of_getElem? (i := 233) (by decide +kernel)
theorem gw_234 : Cond.codeWith ⟨"RateBreaksLaw", "sign", "(LRateBreaks;I[J)I"⟩ method_3_code 4 (Option.some FieldType.int) [(0, 9, 12, 13), (0, 9, 15, 15)] ∈ lw_tbl := List.mem_of_getElem? (i := 234) (by decide +kernel)
theorem gw_235 : Cond.classLink "RateBreaksLaw" 13 "java/lang/IllegalArgumentException" ∈ lw_tbl := List.mem_of_getElem? (i := 235) (by decide +kernel)
theorem gw_236 : Cond.classLink "RateBreaksLaw" 15 "java/lang/UnsupportedOperationException" ∈ lw_tbl := List.mem_of_getElem? (i := 236) (by decide +kernel)
theorem gw_237 : Cond.methodLink "RateBreaksLaw" 7 ⟨"RateBreaks", "sign", "(I)I"⟩ ∈ lw_tbl := List.mem_of_getElem? (i := 237) (by decide +kernel)
theorem gw_238 : Cond.instanceMethod ⟨"RateBreaks", "sign", "(I)I"⟩ ∈ lw_tbl := List.mem_of_getElem? (i := 238) (by decide +kernel)
theorem gw_239 : Cond.selects "RateBreaks" ⟨"RateBreaks", "sign", "(I)I"⟩ ⟨"RateBreaks", "sign", "(I)I"⟩ ∈ lw_tbl := List.mem_of_getElem? (i := 239) (by decide +kernel)
theorem gw_240 : Cond.code ⟨"RateBreaks", "sign", "(I)I"⟩ prog_1_method_2_code 2 (Option.some FieldType.int) ∈ lw_tbl := List.mem_of_getElem? (i := 240) (by decide +kernel)
theorem gw_241 : Cond.methodLink "RateBreaks" 53 ⟨"RateBreaks", "needWithin", "(III)V"⟩ ∈ lw_tbl := List.mem_of_getElem? (i := 241) (by decide +kernel)
theorem gw_242 : Cond.static ⟨"RateBreaks", "needWithin", "(III)V"⟩ ∈ lw_tbl := List.mem_of_getElem? (i := 242) (by decide +kernel)
theorem gw_243 : Cond.code ⟨"RateBreaks", "needWithin", "(III)V"⟩ prog_1_method_20_code 3 (Option.none : Option Jvm.ClassFile.FieldType) ∈ lw_tbl := List.mem_of_getElem? (i := 243) (by decide +kernel)
theorem gw_244 : Cond.classLink "RateBreaks" 166 "java/lang/IllegalArgumentException" ∈ lw_tbl := List.mem_of_getElem? (i := 244) (by decide +kernel)
theorem gw_245 : Cond.instantiable "java/lang/IllegalArgumentException" 6 ∈ lw_tbl := List.mem_of_getElem? (i := 245) (by decide +kernel)
theorem gw_246 : Cond.castable "java/lang/IllegalArgumentException" "java/lang/IllegalArgumentException" ∈ lw_tbl := List.mem_of_getElem? (i := 246) (by decide +kernel)
theorem gw_268 : Cond.code ⟨"java/lang/Throwable", "<init>", "()V"⟩ prog_15_method_1_code 1 (Option.none : Option Jvm.ClassFile.FieldType) ∈ lw_tbl := List.mem_of_getElem? (i := 268) (by decide +kernel)
theorem gw_285 : Cond.instantiable "java/lang/Throwable" 6 ∈ lw_tbl := List.mem_of_getElem? (i := 285) (by decide +kernel)
theorem gw_287 : Cond.stringRef "RateBreaks" 192 "a number is outside its range" ∈ lw_tbl := List.mem_of_getElem? (i := 287) (by decide +kernel)
theorem gw_288 : Cond.methodLink "RateBreaks" 170 ⟨"java/lang/IllegalArgumentException", "<init>", "(Ljava/lang/String;)V"⟩ ∈ lw_tbl := List.mem_of_getElem? (i := 288) (by decide +kernel)
theorem gw_289 : Cond.instanceMethod ⟨"java/lang/IllegalArgumentException", "<init>", "(Ljava/lang/String;)V"⟩ ∈ lw_tbl := List.mem_of_getElem? (i := 289) (by decide +kernel)
theorem gw_290 : Cond.code ⟨"java/lang/IllegalArgumentException", "<init>", "(Ljava/lang/String;)V"⟩ prog_10_method_2_code 2 (Option.none : Option Jvm.ClassFile.FieldType) ∈ lw_tbl := List.mem_of_getElem? (i := 290) (by decide +kernel)
theorem gw_293 : Cond.code ⟨"java/lang/RuntimeException", "<init>", "(Ljava/lang/String;)V"⟩ prog_13_method_2_code 2 (Option.none : Option Jvm.ClassFile.FieldType) ∈ lw_tbl := List.mem_of_getElem? (i := 293) (by decide +kernel)
theorem gw_296 : Cond.code ⟨"java/lang/Exception", "<init>", "(Ljava/lang/String;)V"⟩ prog_9_method_2_code 2 (Option.none : Option Jvm.ClassFile.FieldType) ∈ lw_tbl := List.mem_of_getElem? (i := 296) (by decide +kernel)
theorem gw_299 : Cond.code ⟨"java/lang/Throwable", "<init>", "(Ljava/lang/String;)V"⟩ prog_15_method_2_code 2 (Option.none : Option Jvm.ClassFile.FieldType) ∈ lw_tbl := List.mem_of_getElem? (i := 299) (by decide +kernel)
theorem gw_313 : Cond.arrayClass FieldType.byte ∈ lw_tbl := List.mem_of_getElem? (i := 313) (by decide +kernel)
theorem gw_314 : Cond.classLink "RateBreaks" 60 "java/lang/UnsupportedOperationException" ∈ lw_tbl := List.mem_of_getElem? (i := 314) (by decide +kernel)
theorem gw_315 : Cond.instantiable "java/lang/UnsupportedOperationException" 6 ∈ lw_tbl := List.mem_of_getElem? (i := 315) (by decide +kernel)
theorem gw_316 : Cond.castable "java/lang/UnsupportedOperationException" "java/lang/UnsupportedOperationException" ∈ lw_tbl := List.mem_of_getElem? (i := 316) (by decide +kernel)
theorem gw_323 : Cond.stringRef "RateBreaks" 62 "the text is full" ∈ lw_tbl := List.mem_of_getElem? (i := 323) (by decide +kernel)
theorem gw_324 : Cond.methodLink "RateBreaks" 64 ⟨"java/lang/UnsupportedOperationException", "<init>", "(Ljava/lang/String;)V"⟩ ∈ lw_tbl := List.mem_of_getElem? (i := 324) (by decide +kernel)
theorem gw_325 : Cond.instanceMethod ⟨"java/lang/UnsupportedOperationException", "<init>", "(Ljava/lang/String;)V"⟩ ∈ lw_tbl := List.mem_of_getElem? (i := 325) (by decide +kernel)
theorem gw_326 : Cond.code ⟨"java/lang/UnsupportedOperationException", "<init>", "(Ljava/lang/String;)V"⟩ prog_16_method_2_code 2 (Option.none : Option Jvm.ClassFile.FieldType) ∈ lw_tbl := List.mem_of_getElem? (i := 326) (by decide +kernel)
theorem gw_330 : Cond.methodLink "RateBreaks" 67 ⟨"RateBreaks$Text", "append", "(I)V"⟩ ∈ lw_tbl := List.mem_of_getElem? (i := 330) (by decide +kernel)
theorem gw_331 : Cond.instanceMethod ⟨"RateBreaks$Text", "append", "(I)V"⟩ ∈ lw_tbl := List.mem_of_getElem? (i := 331) (by decide +kernel)
theorem gw_332 : Cond.selects "RateBreaks$Text" ⟨"RateBreaks$Text", "append", "(I)V"⟩ ⟨"RateBreaks$Text", "append", "(I)V"⟩ ∈ lw_tbl := List.mem_of_getElem? (i := 332) (by decide +kernel)
theorem gw_333 : Cond.code ⟨"RateBreaks$Text", "append", "(I)V"⟩ prog_5_method_3_code 2 (Option.none : Option Jvm.ClassFile.FieldType) ∈ lw_tbl := List.mem_of_getElem? (i := 333) (by decide +kernel)
theorem gw_334 : Cond.methodLink "RateBreaksLaw" 87 ⟨"RateBreaksLaw", "shipment", "(LRateBreaks;III[J)I"⟩ ∈ lw_tbl := List.mem_of_getElem? (i := 334) (by decide +kernel)
theorem gw_335 : Cond.static ⟨"RateBreaksLaw", "shipment", "(LRateBreaks;III[J)I"⟩ ∈ lw_tbl := List.mem_of_getElem? (i := 335) (by decide +kernel)
theorem gw_336 : Cond.codeWith ⟨"RateBreaksLaw", "shipment", "(LRateBreaks;III[J)I"⟩ method_4_code 6 (Option.some FieldType.int) [(0, 12, 15, 13), (0, 12, 19, 15)] ∈ lw_tbl := List.mem_of_getElem? (i := 336) (by decide +kernel)
theorem gw_337 : Cond.methodLink "RateBreaksLaw" 17 ⟨"RateBreaks", "shipment", "(III)I"⟩ ∈ lw_tbl := List.mem_of_getElem? (i := 337) (by decide +kernel)
theorem gw_338 : Cond.instanceMethod ⟨"RateBreaks", "shipment", "(III)I"⟩ ∈ lw_tbl := List.mem_of_getElem? (i := 338) (by decide +kernel)
theorem gw_339 : Cond.selects "RateBreaks" ⟨"RateBreaks", "shipment", "(III)I"⟩ ⟨"RateBreaks", "shipment", "(III)I"⟩ ∈ lw_tbl := List.mem_of_getElem? (i := 339) (by decide +kernel)
theorem gw_340 : Cond.code ⟨"RateBreaks", "shipment", "(III)I"⟩ prog_1_method_4_code 4 (Option.some FieldType.int) ∈ lw_tbl := List.mem_of_getElem? (i := 340) (by decide +kernel)
theorem gw_341 : Cond.constant "RateBreaks" 80 (100000 : Int32) ∈ lw_tbl := List.mem_of_getElem? (i := 341) (by decide +kernel)
theorem gw_342 : Cond.constant "RateBreaks" 81 (100000000 : Int32) ∈ lw_tbl := List.mem_of_getElem? (i := 342) (by decide +kernel)
theorem gw_343 : Cond.stringRef "RateBreaks" 82 "no room for a shipment" ∈ lw_tbl := List.mem_of_getElem? (i := 343) (by decide +kernel)
theorem gw_344 : Cond.instantiable "RateBreaks$Shipment" 6 ∈ lw_tbl := List.mem_of_getElem? (i := 344) (by decide +kernel)
theorem gw_345 : Cond.methodLink "RateBreaks" 84 ⟨"RateBreaks$Shipment", "<init>", "(III)V"⟩ ∈ lw_tbl := List.mem_of_getElem? (i := 345) (by decide +kernel)
theorem gw_346 : Cond.instanceMethod ⟨"RateBreaks$Shipment", "<init>", "(III)V"⟩ ∈ lw_tbl := List.mem_of_getElem? (i := 346) (by decide +kernel)
theorem gw_347 : Cond.code ⟨"RateBreaks$Shipment", "<init>", "(III)V"⟩ prog_4_method_1_code 4 (Option.none : Option Jvm.ClassFile.FieldType) ∈ lw_tbl := List.mem_of_getElem? (i := 347) (by decide +kernel)
theorem gw_348 : Cond.methodLink "RateBreaks$Shipment" 3 ⟨"java/lang/Object", "<init>", "()V"⟩ ∈ lw_tbl := List.mem_of_getElem? (i := 348) (by decide +kernel)
theorem gw_349 : Cond.fieldLink "RateBreaks$Shipment" 21 "RateBreaks$Shipment" "zone" "I" ∈ lw_tbl := List.mem_of_getElem? (i := 349) (by decide +kernel)
theorem gw_350 : Cond.fieldLink "RateBreaks" 103 "RateBreaks$Shipment" "zone" "I" ∈ lw_tbl := List.mem_of_getElem? (i := 350) (by decide +kernel)
theorem gw_351 : Cond.fieldLink "RateBreaks$Shipment" 24 "RateBreaks$Shipment" "grams" "I" ∈ lw_tbl := List.mem_of_getElem? (i := 351) (by decide +kernel)
theorem gw_352 : Cond.fieldLink "RateBreaks$Rates" 68 "RateBreaks$Shipment" "grams" "I" ∈ lw_tbl := List.mem_of_getElem? (i := 352) (by decide +kernel)
theorem gw_353 : Cond.fieldLink "RateBreaks" 110 "RateBreaks$Shipment" "grams" "I" ∈ lw_tbl := List.mem_of_getElem? (i := 353) (by decide +kernel)
theorem gw_354 : Cond.fieldLink "RateBreaks$Shipment" 27 "RateBreaks$Shipment" "volume" "I" ∈ lw_tbl := List.mem_of_getElem? (i := 354) (by decide +kernel)
theorem gw_355 : Cond.fieldLink "RateBreaks$Rates" 73 "RateBreaks$Shipment" "volume" "I" ∈ lw_tbl := List.mem_of_getElem? (i := 355) (by decide +kernel)
theorem gw_356 : Cond.fieldLink "RateBreaks" 150 "RateBreaks$Shipment" "volume" "I" ∈ lw_tbl := List.mem_of_getElem? (i := 356) (by decide +kernel)
theorem gw_357 : Cond.fieldLink "RateBreaks$Shipment" 9 "RateBreaks$Shipment" "service" "I" ∈ lw_tbl := List.mem_of_getElem? (i := 357) (by decide +kernel)
theorem gw_358 : Cond.fieldLink "RateBreaks" 138 "RateBreaks$Shipment" "service" "I" ∈ lw_tbl := List.mem_of_getElem? (i := 358) (by decide +kernel)
theorem gw_359 : Cond.fieldLink "RateBreaks$Shipment" 15 "RateBreaks$Shipment" "cents" "I" ∈ lw_tbl := List.mem_of_getElem? (i := 359) (by decide +kernel)
theorem gw_360 : Cond.fieldLink "RateBreaks" 141 "RateBreaks$Shipment" "cents" "I" ∈ lw_tbl := List.mem_of_getElem? (i := 360) (by decide +kernel)
theorem gw_361 : Cond.fieldLink "RateBreaks$Shipment" 18 "RateBreaks$Shipment" "left" "I" ∈ lw_tbl := List.mem_of_getElem? (i := 361) (by decide +kernel)
theorem gw_362 : Cond.fieldLink "RateBreaks" 161 "RateBreaks$Shipment" "left" "I" ∈ lw_tbl := List.mem_of_getElem? (i := 362) (by decide +kernel)
theorem gw_376 : Cond.methodLink "RateBreaksLaw" 91 ⟨"RateBreaksLaw", "weight", "(LRateBreaks;II[J)I"⟩ ∈ lw_tbl := List.mem_of_getElem? (i := 376) (by decide +kernel)
theorem gw_377 : Cond.static ⟨"RateBreaksLaw", "weight", "(LRateBreaks;II[J)I"⟩ ∈ lw_tbl := List.mem_of_getElem? (i := 377) (by decide +kernel)
theorem gw_378 : Cond.codeWith ⟨"RateBreaksLaw", "weight", "(LRateBreaks;II[J)I"⟩ method_5_code 5 (Option.some FieldType.int) [(0, 10, 13, 25), (0, 10, 17, 13), (0, 10, 21, 27)] ∈ lw_tbl := List.mem_of_getElem? (i := 378) (by decide +kernel)
theorem gw_379 : Cond.classLink "RateBreaksLaw" 25 "java/util/NoSuchElementException" ∈ lw_tbl := List.mem_of_getElem? (i := 379) (by decide +kernel)
theorem gw_380 : Cond.classLink "RateBreaksLaw" 27 "java/lang/ArithmeticException" ∈ lw_tbl := List.mem_of_getElem? (i := 380) (by decide +kernel)
theorem gw_381 : Cond.methodLink "RateBreaksLaw" 21 ⟨"RateBreaks", "weight", "(II)I"⟩ ∈ lw_tbl := List.mem_of_getElem? (i := 381) (by decide +kernel)
theorem gw_382 : Cond.instanceMethod ⟨"RateBreaks", "weight", "(II)I"⟩ ∈ lw_tbl := List.mem_of_getElem? (i := 382) (by decide +kernel)
theorem gw_383 : Cond.selects "RateBreaks" ⟨"RateBreaks", "weight", "(II)I"⟩ ⟨"RateBreaks", "weight", "(II)I"⟩ ∈ lw_tbl := List.mem_of_getElem? (i := 383) (by decide +kernel)
theorem gw_384 : Cond.code ⟨"RateBreaks", "weight", "(II)I"⟩ prog_1_method_5_code 4 (Option.some FieldType.int) ∈ lw_tbl := List.mem_of_getElem? (i := 384) (by decide +kernel)
theorem gw_385 : Cond.methodLink "RateBreaks" 86 ⟨"RateBreaks", "present", "(I)LRateBreaks$Shipment;"⟩ ∈ lw_tbl := List.mem_of_getElem? (i := 385) (by decide +kernel)
theorem gw_387 : Cond.instanceMethod ⟨"RateBreaks", "present", "(I)LRateBreaks$Shipment;"⟩ ∈ lw_tbl := List.mem_of_getElem? (i := 387) (by decide +kernel)
theorem gw_388 : Cond.code ⟨"RateBreaks", "present", "(I)LRateBreaks$Shipment;"⟩ prog_1_method_23_code 3 (Option.some (FieldType.object "RateBreaks$Shipment")) ∈ lw_tbl := List.mem_of_getElem? (i := 388) (by decide +kernel)
theorem gw_389 : Cond.classLink "RateBreaks" 202 "java/util/NoSuchElementException" ∈ lw_tbl := List.mem_of_getElem? (i := 389) (by decide +kernel)
theorem gw_390 : Cond.instantiable "java/util/NoSuchElementException" 6 ∈ lw_tbl := List.mem_of_getElem? (i := 390) (by decide +kernel)
theorem gw_391 : Cond.castable "java/util/NoSuchElementException" "java/util/NoSuchElementException" ∈ lw_tbl := List.mem_of_getElem? (i := 391) (by decide +kernel)
theorem gw_398 : Cond.stringRef "RateBreaks" 204 "there is no such shipment" ∈ lw_tbl := List.mem_of_getElem? (i := 398) (by decide +kernel)
theorem gw_399 : Cond.methodLink "RateBreaks" 206 ⟨"java/util/NoSuchElementException", "<init>", "(Ljava/lang/String;)V"⟩ ∈ lw_tbl := List.mem_of_getElem? (i := 399) (by decide +kernel)
theorem gw_400 : Cond.instanceMethod ⟨"java/util/NoSuchElementException", "<init>", "(Ljava/lang/String;)V"⟩ ∈ lw_tbl := List.mem_of_getElem? (i := 400) (by decide +kernel)
theorem gw_401 : Cond.code ⟨"java/util/NoSuchElementException", "<init>", "(Ljava/lang/String;)V"⟩ prog_17_method_4_code 2 (Option.none : Option Jvm.ClassFile.FieldType) ∈ lw_tbl := List.mem_of_getElem? (i := 401) (by decide +kernel)
theorem gw_405 : Cond.methodLink "RateBreaks" 90 ⟨"RateBreaks", "needService", "(I)V"⟩ ∈ lw_tbl := List.mem_of_getElem? (i := 405) (by decide +kernel)
theorem gw_406 : Cond.static ⟨"RateBreaks", "needService", "(I)V"⟩ ∈ lw_tbl := List.mem_of_getElem? (i := 406) (by decide +kernel)
theorem gw_407 : Cond.code ⟨"RateBreaks", "needService", "(I)V"⟩ prog_1_method_21_code 1 (Option.none : Option Jvm.ClassFile.FieldType) ∈ lw_tbl := List.mem_of_getElem? (i := 407) (by decide +kernel)
theorem gw_408 : Cond.stringRef "RateBreaks" 194 "there is no such service" ∈ lw_tbl := List.mem_of_getElem? (i := 408) (by decide +kernel)
theorem gw_409 : Cond.methodLink "RateBreaks" 93 ⟨"RateBreaks$Rates", "weightToPay", "(LRateBreaks$Shipment;I)I"⟩ ∈ lw_tbl := List.mem_of_getElem? (i := 409) (by decide +kernel)
theorem gw_410 : Cond.instanceMethod ⟨"RateBreaks$Rates", "weightToPay", "(LRateBreaks$Shipment;I)I"⟩ ∈ lw_tbl := List.mem_of_getElem? (i := 410) (by decide +kernel)
theorem gw_411 : Cond.selects "RateBreaks$Rates" ⟨"RateBreaks$Rates", "weightToPay", "(LRateBreaks$Shipment;I)I"⟩ ⟨"RateBreaks$Rates", "weightToPay", "(LRateBreaks$Shipment;I)I"⟩ ∈ lw_tbl := List.mem_of_getElem? (i := 411) (by decide +kernel)
theorem gw_412 : Cond.code ⟨"RateBreaks$Rates", "weightToPay", "(LRateBreaks$Shipment;I)I"⟩ prog_2_method_8_code 5 (Option.some FieldType.int) ∈ lw_tbl := List.mem_of_getElem? (i := 412) (by decide +kernel)
theorem gw_413 : Cond.methodLinkNest "RateBreaks$Rates" 76 ⟨"RateBreaks", "dividedUp", "(JJ)J"⟩ "RateBreaks" ∈ lw_tbl := List.mem_of_getElem? (i := 413) (by decide +kernel)
theorem gw_414 : Cond.static ⟨"RateBreaks", "dividedUp", "(JJ)J"⟩ ∈ lw_tbl := List.mem_of_getElem? (i := 414) (by decide +kernel)
theorem gw_415 : Cond.code ⟨"RateBreaks", "dividedUp", "(JJ)J"⟩ prog_1_method_28_code 4 (Option.some FieldType.long) ∈ lw_tbl := List.mem_of_getElem? (i := 415) (by decide +kernel)
theorem gw_416 : Cond.methodLink "RateBreaks" 183 ⟨"RateBreaks", "dividedDown", "(JJ)J"⟩ ∈ lw_tbl := List.mem_of_getElem? (i := 416) (by decide +kernel)
theorem gw_417 : Cond.static ⟨"RateBreaks", "dividedDown", "(JJ)J"⟩ ∈ lw_tbl := List.mem_of_getElem? (i := 417) (by decide +kernel)
theorem gw_418 : Cond.code ⟨"RateBreaks", "dividedDown", "(JJ)J"⟩ prog_1_method_27_code 4 (Option.some FieldType.long) ∈ lw_tbl := List.mem_of_getElem? (i := 418) (by decide +kernel)
theorem gw_419 : Cond.classLink "RateBreaks" 231 "java/lang/ArithmeticException" ∈ lw_tbl := List.mem_of_getElem? (i := 419) (by decide +kernel)
theorem gw_420 : Cond.instantiable "java/lang/ArithmeticException" 6 ∈ lw_tbl := List.mem_of_getElem? (i := 420) (by decide +kernel)
theorem gw_421 : Cond.castable "java/lang/ArithmeticException" "java/lang/ArithmeticException" ∈ lw_tbl := List.mem_of_getElem? (i := 421) (by decide +kernel)
theorem gw_428 : Cond.stringRef "RateBreaks" 233 "the divisor is 0" ∈ lw_tbl := List.mem_of_getElem? (i := 428) (by decide +kernel)
theorem gw_429 : Cond.methodLink "RateBreaks" 235 ⟨"java/lang/ArithmeticException", "<init>", "(Ljava/lang/String;)V"⟩ ∈ lw_tbl := List.mem_of_getElem? (i := 429) (by decide +kernel)
theorem gw_430 : Cond.instanceMethod ⟨"java/lang/ArithmeticException", "<init>", "(Ljava/lang/String;)V"⟩ ∈ lw_tbl := List.mem_of_getElem? (i := 430) (by decide +kernel)
theorem gw_431 : Cond.code ⟨"java/lang/ArithmeticException", "<init>", "(Ljava/lang/String;)V"⟩ prog_8_method_2_code 2 (Option.none : Option Jvm.ClassFile.FieldType) ∈ lw_tbl := List.mem_of_getElem? (i := 431) (by decide +kernel)
theorem gw_435 : Cond.methodLink "RateBreaks$Rates" 80 ⟨"java/lang/Math", "max", "(II)I"⟩ ∈ lw_tbl := List.mem_of_getElem? (i := 435) (by decide +kernel)
theorem gw_436 : Cond.methodLink "RateBreaksLaw" 95 ⟨"RateBreaksLaw", "price", "(LRateBreaks;II[J)I"⟩ ∈ lw_tbl := List.mem_of_getElem? (i := 436) (by decide +kernel)
theorem gw_437 : Cond.static ⟨"RateBreaksLaw", "price", "(LRateBreaks;II[J)I"⟩ ∈ lw_tbl := List.mem_of_getElem? (i := 437) (by decide +kernel)
theorem gw_438 : Cond.codeWith ⟨"RateBreaksLaw", "price", "(LRateBreaks;II[J)I"⟩ method_6_code 5 (Option.some FieldType.int) [(0, 10, 13, 25), (0, 10, 17, 13), (0, 10, 21, 27)] ∈ lw_tbl := List.mem_of_getElem? (i := 438) (by decide +kernel)
theorem gw_439 : Cond.methodLink "RateBreaksLaw" 29 ⟨"RateBreaks", "price", "(II)I"⟩ ∈ lw_tbl := List.mem_of_getElem? (i := 439) (by decide +kernel)
theorem gw_440 : Cond.instanceMethod ⟨"RateBreaks", "price", "(II)I"⟩ ∈ lw_tbl := List.mem_of_getElem? (i := 440) (by decide +kernel)
theorem gw_441 : Cond.selects "RateBreaks" ⟨"RateBreaks", "price", "(II)I"⟩ ⟨"RateBreaks", "price", "(II)I"⟩ ∈ lw_tbl := List.mem_of_getElem? (i := 441) (by decide +kernel)
theorem gw_442 : Cond.code ⟨"RateBreaks", "price", "(II)I"⟩ prog_1_method_6_code 4 (Option.some FieldType.int) ∈ lw_tbl := List.mem_of_getElem? (i := 442) (by decide +kernel)
theorem gw_443 : Cond.methodLink "RateBreaks" 97 ⟨"RateBreaks", "priceNow", "(LRateBreaks$Shipment;I)I"⟩ ∈ lw_tbl := List.mem_of_getElem? (i := 443) (by decide +kernel)
theorem gw_445 : Cond.instanceMethod ⟨"RateBreaks", "priceNow", "(LRateBreaks$Shipment;I)I"⟩ ∈ lw_tbl := List.mem_of_getElem? (i := 445) (by decide +kernel)
theorem gw_446 : Cond.code ⟨"RateBreaks", "priceNow", "(LRateBreaks$Shipment;I)I"⟩ prog_1_method_25_code 8 (Option.some FieldType.int) ∈ lw_tbl := List.mem_of_getElem? (i := 446) (by decide +kernel)
theorem gw_447 : Cond.methodLink "RateBreaks" 106 ⟨"RateBreaks", "laneOf", "(II)I"⟩ ∈ lw_tbl := List.mem_of_getElem? (i := 447) (by decide +kernel)
theorem gw_448 : Cond.methodLink "RateBreaks" 221 ⟨"RateBreaks$Rates", "stepFor", "(II)I"⟩ ∈ lw_tbl := List.mem_of_getElem? (i := 448) (by decide +kernel)
theorem gw_449 : Cond.instanceMethod ⟨"RateBreaks$Rates", "stepFor", "(II)I"⟩ ∈ lw_tbl := List.mem_of_getElem? (i := 449) (by decide +kernel)
theorem gw_450 : Cond.selects "RateBreaks$Rates" ⟨"RateBreaks$Rates", "stepFor", "(II)I"⟩ ⟨"RateBreaks$Rates", "stepFor", "(II)I"⟩ ∈ lw_tbl := List.mem_of_getElem? (i := 450) (by decide +kernel)
theorem gw_451 : Cond.code ⟨"RateBreaks$Rates", "stepFor", "(II)I"⟩ prog_2_method_9_code 4 (Option.some FieldType.int) ∈ lw_tbl := List.mem_of_getElem? (i := 451) (by decide +kernel)
theorem gw_452 : Cond.methodLink "RateBreaks" 224 ⟨"RateBreaks$Rates", "charged", "(II)J"⟩ ∈ lw_tbl := List.mem_of_getElem? (i := 452) (by decide +kernel)
theorem gw_453 : Cond.instanceMethod ⟨"RateBreaks$Rates", "charged", "(II)J"⟩ ∈ lw_tbl := List.mem_of_getElem? (i := 453) (by decide +kernel)
theorem gw_454 : Cond.selects "RateBreaks$Rates" ⟨"RateBreaks$Rates", "charged", "(II)J"⟩ ⟨"RateBreaks$Rates", "charged", "(II)J"⟩ ∈ lw_tbl := List.mem_of_getElem? (i := 454) (by decide +kernel)
theorem gw_455 : Cond.code ⟨"RateBreaks$Rates", "charged", "(II)J"⟩ prog_2_method_10_code 5 (Option.some FieldType.long) ∈ lw_tbl := List.mem_of_getElem? (i := 455) (by decide +kernel)
theorem gw_456 : Cond.methodLink "RateBreaks$Rates" 85 ⟨"java/lang/Math", "max", "(JJ)J"⟩ ∈ lw_tbl := List.mem_of_getElem? (i := 456) (by decide +kernel)
theorem gw_457 : Cond.static ⟨"java/lang/Math", "max", "(JJ)J"⟩ ∈ lw_tbl := List.mem_of_getElem? (i := 457) (by decide +kernel)
theorem gw_458 : Cond.code ⟨"java/lang/Math", "max", "(JJ)J"⟩ prog_12_method_66_code 4 (Option.some FieldType.long) ∈ lw_tbl := List.mem_of_getElem? (i := 458) (by decide +kernel)
theorem gw_459 : Cond.methodLink "RateBreaks" 171 ⟨"RateBreaks$Ratios", "latest", "(I)I"⟩ ∈ lw_tbl := List.mem_of_getElem? (i := 459) (by decide +kernel)
theorem gw_460 : Cond.instanceMethod ⟨"RateBreaks$Ratios", "latest", "(I)I"⟩ ∈ lw_tbl := List.mem_of_getElem? (i := 460) (by decide +kernel)
theorem gw_461 : Cond.selects "RateBreaks$Ratios" ⟨"RateBreaks$Ratios", "latest", "(I)I"⟩ ⟨"RateBreaks$Ratios", "latest", "(I)I"⟩ ∈ lw_tbl := List.mem_of_getElem? (i := 461) (by decide +kernel)
theorem gw_462 : Cond.code ⟨"RateBreaks$Ratios", "latest", "(I)I"⟩ prog_3_method_5_code 4 (Option.some FieldType.int) ∈ lw_tbl := List.mem_of_getElem? (i := 462) (by decide +kernel)
theorem gw_463 : Cond.methodLink "RateBreaks" 228 ⟨"RateBreaks", "dividedUp", "(JJ)J"⟩ ∈ lw_tbl := List.mem_of_getElem? (i := 463) (by decide +kernel)
theorem gw_464 : Cond.methodLink "RateBreaksLaw" 98 ⟨"RateBreaksLaw", "cheapest", "(LRateBreaks;I[J)I"⟩ ∈ lw_tbl := List.mem_of_getElem? (i := 464) (by decide +kernel)
theorem gw_465 : Cond.static ⟨"RateBreaksLaw", "cheapest", "(LRateBreaks;I[J)I"⟩ ∈ lw_tbl := List.mem_of_getElem? (i := 465) (by decide +kernel)
theorem gw_466 : Cond.codeWith ⟨"RateBreaksLaw", "cheapest", "(LRateBreaks;I[J)I"⟩ method_7_code 4 (Option.some FieldType.int) [(0, 9, 12, 25)] ∈ lw_tbl := List.mem_of_getElem? (i := 466) (by decide +kernel)
theorem gw_467 : Cond.methodLink "RateBreaksLaw" 32 ⟨"RateBreaks", "cheapest", "(I)I"⟩ ∈ lw_tbl := List.mem_of_getElem? (i := 467) (by decide +kernel)
theorem gw_468 : Cond.instanceMethod ⟨"RateBreaks", "cheapest", "(I)I"⟩ ∈ lw_tbl := List.mem_of_getElem? (i := 468) (by decide +kernel)
theorem gw_469 : Cond.selects "RateBreaks" ⟨"RateBreaks", "cheapest", "(I)I"⟩ ⟨"RateBreaks", "cheapest", "(I)I"⟩ ∈ lw_tbl := List.mem_of_getElem? (i := 469) (by decide +kernel)
theorem gw_470 : Cond.code ⟨"RateBreaks", "cheapest", "(I)I"⟩ prog_1_method_7_code 7 (Option.some FieldType.int) ∈ lw_tbl := List.mem_of_getElem? (i := 470) (by decide +kernel)
theorem gw_471 : Cond.methodLink "RateBreaksLaw" 101 ⟨"RateBreaksLaw", "parcels", "(LRateBreaks;II[J)I"⟩ ∈ lw_tbl := List.mem_of_getElem? (i := 471) (by decide +kernel)
theorem gw_472 : Cond.static ⟨"RateBreaksLaw", "parcels", "(LRateBreaks;II[J)I"⟩ ∈ lw_tbl := List.mem_of_getElem? (i := 472) (by decide +kernel)
theorem gw_473 : Cond.codeWith ⟨"RateBreaksLaw", "parcels", "(LRateBreaks;II[J)I"⟩ method_8_code 5 (Option.some FieldType.int) [(0, 10, 13, 25), (0, 10, 17, 13)] ∈ lw_tbl := List.mem_of_getElem? (i := 473) (by decide +kernel)
theorem gw_474 : Cond.methodLink "RateBreaksLaw" 35 ⟨"RateBreaks", "parcels", "(II)I"⟩ ∈ lw_tbl := List.mem_of_getElem? (i := 474) (by decide +kernel)
theorem gw_475 : Cond.instanceMethod ⟨"RateBreaks", "parcels", "(II)I"⟩ ∈ lw_tbl := List.mem_of_getElem? (i := 475) (by decide +kernel)
theorem gw_476 : Cond.selects "RateBreaks" ⟨"RateBreaks", "parcels", "(II)I"⟩ ⟨"RateBreaks", "parcels", "(II)I"⟩ ∈ lw_tbl := List.mem_of_getElem? (i := 476) (by decide +kernel)
theorem gw_477 : Cond.code ⟨"RateBreaks", "parcels", "(II)I"⟩ prog_1_method_8_code 5 (Option.some FieldType.int) ∈ lw_tbl := List.mem_of_getElem? (i := 477) (by decide +kernel)
theorem gw_478 : Cond.methodLink "RateBreaks" 113 ⟨"RateBreaks$Rates", "leastCents", "(IIIII)I"⟩ ∈ lw_tbl := List.mem_of_getElem? (i := 478) (by decide +kernel)
theorem gw_479 : Cond.instanceMethod ⟨"RateBreaks$Rates", "leastCents", "(IIIII)I"⟩ ∈ lw_tbl := List.mem_of_getElem? (i := 479) (by decide +kernel)
theorem gw_480 : Cond.selects "RateBreaks$Rates" ⟨"RateBreaks$Rates", "leastCents", "(IIIII)I"⟩ ⟨"RateBreaks$Rates", "leastCents", "(IIIII)I"⟩ ∈ lw_tbl := List.mem_of_getElem? (i := 480) (by decide +kernel)
theorem gw_481 : Cond.code ⟨"RateBreaks$Rates", "leastCents", "(IIIII)I"⟩ prog_2_method_11_code 9 (Option.some FieldType.int) ∈ lw_tbl := List.mem_of_getElem? (i := 481) (by decide +kernel)
theorem gw_482 : Cond.methodLink "RateBreaks$Rates" 87 ⟨"RateBreaks$Rates", "leastCents", "(IIIII)I"⟩ ∈ lw_tbl := List.mem_of_getElem? (i := 482) (by decide +kernel)
theorem gw_483 : Cond.methodLink "RateBreaksLaw" 104 ⟨"RateBreaksLaw", "contract", "(LRateBreaks;IIII[J)I"⟩ ∈ lw_tbl := List.mem_of_getElem? (i := 483) (by decide +kernel)
theorem gw_484 : Cond.static ⟨"RateBreaksLaw", "contract", "(LRateBreaks;IIII[J)I"⟩ ∈ lw_tbl := List.mem_of_getElem? (i := 484) (by decide +kernel)
theorem gw_485 : Cond.codeWith ⟨"RateBreaksLaw", "contract", "(LRateBreaks;IIII[J)I"⟩ method_9_code 7 (Option.some FieldType.int) [(0, 14, 17, 13), (0, 14, 21, 15)] ∈ lw_tbl := List.mem_of_getElem? (i := 485) (by decide +kernel)
theorem gw_486 : Cond.methodLink "RateBreaksLaw" 38 ⟨"RateBreaks", "contract", "(IIII)I"⟩ ∈ lw_tbl := List.mem_of_getElem? (i := 486) (by decide +kernel)
theorem gw_487 : Cond.instanceMethod ⟨"RateBreaks", "contract", "(IIII)I"⟩ ∈ lw_tbl := List.mem_of_getElem? (i := 487) (by decide +kernel)
theorem gw_488 : Cond.selects "RateBreaks" ⟨"RateBreaks", "contract", "(IIII)I"⟩ ⟨"RateBreaks", "contract", "(IIII)I"⟩ ∈ lw_tbl := List.mem_of_getElem? (i := 488) (by decide +kernel)
theorem gw_489 : Cond.code ⟨"RateBreaks", "contract", "(IIII)I"⟩ prog_1_method_9_code 6 (Option.some FieldType.int) ∈ lw_tbl := List.mem_of_getElem? (i := 489) (by decide +kernel)
theorem gw_490 : Cond.methodLink "RateBreaks" 117 ⟨"RateBreaks", "needRoom", "(LRateBreaks$Ratios;I)V"⟩ ∈ lw_tbl := List.mem_of_getElem? (i := 490) (by decide +kernel)
theorem gw_491 : Cond.static ⟨"RateBreaks", "needRoom", "(LRateBreaks$Ratios;I)V"⟩ ∈ lw_tbl := List.mem_of_getElem? (i := 491) (by decide +kernel)
theorem gw_492 : Cond.code ⟨"RateBreaks", "needRoom", "(LRateBreaks$Ratios;I)V"⟩ prog_1_method_22_code 2 (Option.none : Option Jvm.ClassFile.FieldType) ∈ lw_tbl := List.mem_of_getElem? (i := 492) (by decide +kernel)
theorem gw_493 : Cond.methodLink "RateBreaks" 196 ⟨"RateBreaks$Ratios", "hasRoomFor", "(I)Z"⟩ ∈ lw_tbl := List.mem_of_getElem? (i := 493) (by decide +kernel)
theorem gw_494 : Cond.instanceMethod ⟨"RateBreaks$Ratios", "hasRoomFor", "(I)Z"⟩ ∈ lw_tbl := List.mem_of_getElem? (i := 494) (by decide +kernel)
theorem gw_495 : Cond.selects "RateBreaks$Ratios" ⟨"RateBreaks$Ratios", "hasRoomFor", "(I)Z"⟩ ⟨"RateBreaks$Ratios", "hasRoomFor", "(I)Z"⟩ ∈ lw_tbl := List.mem_of_getElem? (i := 495) (by decide +kernel)
theorem gw_496 : Cond.code ⟨"RateBreaks$Ratios", "hasRoomFor", "(I)Z"⟩ prog_3_method_2_code 2 (Option.some FieldType.boolean) ∈ lw_tbl := List.mem_of_getElem? (i := 496) (by decide +kernel)
theorem gw_497 : Cond.methodLink "RateBreaks$Ratios" 31 ⟨"RateBreaks$Ratios", "placeFor", "(I)I"⟩ ∈ lw_tbl := List.mem_of_getElem? (i := 497) (by decide +kernel)
theorem gw_499 : Cond.instanceMethod ⟨"RateBreaks$Ratios", "placeFor", "(I)I"⟩ ∈ lw_tbl := List.mem_of_getElem? (i := 499) (by decide +kernel)
theorem gw_500 : Cond.code ⟨"RateBreaks$Ratios", "placeFor", "(I)I"⟩ prog_3_method_4_code 3 (Option.some FieldType.int) ∈ lw_tbl := List.mem_of_getElem? (i := 500) (by decide +kernel)
theorem gw_501 : Cond.stringRef "RateBreaks" 200 "no room for another number" ∈ lw_tbl := List.mem_of_getElem? (i := 501) (by decide +kernel)
theorem gw_502 : Cond.methodLink "RateBreaks" 121 ⟨"RateBreaks$Ratios", "put", "(III)V"⟩ ∈ lw_tbl := List.mem_of_getElem? (i := 502) (by decide +kernel)
theorem gw_503 : Cond.instanceMethod ⟨"RateBreaks$Ratios", "put", "(III)V"⟩ ∈ lw_tbl := List.mem_of_getElem? (i := 503) (by decide +kernel)
theorem gw_504 : Cond.selects "RateBreaks$Ratios" ⟨"RateBreaks$Ratios", "put", "(III)V"⟩ ⟨"RateBreaks$Ratios", "put", "(III)V"⟩ ∈ lw_tbl := List.mem_of_getElem? (i := 504) (by decide +kernel)
theorem gw_505 : Cond.code ⟨"RateBreaks$Ratios", "put", "(III)V"⟩ prog_3_method_3_code 5 (Option.none : Option Jvm.ClassFile.FieldType) ∈ lw_tbl := List.mem_of_getElem? (i := 505) (by decide +kernel)
theorem gw_506 : Cond.methodLink "RateBreaksLaw" 108 ⟨"RateBreaksLaw", "book", "(LRateBreaks;II[J)I"⟩ ∈ lw_tbl := List.mem_of_getElem? (i := 506) (by decide +kernel)
theorem gw_507 : Cond.static ⟨"RateBreaksLaw", "book", "(LRateBreaks;II[J)I"⟩ ∈ lw_tbl := List.mem_of_getElem? (i := 507) (by decide +kernel)
theorem gw_508 : Cond.codeWith ⟨"RateBreaksLaw", "book", "(LRateBreaks;II[J)I"⟩ method_10_code 5 (Option.some FieldType.int) [(0, 10, 13, 25), (0, 10, 17, 13), (0, 10, 21, 45), (0, 10, 25, 27)] ∈ lw_tbl := List.mem_of_getElem? (i := 508) (by decide +kernel)
theorem gw_509 : Cond.classLink "RateBreaksLaw" 45 "java/lang/IllegalStateException" ∈ lw_tbl := List.mem_of_getElem? (i := 509) (by decide +kernel)
theorem gw_510 : Cond.methodLink "RateBreaksLaw" 42 ⟨"RateBreaks", "book", "(II)I"⟩ ∈ lw_tbl := List.mem_of_getElem? (i := 510) (by decide +kernel)
theorem gw_511 : Cond.instanceMethod ⟨"RateBreaks", "book", "(II)I"⟩ ∈ lw_tbl := List.mem_of_getElem? (i := 511) (by decide +kernel)
theorem gw_512 : Cond.selects "RateBreaks" ⟨"RateBreaks", "book", "(II)I"⟩ ⟨"RateBreaks", "book", "(II)I"⟩ ∈ lw_tbl := List.mem_of_getElem? (i := 512) (by decide +kernel)
theorem gw_513 : Cond.code ⟨"RateBreaks", "book", "(II)I"⟩ prog_1_method_10_code 5 (Option.some FieldType.int) ∈ lw_tbl := List.mem_of_getElem? (i := 513) (by decide +kernel)
theorem gw_514 : Cond.classLink "RateBreaks" 131 "java/lang/IllegalStateException" ∈ lw_tbl := List.mem_of_getElem? (i := 514) (by decide +kernel)
theorem gw_515 : Cond.instantiable "java/lang/IllegalStateException" 6 ∈ lw_tbl := List.mem_of_getElem? (i := 515) (by decide +kernel)
theorem gw_516 : Cond.castable "java/lang/IllegalStateException" "java/lang/IllegalStateException" ∈ lw_tbl := List.mem_of_getElem? (i := 516) (by decide +kernel)
theorem gw_523 : Cond.stringRef "RateBreaks" 133 "the shipment is booked" ∈ lw_tbl := List.mem_of_getElem? (i := 523) (by decide +kernel)
theorem gw_524 : Cond.methodLink "RateBreaks" 135 ⟨"java/lang/IllegalStateException", "<init>", "(Ljava/lang/String;)V"⟩ ∈ lw_tbl := List.mem_of_getElem? (i := 524) (by decide +kernel)
theorem gw_525 : Cond.instanceMethod ⟨"java/lang/IllegalStateException", "<init>", "(Ljava/lang/String;)V"⟩ ∈ lw_tbl := List.mem_of_getElem? (i := 525) (by decide +kernel)
theorem gw_526 : Cond.code ⟨"java/lang/IllegalStateException", "<init>", "(Ljava/lang/String;)V"⟩ prog_11_method_2_code 2 (Option.none : Option Jvm.ClassFile.FieldType) ∈ lw_tbl := List.mem_of_getElem? (i := 526) (by decide +kernel)
theorem gw_530 : Cond.stringRef "RateBreaks" 136 "the service has no step for the shipment" ∈ lw_tbl := List.mem_of_getElem? (i := 530) (by decide +kernel)
theorem gw_531 : Cond.methodLink "RateBreaksLaw" 111 ⟨"RateBreaksLaw", "combine", "(LRateBreaks;II[J)I"⟩ ∈ lw_tbl := List.mem_of_getElem? (i := 531) (by decide +kernel)
theorem gw_532 : Cond.static ⟨"RateBreaksLaw", "combine", "(LRateBreaks;II[J)I"⟩ ∈ lw_tbl := List.mem_of_getElem? (i := 532) (by decide +kernel)
theorem gw_533 : Cond.codeWith ⟨"RateBreaksLaw", "combine", "(LRateBreaks;II[J)I"⟩ method_11_code 5 (Option.some FieldType.int) [(0, 10, 13, 25), (0, 10, 17, 45)] ∈ lw_tbl := List.mem_of_getElem? (i := 533) (by decide +kernel)
theorem gw_534 : Cond.methodLink "RateBreaksLaw" 47 ⟨"RateBreaks", "combine", "(II)I"⟩ ∈ lw_tbl := List.mem_of_getElem? (i := 534) (by decide +kernel)
theorem gw_535 : Cond.instanceMethod ⟨"RateBreaks", "combine", "(II)I"⟩ ∈ lw_tbl := List.mem_of_getElem? (i := 535) (by decide +kernel)
theorem gw_536 : Cond.selects "RateBreaks" ⟨"RateBreaks", "combine", "(II)I"⟩ ⟨"RateBreaks", "combine", "(II)I"⟩ ∈ lw_tbl := List.mem_of_getElem? (i := 536) (by decide +kernel)
theorem gw_537 : Cond.code ⟨"RateBreaks", "combine", "(II)I"⟩ prog_1_method_11_code 7 (Option.some FieldType.int) ∈ lw_tbl := List.mem_of_getElem? (i := 537) (by decide +kernel)
theorem gw_538 : Cond.stringRef "RateBreaks" 144 "a shipment can't be combined with itself" ∈ lw_tbl := List.mem_of_getElem? (i := 538) (by decide +kernel)
theorem gw_539 : Cond.stringRef "RateBreaks" 146 "a shipment of the two is booked" ∈ lw_tbl := List.mem_of_getElem? (i := 539) (by decide +kernel)
theorem gw_540 : Cond.stringRef "RateBreaks" 148 "the shipments are of different zones" ∈ lw_tbl := List.mem_of_getElem? (i := 540) (by decide +kernel)
theorem gw_541 : Cond.stringRef "RateBreaks" 153 "the shipments are too much for one" ∈ lw_tbl := List.mem_of_getElem? (i := 541) (by decide +kernel)
theorem gw_542 : Cond.methodLink "RateBreaksLaw" 114 ⟨"RateBreaksLaw", "invoice", "(LRateBreaks;II[J)I"⟩ ∈ lw_tbl := List.mem_of_getElem? (i := 542) (by decide +kernel)
theorem gw_543 : Cond.static ⟨"RateBreaksLaw", "invoice", "(LRateBreaks;II[J)I"⟩ ∈ lw_tbl := List.mem_of_getElem? (i := 543) (by decide +kernel)
theorem gw_544 : Cond.codeWith ⟨"RateBreaksLaw", "invoice", "(LRateBreaks;II[J)I"⟩ method_12_code 5 (Option.some FieldType.int) [(0, 10, 13, 25), (0, 10, 17, 13), (0, 10, 21, 45)] ∈ lw_tbl := List.mem_of_getElem? (i := 544) (by decide +kernel)
theorem gw_545 : Cond.methodLink "RateBreaksLaw" 50 ⟨"RateBreaks", "invoice", "(II)I"⟩ ∈ lw_tbl := List.mem_of_getElem? (i := 545) (by decide +kernel)
theorem gw_546 : Cond.instanceMethod ⟨"RateBreaks", "invoice", "(II)I"⟩ ∈ lw_tbl := List.mem_of_getElem? (i := 546) (by decide +kernel)
theorem gw_547 : Cond.selects "RateBreaks" ⟨"RateBreaks", "invoice", "(II)I"⟩ ⟨"RateBreaks", "invoice", "(II)I"⟩ ∈ lw_tbl := List.mem_of_getElem? (i := 547) (by decide +kernel)
theorem gw_548 : Cond.code ⟨"RateBreaks", "invoice", "(II)I"⟩ prog_1_method_12_code 4 (Option.some FieldType.int) ∈ lw_tbl := List.mem_of_getElem? (i := 548) (by decide +kernel)
theorem gw_549 : Cond.constant "RateBreaks" 155 (10000000 : Int32) ∈ lw_tbl := List.mem_of_getElem? (i := 549) (by decide +kernel)
theorem gw_550 : Cond.stringRef "RateBreaks" 159 "the shipment is not booked, or was invoiced" ∈ lw_tbl := List.mem_of_getElem? (i := 550) (by decide +kernel)
theorem gw_551 : Cond.methodLink "RateBreaksLaw" 117 ⟨"RateBreaksLaw", "refund", "(LRateBreaks;II[J)I"⟩ ∈ lw_tbl := List.mem_of_getElem? (i := 551) (by decide +kernel)
theorem gw_552 : Cond.static ⟨"RateBreaksLaw", "refund", "(LRateBreaks;II[J)I"⟩ ∈ lw_tbl := List.mem_of_getElem? (i := 552) (by decide +kernel)
theorem gw_553 : Cond.codeWith ⟨"RateBreaksLaw", "refund", "(LRateBreaks;II[J)I"⟩ method_13_code 5 (Option.some FieldType.int) [(0, 10, 13, 25), (0, 10, 17, 13), (0, 10, 21, 45)] ∈ lw_tbl := List.mem_of_getElem? (i := 553) (by decide +kernel)
theorem gw_554 : Cond.methodLink "RateBreaksLaw" 53 ⟨"RateBreaks", "refund", "(II)I"⟩ ∈ lw_tbl := List.mem_of_getElem? (i := 554) (by decide +kernel)
theorem gw_555 : Cond.instanceMethod ⟨"RateBreaks", "refund", "(II)I"⟩ ∈ lw_tbl := List.mem_of_getElem? (i := 555) (by decide +kernel)
theorem gw_556 : Cond.selects "RateBreaks" ⟨"RateBreaks", "refund", "(II)I"⟩ ⟨"RateBreaks", "refund", "(II)I"⟩ ∈ lw_tbl := List.mem_of_getElem? (i := 556) (by decide +kernel)
theorem gw_557 : Cond.code ⟨"RateBreaks", "refund", "(II)I"⟩ prog_1_method_13_code 4 (Option.some FieldType.int) ∈ lw_tbl := List.mem_of_getElem? (i := 557) (by decide +kernel)
theorem gw_558 : Cond.stringRef "RateBreaks" 164 "the shipment is not invoiced, or less is left" ∈ lw_tbl := List.mem_of_getElem? (i := 558) (by decide +kernel)
theorem gw_559 : Cond.methodLink "RateBreaksLaw" 120 ⟨"RateBreaksLaw", "differ", "(LRateBreaks;I[J)I"⟩ ∈ lw_tbl := List.mem_of_getElem? (i := 559) (by decide +kernel)
theorem gw_560 : Cond.static ⟨"RateBreaksLaw", "differ", "(LRateBreaks;I[J)I"⟩ ∈ lw_tbl := List.mem_of_getElem? (i := 560) (by decide +kernel)
theorem gw_561 : Cond.codeWith ⟨"RateBreaksLaw", "differ", "(LRateBreaks;I[J)I"⟩ method_14_code 4 (Option.some FieldType.int) [(0, 9, 12, 13)] ∈ lw_tbl := List.mem_of_getElem? (i := 561) (by decide +kernel)
theorem gw_562 : Cond.methodLink "RateBreaksLaw" 56 ⟨"RateBreaks", "differ", "(I)I"⟩ ∈ lw_tbl := List.mem_of_getElem? (i := 562) (by decide +kernel)
theorem gw_563 : Cond.instanceMethod ⟨"RateBreaks", "differ", "(I)I"⟩ ∈ lw_tbl := List.mem_of_getElem? (i := 563) (by decide +kernel)
theorem gw_564 : Cond.selects "RateBreaks" ⟨"RateBreaks", "differ", "(I)I"⟩ ⟨"RateBreaks", "differ", "(I)I"⟩ ∈ lw_tbl := List.mem_of_getElem? (i := 564) (by decide +kernel)
theorem gw_565 : Cond.code ⟨"RateBreaks", "differ", "(I)I"⟩ prog_1_method_14_code 5 (Option.some FieldType.int) ∈ lw_tbl := List.mem_of_getElem? (i := 565) (by decide +kernel)
theorem gw_566 : Cond.stringRef "RateBreaks" 168 "the place is below 0" ∈ lw_tbl := List.mem_of_getElem? (i := 566) (by decide +kernel)
theorem gw_567 : Cond.methodLink "RateBreaksLaw" 123 ⟨"RateBreaksLaw", "currency", "(LRateBreaks;III[J)I"⟩ ∈ lw_tbl := List.mem_of_getElem? (i := 567) (by decide +kernel)
theorem gw_568 : Cond.static ⟨"RateBreaksLaw", "currency", "(LRateBreaks;III[J)I"⟩ ∈ lw_tbl := List.mem_of_getElem? (i := 568) (by decide +kernel)
theorem gw_569 : Cond.codeWith ⟨"RateBreaksLaw", "currency", "(LRateBreaks;III[J)I"⟩ method_15_code 6 (Option.some FieldType.int) [(0, 12, 15, 13), (0, 12, 19, 15)] ∈ lw_tbl := List.mem_of_getElem? (i := 569) (by decide +kernel)
theorem gw_570 : Cond.methodLink "RateBreaksLaw" 59 ⟨"RateBreaks", "currency", "(III)I"⟩ ∈ lw_tbl := List.mem_of_getElem? (i := 570) (by decide +kernel)
theorem gw_571 : Cond.instanceMethod ⟨"RateBreaks", "currency", "(III)I"⟩ ∈ lw_tbl := List.mem_of_getElem? (i := 571) (by decide +kernel)
theorem gw_572 : Cond.selects "RateBreaks" ⟨"RateBreaks", "currency", "(III)I"⟩ ⟨"RateBreaks", "currency", "(III)I"⟩ ∈ lw_tbl := List.mem_of_getElem? (i := 572) (by decide +kernel)
theorem gw_573 : Cond.code ⟨"RateBreaks", "currency", "(III)I"⟩ prog_1_method_15_code 4 (Option.some FieldType.int) ∈ lw_tbl := List.mem_of_getElem? (i := 573) (by decide +kernel)
theorem gw_574 : Cond.methodLink "RateBreaksLaw" 126 ⟨"RateBreaksLaw", "converted", "(LRateBreaks;II[J)I"⟩ ∈ lw_tbl := List.mem_of_getElem? (i := 574) (by decide +kernel)
theorem gw_575 : Cond.static ⟨"RateBreaksLaw", "converted", "(LRateBreaks;II[J)I"⟩ ∈ lw_tbl := List.mem_of_getElem? (i := 575) (by decide +kernel)
theorem gw_576 : Cond.codeWith ⟨"RateBreaksLaw", "converted", "(LRateBreaks;II[J)I"⟩ method_16_code 5 (Option.some FieldType.int) [(0, 9, 12, 13)] ∈ lw_tbl := List.mem_of_getElem? (i := 576) (by decide +kernel)
theorem gw_577 : Cond.methodLink "RateBreaksLaw" 62 ⟨"RateBreaks", "converted", "(II)J"⟩ ∈ lw_tbl := List.mem_of_getElem? (i := 577) (by decide +kernel)
theorem gw_578 : Cond.instanceMethod ⟨"RateBreaks", "converted", "(II)J"⟩ ∈ lw_tbl := List.mem_of_getElem? (i := 578) (by decide +kernel)
theorem gw_579 : Cond.selects "RateBreaks" ⟨"RateBreaks", "converted", "(II)J"⟩ ⟨"RateBreaks", "converted", "(II)J"⟩ ∈ lw_tbl := List.mem_of_getElem? (i := 579) (by decide +kernel)
theorem gw_580 : Cond.code ⟨"RateBreaks", "converted", "(II)J"⟩ prog_1_method_16_code 4 (Option.some FieldType.long) ∈ lw_tbl := List.mem_of_getElem? (i := 580) (by decide +kernel)
theorem gw_581 : Cond.constantLong "RateBreaks" 175 (-1 : Int64) ∈ lw_tbl := List.mem_of_getElem? (i := 581) (by decide +kernel)
theorem gw_582 : Cond.methodLink "RateBreaksLaw" 129 ⟨"RateBreaksLaw", "told", "(LRateBreaks;II[J)I"⟩ ∈ lw_tbl := List.mem_of_getElem? (i := 582) (by decide +kernel)
theorem gw_583 : Cond.static ⟨"RateBreaksLaw", "told", "(LRateBreaks;II[J)I"⟩ ∈ lw_tbl := List.mem_of_getElem? (i := 583) (by decide +kernel)
theorem gw_584 : Cond.codeWith ⟨"RateBreaksLaw", "told", "(LRateBreaks;II[J)I"⟩ method_17_code 5 (Option.some FieldType.int) [(0, 10, 13, 25), (0, 10, 17, 13)] ∈ lw_tbl := List.mem_of_getElem? (i := 584) (by decide +kernel)
theorem gw_585 : Cond.methodLink "RateBreaksLaw" 66 ⟨"RateBreaks", "told", "(II)I"⟩ ∈ lw_tbl := List.mem_of_getElem? (i := 585) (by decide +kernel)
theorem gw_586 : Cond.instanceMethod ⟨"RateBreaks", "told", "(II)I"⟩ ∈ lw_tbl := List.mem_of_getElem? (i := 586) (by decide +kernel)
theorem gw_587 : Cond.selects "RateBreaks" ⟨"RateBreaks", "told", "(II)I"⟩ ⟨"RateBreaks", "told", "(II)I"⟩ ∈ lw_tbl := List.mem_of_getElem? (i := 587) (by decide +kernel)
theorem gw_588 : Cond.code ⟨"RateBreaks", "told", "(II)I"⟩ prog_1_method_17_code 4 (Option.some FieldType.int) ∈ lw_tbl := List.mem_of_getElem? (i := 588) (by decide +kernel)
theorem gw_589 : Cond.stringRef "RateBreaks" 187 "nothing of that number is told" ∈ lw_tbl := List.mem_of_getElem? (i := 589) (by decide +kernel)
theorem gw_590 : Cond.classLink "RateBreaksLaw" 70 "RateBreaksModel" ∈ lw_tbl := List.mem_of_getElem? (i := 590) (by decide +kernel)
theorem gw_591 : Cond.instantiable "RateBreaksModel" 27 ∈ lw_tbl := List.mem_of_getElem? (i := 591) (by decide +kernel)
theorem gw_592 : Cond.methodLink "RateBreaksLaw" 72 ⟨"RateBreaksModel", "<init>", "()V"⟩ ∈ lw_tbl := List.mem_of_getElem? (i := 592) (by decide +kernel)
theorem gw_593 : Cond.instanceMethod ⟨"RateBreaksModel", "<init>", "()V"⟩ ∈ lw_tbl := List.mem_of_getElem? (i := 593) (by decide +kernel)
theorem gw_594 : Cond.code ⟨"RateBreaksModel", "<init>", "()V"⟩ prog_7_method_1_code 1 (Option.none : Option Jvm.ClassFile.FieldType) ∈ lw_tbl := List.mem_of_getElem? (i := 594) (by decide +kernel)
theorem gw_595 : Cond.methodLink "RateBreaksModel" 1 ⟨"java/lang/Object", "<init>", "()V"⟩ ∈ lw_tbl := List.mem_of_getElem? (i := 595) (by decide +kernel)
theorem gw_596 : Cond.fieldLink "RateBreaksModel" 7 "RateBreaksModel" "thrownCode" "I" ∈ lw_tbl := List.mem_of_getElem? (i := 596) (by decide +kernel)
theorem gw_597 : Cond.fieldLink "RateBreaksModel" 13 "RateBreaksModel" "text" "[I" ∈ lw_tbl := List.mem_of_getElem? (i := 597) (by decide +kernel)
theorem gw_598 : Cond.fieldLink "RateBreaksModel" 17 "RateBreaksModel" "signs" "I" ∈ lw_tbl := List.mem_of_getElem? (i := 598) (by decide +kernel)
theorem gw_599 : Cond.fieldLink "RateBreaksModel" 20 "RateBreaksModel" "lines" "I" ∈ lw_tbl := List.mem_of_getElem? (i := 599) (by decide +kernel)
theorem gw_600 : Cond.fieldLink "RateBreaksModel" 23 "RateBreaksModel" "line" "[I" ∈ lw_tbl := List.mem_of_getElem? (i := 600) (by decide +kernel)
theorem gw_601 : Cond.fieldLink "RateBreaksModel" 26 "RateBreaksModel" "newLines" "I" ∈ lw_tbl := List.mem_of_getElem? (i := 601) (by decide +kernel)
theorem gw_602 : Cond.fieldLink "RateBreaksModel" 29 "RateBreaksModel" "newLine" "[I" ∈ lw_tbl := List.mem_of_getElem? (i := 602) (by decide +kernel)
theorem gw_603 : Cond.fieldLink "RateBreaksModel" 32 "RateBreaksModel" "at" "I" ∈ lw_tbl := List.mem_of_getElem? (i := 603) (by decide +kernel)
theorem gw_604 : Cond.fieldLink "RateBreaksModel" 35 "RateBreaksModel" "shipments" "I" ∈ lw_tbl := List.mem_of_getElem? (i := 604) (by decide +kernel)
theorem gw_605 : Cond.fieldLink "RateBreaksModel" 38 "RateBreaksModel" "gone" "[Z" ∈ lw_tbl := List.mem_of_getElem? (i := 605) (by decide +kernel)
theorem gw_606 : Cond.fieldLink "RateBreaksModel" 42 "RateBreaksModel" "zone" "[I" ∈ lw_tbl := List.mem_of_getElem? (i := 606) (by decide +kernel)
theorem gw_607 : Cond.fieldLink "RateBreaksModel" 45 "RateBreaksModel" "grams" "[I" ∈ lw_tbl := List.mem_of_getElem? (i := 607) (by decide +kernel)
theorem gw_608 : Cond.fieldLink "RateBreaksModel" 48 "RateBreaksModel" "volume" "[I" ∈ lw_tbl := List.mem_of_getElem? (i := 608) (by decide +kernel)
theorem gw_609 : Cond.fieldLink "RateBreaksModel" 51 "RateBreaksModel" "service" "[I" ∈ lw_tbl := List.mem_of_getElem? (i := 609) (by decide +kernel)
theorem gw_610 : Cond.fieldLink "RateBreaksModel" 54 "RateBreaksModel" "price" "[I" ∈ lw_tbl := List.mem_of_getElem? (i := 610) (by decide +kernel)
theorem gw_611 : Cond.fieldLink "RateBreaksModel" 57 "RateBreaksModel" "left" "[I" ∈ lw_tbl := List.mem_of_getElem? (i := 611) (by decide +kernel)
theorem gw_612 : Cond.fieldLink "RateBreaksModel" 60 "RateBreaksModel" "contracts" "[I" ∈ lw_tbl := List.mem_of_getElem? (i := 612) (by decide +kernel)
theorem gw_613 : Cond.fieldLink "RateBreaksModel" 63 "RateBreaksModel" "from" "[I" ∈ lw_tbl := List.mem_of_getElem? (i := 613) (by decide +kernel)
theorem gw_614 : Cond.fieldLink "RateBreaksModel" 66 "RateBreaksModel" "up" "[I" ∈ lw_tbl := List.mem_of_getElem? (i := 614) (by decide +kernel)
theorem gw_615 : Cond.fieldLink "RateBreaksModel" 69 "RateBreaksModel" "down" "[I" ∈ lw_tbl := List.mem_of_getElem? (i := 615) (by decide +kernel)
theorem gw_616 : Cond.fieldLink "RateBreaksModel" 72 "RateBreaksModel" "days" "I" ∈ lw_tbl := List.mem_of_getElem? (i := 616) (by decide +kernel)
theorem gw_617 : Cond.fieldLink "RateBreaksModel" 75 "RateBreaksModel" "day" "[I" ∈ lw_tbl := List.mem_of_getElem? (i := 617) (by decide +kernel)
theorem gw_618 : Cond.fieldLink "RateBreaksModel" 78 "RateBreaksModel" "dayUp" "[I" ∈ lw_tbl := List.mem_of_getElem? (i := 618) (by decide +kernel)
theorem gw_619 : Cond.fieldLink "RateBreaksModel" 81 "RateBreaksModel" "dayDown" "[I" ∈ lw_tbl := List.mem_of_getElem? (i := 619) (by decide +kernel)
theorem gw_620 : Cond.fieldLink "RateBreaksModel" 84 "RateBreaksModel" "low" "[I" ∈ lw_tbl := List.mem_of_getElem? (i := 620) (by decide +kernel)
theorem gw_621 : Cond.fieldLink "RateBreaksModel" 87 "RateBreaksModel" "high" "[I" ∈ lw_tbl := List.mem_of_getElem? (i := 621) (by decide +kernel)
theorem gw_622 : Cond.fieldLink "RateBreaksModel" 90 "RateBreaksModel" "costs" "[I" ∈ lw_tbl := List.mem_of_getElem? (i := 622) (by decide +kernel)
theorem gw_678 : Cond.arrayClass FieldType.boolean ∈ lw_tbl := List.mem_of_getElem? (i := 678) (by decide +kernel)
theorem gw_679 : Cond.methodLink "RateBreaksLaw" 79 ⟨"RateBreaksModel", "thrown", "()I"⟩ ∈ lw_tbl := List.mem_of_getElem? (i := 679) (by decide +kernel)
theorem gw_680 : Cond.instanceMethod ⟨"RateBreaksModel", "thrown", "()I"⟩ ∈ lw_tbl := List.mem_of_getElem? (i := 680) (by decide +kernel)
theorem gw_681 : Cond.selects "RateBreaksModel" ⟨"RateBreaksModel", "thrown", "()I"⟩ ⟨"RateBreaksModel", "thrown", "()I"⟩ ∈ lw_tbl := List.mem_of_getElem? (i := 681) (by decide +kernel)
theorem gw_682 : Cond.code ⟨"RateBreaksModel", "thrown", "()I"⟩ prog_7_method_13_code 1 (Option.some FieldType.int) ∈ lw_tbl := List.mem_of_getElem? (i := 682) (by decide +kernel)
theorem gw_683 : Cond.methodLink "RateBreaksLaw" 78 ⟨"RateBreaksModel", "sign", "(I)I"⟩ ∈ lw_tbl := List.mem_of_getElem? (i := 683) (by decide +kernel)
theorem gw_684 : Cond.instanceMethod ⟨"RateBreaksModel", "sign", "(I)I"⟩ ∈ lw_tbl := List.mem_of_getElem? (i := 684) (by decide +kernel)
theorem gw_685 : Cond.selects "RateBreaksModel" ⟨"RateBreaksModel", "sign", "(I)I"⟩ ⟨"RateBreaksModel", "sign", "(I)I"⟩ ∈ lw_tbl := List.mem_of_getElem? (i := 685) (by decide +kernel)
theorem gw_686 : Cond.code ⟨"RateBreaksModel", "sign", "(I)I"⟩ prog_7_method_15_code 2 (Option.some FieldType.int) ∈ lw_tbl := List.mem_of_getElem? (i := 686) (by decide +kernel)
theorem gw_687 : Cond.methodLink "RateBreaksModel" 124 ⟨"RateBreaksModel", "not", "(III)Z"⟩ ∈ lw_tbl := List.mem_of_getElem? (i := 687) (by decide +kernel)
theorem gw_688 : Cond.static ⟨"RateBreaksModel", "not", "(III)Z"⟩ ∈ lw_tbl := List.mem_of_getElem? (i := 688) (by decide +kernel)
theorem gw_689 : Cond.code ⟨"RateBreaksModel", "not", "(III)Z"⟩ prog_7_method_2_code 3 (Option.some FieldType.boolean) ∈ lw_tbl := List.mem_of_getElem? (i := 689) (by decide +kernel)
theorem gw_690 : Cond.methodLink "RateBreaksLaw" 86 ⟨"RateBreaksModel", "read", "()I"⟩ ∈ lw_tbl := List.mem_of_getElem? (i := 690) (by decide +kernel)
theorem gw_691 : Cond.instanceMethod ⟨"RateBreaksModel", "read", "()I"⟩ ∈ lw_tbl := List.mem_of_getElem? (i := 691) (by decide +kernel)
theorem gw_692 : Cond.selects "RateBreaksModel" ⟨"RateBreaksModel", "read", "()I"⟩ ⟨"RateBreaksModel", "read", "()I"⟩ ∈ lw_tbl := List.mem_of_getElem? (i := 692) (by decide +kernel)
theorem gw_693 : Cond.code ⟨"RateBreaksModel", "read", "()I"⟩ prog_7_method_16_code 4 (Option.some FieldType.int) ∈ lw_tbl := List.mem_of_getElem? (i := 693) (by decide +kernel)
theorem gw_694 : Cond.methodLink "RateBreaksModel" 128 ⟨"RateBreaksModel", "oneLine", "()Z"⟩ ∈ lw_tbl := List.mem_of_getElem? (i := 694) (by decide +kernel)
theorem gw_696 : Cond.instanceMethod ⟨"RateBreaksModel", "oneLine", "()Z"⟩ ∈ lw_tbl := List.mem_of_getElem? (i := 696) (by decide +kernel)
theorem gw_697 : Cond.code ⟨"RateBreaksModel", "oneLine", "()Z"⟩ prog_7_method_7_code 7 (Option.some FieldType.boolean) ∈ lw_tbl := List.mem_of_getElem? (i := 697) (by decide +kernel)
theorem gw_698 : Cond.methodLink "RateBreaksModel" 93 ⟨"RateBreaksModel", "here", "()I"⟩ ∈ lw_tbl := List.mem_of_getElem? (i := 698) (by decide +kernel)
theorem gw_700 : Cond.instanceMethod ⟨"RateBreaksModel", "here", "()I"⟩ ∈ lw_tbl := List.mem_of_getElem? (i := 700) (by decide +kernel)
theorem gw_701 : Cond.code ⟨"RateBreaksModel", "here", "()I"⟩ prog_7_method_3_code 1 (Option.some FieldType.int) ∈ lw_tbl := List.mem_of_getElem? (i := 701) (by decide +kernel)
theorem gw_702 : Cond.methodLink "RateBreaksModel" 97 ⟨"RateBreaksModel", "number", "()I"⟩ ∈ lw_tbl := List.mem_of_getElem? (i := 702) (by decide +kernel)
theorem gw_704 : Cond.instanceMethod ⟨"RateBreaksModel", "number", "()I"⟩ ∈ lw_tbl := List.mem_of_getElem? (i := 704) (by decide +kernel)
theorem gw_705 : Cond.code ⟨"RateBreaksModel", "number", "()I"⟩ prog_7_method_4_code 4 (Option.some FieldType.int) ∈ lw_tbl := List.mem_of_getElem? (i := 705) (by decide +kernel)
theorem gw_706 : Cond.constant "RateBreaksModel" 100 (100000 : Int32) ∈ lw_tbl := List.mem_of_getElem? (i := 706) (by decide +kernel)
theorem gw_707 : Cond.constant "RateBreaksModel" 101 (1000000 : Int32) ∈ lw_tbl := List.mem_of_getElem? (i := 707) (by decide +kernel)
theorem gw_708 : Cond.methodLink "RateBreaksModel" 102 ⟨"RateBreaksModel", "heaviest", "(II)I"⟩ ∈ lw_tbl := List.mem_of_getElem? (i := 708) (by decide +kernel)
theorem gw_710 : Cond.instanceMethod ⟨"RateBreaksModel", "heaviest", "(II)I"⟩ ∈ lw_tbl := List.mem_of_getElem? (i := 710) (by decide +kernel)
theorem gw_711 : Cond.code ⟨"RateBreaksModel", "heaviest", "(II)I"⟩ prog_7_method_6_code 5 (Option.some FieldType.int) ∈ lw_tbl := List.mem_of_getElem? (i := 711) (by decide +kernel)
theorem gw_712 : Cond.methodLink "RateBreaksModel" 106 ⟨"RateBreaksModel", "seen", "(II)Z"⟩ ∈ lw_tbl := List.mem_of_getElem? (i := 712) (by decide +kernel)
theorem gw_714 : Cond.instanceMethod ⟨"RateBreaksModel", "seen", "(II)Z"⟩ ∈ lw_tbl := List.mem_of_getElem? (i := 714) (by decide +kernel)
theorem gw_715 : Cond.code ⟨"RateBreaksModel", "seen", "(II)Z"⟩ prog_7_method_5_code 4 (Option.some FieldType.boolean) ∈ lw_tbl := List.mem_of_getElem? (i := 715) (by decide +kernel)
theorem gw_716 : Cond.methodLink "RateBreaksLaw" 90 ⟨"RateBreaksModel", "shipment", "(III)I"⟩ ∈ lw_tbl := List.mem_of_getElem? (i := 716) (by decide +kernel)
theorem gw_717 : Cond.instanceMethod ⟨"RateBreaksModel", "shipment", "(III)I"⟩ ∈ lw_tbl := List.mem_of_getElem? (i := 717) (by decide +kernel)
theorem gw_718 : Cond.selects "RateBreaksModel" ⟨"RateBreaksModel", "shipment", "(III)I"⟩ ⟨"RateBreaksModel", "shipment", "(III)I"⟩ ∈ lw_tbl := List.mem_of_getElem? (i := 718) (by decide +kernel)
theorem gw_719 : Cond.code ⟨"RateBreaksModel", "shipment", "(III)I"⟩ prog_7_method_17_code 4 (Option.some FieldType.int) ∈ lw_tbl := List.mem_of_getElem? (i := 719) (by decide +kernel)
theorem gw_720 : Cond.constant "RateBreaksModel" 132 (100000000 : Int32) ∈ lw_tbl := List.mem_of_getElem? (i := 720) (by decide +kernel)
theorem gw_721 : Cond.methodLink "RateBreaksLaw" 94 ⟨"RateBreaksModel", "weight", "(II)I"⟩ ∈ lw_tbl := List.mem_of_getElem? (i := 721) (by decide +kernel)
theorem gw_722 : Cond.instanceMethod ⟨"RateBreaksModel", "weight", "(II)I"⟩ ∈ lw_tbl := List.mem_of_getElem? (i := 722) (by decide +kernel)
theorem gw_723 : Cond.selects "RateBreaksModel" ⟨"RateBreaksModel", "weight", "(II)I"⟩ ⟨"RateBreaksModel", "weight", "(II)I"⟩ ∈ lw_tbl := List.mem_of_getElem? (i := 723) (by decide +kernel)
theorem gw_724 : Cond.code ⟨"RateBreaksModel", "weight", "(II)I"⟩ prog_7_method_18_code 3 (Option.some FieldType.int) ∈ lw_tbl := List.mem_of_getElem? (i := 724) (by decide +kernel)
theorem gw_725 : Cond.methodLink "RateBreaksModel" 133 ⟨"RateBreaksModel", "noShipment", "(I)Z"⟩ ∈ lw_tbl := List.mem_of_getElem? (i := 725) (by decide +kernel)
theorem gw_727 : Cond.instanceMethod ⟨"RateBreaksModel", "noShipment", "(I)Z"⟩ ∈ lw_tbl := List.mem_of_getElem? (i := 727) (by decide +kernel)
theorem gw_728 : Cond.code ⟨"RateBreaksModel", "noShipment", "(I)Z"⟩ prog_7_method_14_code 2 (Option.some FieldType.boolean) ∈ lw_tbl := List.mem_of_getElem? (i := 728) (by decide +kernel)
theorem gw_729 : Cond.methodLink "RateBreaksModel" 113 ⟨"RateBreaksModel", "toPay", "(II)I"⟩ ∈ lw_tbl := List.mem_of_getElem? (i := 729) (by decide +kernel)
theorem gw_731 : Cond.instanceMethod ⟨"RateBreaksModel", "toPay", "(II)I"⟩ ∈ lw_tbl := List.mem_of_getElem? (i := 731) (by decide +kernel)
theorem gw_732 : Cond.code ⟨"RateBreaksModel", "toPay", "(II)I"⟩ prog_7_method_10_code 6 (Option.some FieldType.int) ∈ lw_tbl := List.mem_of_getElem? (i := 732) (by decide +kernel)
theorem gw_733 : Cond.methodLink "RateBreaksModel" 110 ⟨"RateBreaksModel", "find", "(II)I"⟩ ∈ lw_tbl := List.mem_of_getElem? (i := 733) (by decide +kernel)
theorem gw_735 : Cond.instanceMethod ⟨"RateBreaksModel", "find", "(II)I"⟩ ∈ lw_tbl := List.mem_of_getElem? (i := 735) (by decide +kernel)
theorem gw_736 : Cond.code ⟨"RateBreaksModel", "find", "(II)I"⟩ prog_7_method_8_code 4 (Option.some FieldType.int) ∈ lw_tbl := List.mem_of_getElem? (i := 736) (by decide +kernel)
theorem gw_737 : Cond.methodLink "RateBreaksLaw" 97 ⟨"RateBreaksModel", "price", "(II)I"⟩ ∈ lw_tbl := List.mem_of_getElem? (i := 737) (by decide +kernel)
theorem gw_738 : Cond.instanceMethod ⟨"RateBreaksModel", "price", "(II)I"⟩ ∈ lw_tbl := List.mem_of_getElem? (i := 738) (by decide +kernel)
theorem gw_739 : Cond.selects "RateBreaksModel" ⟨"RateBreaksModel", "price", "(II)I"⟩ ⟨"RateBreaksModel", "price", "(II)I"⟩ ∈ lw_tbl := List.mem_of_getElem? (i := 739) (by decide +kernel)
theorem gw_740 : Cond.code ⟨"RateBreaksModel", "price", "(II)I"⟩ prog_7_method_19_code 3 (Option.some FieldType.int) ∈ lw_tbl := List.mem_of_getElem? (i := 740) (by decide +kernel)
theorem gw_741 : Cond.methodLink "RateBreaksModel" 137 ⟨"RateBreaksModel", "priceOf", "(II)I"⟩ ∈ lw_tbl := List.mem_of_getElem? (i := 741) (by decide +kernel)
theorem gw_743 : Cond.instanceMethod ⟨"RateBreaksModel", "priceOf", "(II)I"⟩ ∈ lw_tbl := List.mem_of_getElem? (i := 743) (by decide +kernel)
theorem gw_744 : Cond.code ⟨"RateBreaksModel", "priceOf", "(II)I"⟩ prog_7_method_12_code 9 (Option.some FieldType.int) ∈ lw_tbl := List.mem_of_getElem? (i := 744) (by decide +kernel)
theorem gw_745 : Cond.methodLink "RateBreaksModel" 116 ⟨"RateBreaksModel", "part", "(JII)I"⟩ ∈ lw_tbl := List.mem_of_getElem? (i := 745) (by decide +kernel)
theorem gw_746 : Cond.static ⟨"RateBreaksModel", "part", "(JII)I"⟩ ∈ lw_tbl := List.mem_of_getElem? (i := 746) (by decide +kernel)
theorem gw_747 : Cond.code ⟨"RateBreaksModel", "part", "(JII)I"⟩ prog_7_method_9_code 4 (Option.some FieldType.int) ∈ lw_tbl := List.mem_of_getElem? (i := 747) (by decide +kernel)
theorem gw_748 : Cond.methodLink "RateBreaksModel" 120 ⟨"RateBreaksModel", "booked", "(I)I"⟩ ∈ lw_tbl := List.mem_of_getElem? (i := 748) (by decide +kernel)
theorem gw_750 : Cond.instanceMethod ⟨"RateBreaksModel", "booked", "(I)I"⟩ ∈ lw_tbl := List.mem_of_getElem? (i := 750) (by decide +kernel)
theorem gw_751 : Cond.code ⟨"RateBreaksModel", "booked", "(I)I"⟩ prog_7_method_11_code 4 (Option.some FieldType.int) ∈ lw_tbl := List.mem_of_getElem? (i := 751) (by decide +kernel)
theorem gw_752 : Cond.methodLink "RateBreaksLaw" 100 ⟨"RateBreaksModel", "cheapest", "(I)I"⟩ ∈ lw_tbl := List.mem_of_getElem? (i := 752) (by decide +kernel)
theorem gw_753 : Cond.instanceMethod ⟨"RateBreaksModel", "cheapest", "(I)I"⟩ ∈ lw_tbl := List.mem_of_getElem? (i := 753) (by decide +kernel)
theorem gw_754 : Cond.selects "RateBreaksModel" ⟨"RateBreaksModel", "cheapest", "(I)I"⟩ ⟨"RateBreaksModel", "cheapest", "(I)I"⟩ ∈ lw_tbl := List.mem_of_getElem? (i := 754) (by decide +kernel)
theorem gw_755 : Cond.code ⟨"RateBreaksModel", "cheapest", "(I)I"⟩ prog_7_method_20_code 5 (Option.some FieldType.int) ∈ lw_tbl := List.mem_of_getElem? (i := 755) (by decide +kernel)
theorem gw_756 : Cond.methodLink "RateBreaksLaw" 103 ⟨"RateBreaksModel", "parcels", "(II)I"⟩ ∈ lw_tbl := List.mem_of_getElem? (i := 756) (by decide +kernel)
theorem gw_757 : Cond.instanceMethod ⟨"RateBreaksModel", "parcels", "(II)I"⟩ ∈ lw_tbl := List.mem_of_getElem? (i := 757) (by decide +kernel)
theorem gw_758 : Cond.selects "RateBreaksModel" ⟨"RateBreaksModel", "parcels", "(II)I"⟩ ⟨"RateBreaksModel", "parcels", "(II)I"⟩ ∈ lw_tbl := List.mem_of_getElem? (i := 758) (by decide +kernel)
theorem gw_759 : Cond.code ⟨"RateBreaksModel", "parcels", "(II)I"⟩ prog_7_method_21_code 11 (Option.some FieldType.int) ∈ lw_tbl := List.mem_of_getElem? (i := 759) (by decide +kernel)
theorem gw_760 : Cond.methodLink "RateBreaksLaw" 107 ⟨"RateBreaksModel", "contract", "(IIII)I"⟩ ∈ lw_tbl := List.mem_of_getElem? (i := 760) (by decide +kernel)
theorem gw_761 : Cond.instanceMethod ⟨"RateBreaksModel", "contract", "(IIII)I"⟩ ∈ lw_tbl := List.mem_of_getElem? (i := 761) (by decide +kernel)
theorem gw_762 : Cond.selects "RateBreaksModel" ⟨"RateBreaksModel", "contract", "(IIII)I"⟩ ⟨"RateBreaksModel", "contract", "(IIII)I"⟩ ∈ lw_tbl := List.mem_of_getElem? (i := 762) (by decide +kernel)
theorem gw_763 : Cond.code ⟨"RateBreaksModel", "contract", "(IIII)I"⟩ prog_7_method_22_code 6 (Option.some FieldType.int) ∈ lw_tbl := List.mem_of_getElem? (i := 763) (by decide +kernel)
theorem gw_764 : Cond.methodLink "RateBreaksLaw" 110 ⟨"RateBreaksModel", "book", "(II)I"⟩ ∈ lw_tbl := List.mem_of_getElem? (i := 764) (by decide +kernel)
theorem gw_765 : Cond.instanceMethod ⟨"RateBreaksModel", "book", "(II)I"⟩ ∈ lw_tbl := List.mem_of_getElem? (i := 765) (by decide +kernel)
theorem gw_766 : Cond.selects "RateBreaksModel" ⟨"RateBreaksModel", "book", "(II)I"⟩ ⟨"RateBreaksModel", "book", "(II)I"⟩ ∈ lw_tbl := List.mem_of_getElem? (i := 766) (by decide +kernel)
theorem gw_767 : Cond.code ⟨"RateBreaksModel", "book", "(II)I"⟩ prog_7_method_23_code 4 (Option.some FieldType.int) ∈ lw_tbl := List.mem_of_getElem? (i := 767) (by decide +kernel)
theorem gw_768 : Cond.methodLink "RateBreaksLaw" 113 ⟨"RateBreaksModel", "combine", "(II)I"⟩ ∈ lw_tbl := List.mem_of_getElem? (i := 768) (by decide +kernel)
theorem gw_769 : Cond.instanceMethod ⟨"RateBreaksModel", "combine", "(II)I"⟩ ∈ lw_tbl := List.mem_of_getElem? (i := 769) (by decide +kernel)
theorem gw_770 : Cond.selects "RateBreaksModel" ⟨"RateBreaksModel", "combine", "(II)I"⟩ ⟨"RateBreaksModel", "combine", "(II)I"⟩ ∈ lw_tbl := List.mem_of_getElem? (i := 770) (by decide +kernel)
theorem gw_771 : Cond.code ⟨"RateBreaksModel", "combine", "(II)I"⟩ prog_7_method_24_code 4 (Option.some FieldType.int) ∈ lw_tbl := List.mem_of_getElem? (i := 771) (by decide +kernel)
theorem gw_772 : Cond.methodLink "RateBreaksLaw" 116 ⟨"RateBreaksModel", "invoice", "(II)I"⟩ ∈ lw_tbl := List.mem_of_getElem? (i := 772) (by decide +kernel)
theorem gw_773 : Cond.instanceMethod ⟨"RateBreaksModel", "invoice", "(II)I"⟩ ∈ lw_tbl := List.mem_of_getElem? (i := 773) (by decide +kernel)
theorem gw_774 : Cond.selects "RateBreaksModel" ⟨"RateBreaksModel", "invoice", "(II)I"⟩ ⟨"RateBreaksModel", "invoice", "(II)I"⟩ ∈ lw_tbl := List.mem_of_getElem? (i := 774) (by decide +kernel)
theorem gw_775 : Cond.code ⟨"RateBreaksModel", "invoice", "(II)I"⟩ prog_7_method_25_code 3 (Option.some FieldType.int) ∈ lw_tbl := List.mem_of_getElem? (i := 775) (by decide +kernel)
theorem gw_776 : Cond.constant "RateBreaksModel" 140 (10000000 : Int32) ∈ lw_tbl := List.mem_of_getElem? (i := 776) (by decide +kernel)
theorem gw_777 : Cond.methodLink "RateBreaksLaw" 119 ⟨"RateBreaksModel", "refund", "(II)I"⟩ ∈ lw_tbl := List.mem_of_getElem? (i := 777) (by decide +kernel)
theorem gw_778 : Cond.instanceMethod ⟨"RateBreaksModel", "refund", "(II)I"⟩ ∈ lw_tbl := List.mem_of_getElem? (i := 778) (by decide +kernel)
theorem gw_779 : Cond.selects "RateBreaksModel" ⟨"RateBreaksModel", "refund", "(II)I"⟩ ⟨"RateBreaksModel", "refund", "(II)I"⟩ ∈ lw_tbl := List.mem_of_getElem? (i := 779) (by decide +kernel)
theorem gw_780 : Cond.code ⟨"RateBreaksModel", "refund", "(II)I"⟩ prog_7_method_26_code 3 (Option.some FieldType.int) ∈ lw_tbl := List.mem_of_getElem? (i := 780) (by decide +kernel)
theorem gw_781 : Cond.methodLink "RateBreaksLaw" 122 ⟨"RateBreaksModel", "differ", "(I)I"⟩ ∈ lw_tbl := List.mem_of_getElem? (i := 781) (by decide +kernel)
theorem gw_782 : Cond.instanceMethod ⟨"RateBreaksModel", "differ", "(I)I"⟩ ∈ lw_tbl := List.mem_of_getElem? (i := 782) (by decide +kernel)
theorem gw_783 : Cond.selects "RateBreaksModel" ⟨"RateBreaksModel", "differ", "(I)I"⟩ ⟨"RateBreaksModel", "differ", "(I)I"⟩ ∈ lw_tbl := List.mem_of_getElem? (i := 783) (by decide +kernel)
theorem gw_784 : Cond.code ⟨"RateBreaksModel", "differ", "(I)I"⟩ prog_7_method_27_code 4 (Option.some FieldType.int) ∈ lw_tbl := List.mem_of_getElem? (i := 784) (by decide +kernel)
theorem gw_785 : Cond.methodLink "RateBreaksLaw" 125 ⟨"RateBreaksModel", "currency", "(III)I"⟩ ∈ lw_tbl := List.mem_of_getElem? (i := 785) (by decide +kernel)
theorem gw_786 : Cond.instanceMethod ⟨"RateBreaksModel", "currency", "(III)I"⟩ ∈ lw_tbl := List.mem_of_getElem? (i := 786) (by decide +kernel)
theorem gw_787 : Cond.selects "RateBreaksModel" ⟨"RateBreaksModel", "currency", "(III)I"⟩ ⟨"RateBreaksModel", "currency", "(III)I"⟩ ∈ lw_tbl := List.mem_of_getElem? (i := 787) (by decide +kernel)
theorem gw_788 : Cond.code ⟨"RateBreaksModel", "currency", "(III)I"⟩ prog_7_method_28_code 5 (Option.some FieldType.int) ∈ lw_tbl := List.mem_of_getElem? (i := 788) (by decide +kernel)
theorem gw_789 : Cond.methodLink "RateBreaksLaw" 128 ⟨"RateBreaksModel", "converted", "(II)J"⟩ ∈ lw_tbl := List.mem_of_getElem? (i := 789) (by decide +kernel)
theorem gw_790 : Cond.instanceMethod ⟨"RateBreaksModel", "converted", "(II)J"⟩ ∈ lw_tbl := List.mem_of_getElem? (i := 790) (by decide +kernel)
theorem gw_791 : Cond.selects "RateBreaksModel" ⟨"RateBreaksModel", "converted", "(II)J"⟩ ⟨"RateBreaksModel", "converted", "(II)J"⟩ ∈ lw_tbl := List.mem_of_getElem? (i := 791) (by decide +kernel)
theorem gw_792 : Cond.code ⟨"RateBreaksModel", "converted", "(II)J"⟩ prog_7_method_29_code 5 (Option.some FieldType.long) ∈ lw_tbl := List.mem_of_getElem? (i := 792) (by decide +kernel)
theorem gw_793 : Cond.constantLong "RateBreaksModel" 141 (-1 : Int64) ∈ lw_tbl := List.mem_of_getElem? (i := 793) (by decide +kernel)
theorem gw_794 : Cond.methodLink "RateBreaksLaw" 131 ⟨"RateBreaksModel", "told", "(II)I"⟩ ∈ lw_tbl := List.mem_of_getElem? (i := 794) (by decide +kernel)
theorem gw_795 : Cond.instanceMethod ⟨"RateBreaksModel", "told", "(II)I"⟩ ∈ lw_tbl := List.mem_of_getElem? (i := 795) (by decide +kernel)
theorem gw_796 : Cond.selects "RateBreaksModel" ⟨"RateBreaksModel", "told", "(II)I"⟩ ⟨"RateBreaksModel", "told", "(II)I"⟩ ∈ lw_tbl := List.mem_of_getElem? (i := 796) (by decide +kernel)
theorem gw_797 : Cond.code ⟨"RateBreaksModel", "told", "(II)I"⟩ prog_7_method_30_code 3 (Option.some FieldType.int) ∈ lw_tbl := List.mem_of_getElem? (i := 797) (by decide +kernel)
theorem gw_798 : Cond.methodLink "RateBreaksLaw" 135 ⟨"RateBreaksModel", "count", "(I)I"⟩ ∈ lw_tbl := List.mem_of_getElem? (i := 798) (by decide +kernel)
theorem gw_799 : Cond.instanceMethod ⟨"RateBreaksModel", "count", "(I)I"⟩ ∈ lw_tbl := List.mem_of_getElem? (i := 799) (by decide +kernel)
theorem gw_800 : Cond.selects "RateBreaksModel" ⟨"RateBreaksModel", "count", "(I)I"⟩ ⟨"RateBreaksModel", "count", "(I)I"⟩ ∈ lw_tbl := List.mem_of_getElem? (i := 800) (by decide +kernel)
theorem gw_801 : Cond.code ⟨"RateBreaksModel", "count", "(I)I"⟩ prog_7_method_31_code 7 (Option.some FieldType.int) ∈ lw_tbl := List.mem_of_getElem? (i := 801) (by decide +kernel)
theorem gw_802 : Cond.arrayClass FieldType.long ∈ lw_tbl := List.mem_of_getElem? (i := 802) (by decide +kernel)
end
section
abbrev md_RB_init : gj_M := (⟨"RateBreaks", "<init>", "()V"⟩, prog_1_method_1_code, 2, none, [])
abbrev md_Tx_init : gj_M := (⟨"RateBreaks$Text", "<init>", "()V"⟩, prog_5_method_1_code, 1, none, [])
abbrev md_Ra_init : gj_M := (⟨"RateBreaks$Rates", "<init>", "()V"⟩, prog_2_method_1_code, 1, none, [])
abbrev md_Ra_clear : gj_M := (⟨"RateBreaks$Rates", "clear", "()V"⟩, prog_2_method_2_code, 2, none, [])
abbrev md_Ro_init : gj_M := (⟨"RateBreaks$Ratios", "<init>", "(I)V"⟩, prog_3_method_1_code, 3, none, [])
abbrev md_RB_read : gj_M := (⟨"RateBreaks", "read", "()I"⟩, prog_1_method_3_code, 3, some .int, [])
abbrev md_RB_readInto : gj_M := (⟨"RateBreaks", "readInto", "(LRateBreaks$Rates;)I"⟩, prog_1_method_24_code, 5, some .int, [])
abbrev md_Tx_behindLine : gj_M := (⟨"RateBreaks$Text", "behindLine", "(I)I"⟩, prog_5_method_5_code, 4, some .int, [])
abbrev md_Tx_at : gj_M := (⟨"RateBreaks$Text", "at", "(I)I"⟩, prog_5_method_4_code, 2, some .int, [])
abbrev md_Tx_numbersBehind : gj_M := (⟨"RateBreaks$Text", "numbersBehind", "(I)I"⟩, prog_5_method_6_code, 1, some .int, [])
abbrev md_Tx_takeNumber : gj_M := (⟨"RateBreaks$Text", "takeNumber", "()I"⟩, prog_5_method_7_code, 5, some .int, [])
abbrev md_Tx_isDigit : gj_M := (⟨"RateBreaks$Text", "isDigit", "(I)Z"⟩, prog_5_method_8_code, 1, some .boolean, [])
abbrev md_Ra_take : gj_M := (⟨"RateBreaks$Rates", "take", "(I[I)Z"⟩, prog_2_method_3_code, 3, some .boolean, [])
abbrev md_Ra_takeKind : gj_M := (⟨"RateBreaks$Rates", "takeKind", "(I[I)Z"⟩, prog_2_method_4_code, 4, some .boolean, [])
abbrev md_Ra_takeStep : gj_M := (⟨"RateBreaks$Rates", "takeStep", "(IIII)Z"⟩, prog_2_method_6_code, 7, some .boolean, [])
abbrev md_RB_laneOf : gj_M := (⟨"RateBreaks", "laneOf", "(II)I"⟩, prog_1_method_26_code, 2, some .int, [])
abbrev md_Ra_heaviest : gj_M := (⟨"RateBreaks$Rates", "heaviest", "(I)I"⟩, prog_2_method_7_code, 4, some .int, [])
abbrev md_Ra_takeOnce : gj_M := (⟨"RateBreaks$Rates", "takeOnce", "([IIII)Z"⟩, prog_2_method_5_code, 4, some .boolean, [])
abbrev md_Tx_clear : gj_M := (⟨"RateBreaks$Text", "clear", "()V"⟩, prog_5_method_2_code, 1, none, [])
abbrev md_RB_count : gj_M := (⟨"RateBreaks", "count", "(I)I"⟩, prog_1_method_18_code, 5, some .int, [])
abbrev md_RB_addend : gj_M := (⟨"RateBreaks", "addend", "(LRateBreaks$Shipment;I)I"⟩, prog_1_method_19_code, 2, some .int, [])
abbrev md_Sh_isBooked : gj_M := (⟨"RateBreaks$Shipment", "isBooked", "()Z"⟩, prog_4_method_2_code, 1, some .boolean, [])
abbrev md_Sh_isInvoiced : gj_M := (⟨"RateBreaks$Shipment", "isInvoiced", "()Z"⟩, prog_4_method_3_code, 1, some .boolean, [])
abbrev md_La_sign : gj_M := (⟨"RateBreaksLaw", "sign", "(LRateBreaks;I[J)I"⟩, method_3_code, 4, some .int, [(0, 9, 12, 13), (0, 9, 15, 15)])
abbrev md_RB_sign : gj_M := (⟨"RateBreaks", "sign", "(I)I"⟩, prog_1_method_2_code, 2, some .int, [])
abbrev md_RB_needWithin : gj_M := (⟨"RateBreaks", "needWithin", "(III)V"⟩, prog_1_method_20_code, 3, none, [])
abbrev md_Tx_append : gj_M := (⟨"RateBreaks$Text", "append", "(I)V"⟩, prog_5_method_3_code, 2, none, [])
abbrev md_La_shipment : gj_M := (⟨"RateBreaksLaw", "shipment", "(LRateBreaks;III[J)I"⟩, method_4_code, 6, some .int, [(0, 12, 15, 13), (0, 12, 19, 15)])
abbrev md_RB_shipment : gj_M := (⟨"RateBreaks", "shipment", "(III)I"⟩, prog_1_method_4_code, 4, some .int, [])
abbrev md_Sh_init : gj_M := (⟨"RateBreaks$Shipment", "<init>", "(III)V"⟩, prog_4_method_1_code, 4, none, [])
abbrev md_La_weight : gj_M := (⟨"RateBreaksLaw", "weight", "(LRateBreaks;II[J)I"⟩, method_5_code, 5, some .int, [(0, 10, 13, 25), (0, 10, 17, 13), (0, 10, 21, 27)])
abbrev md_RB_weight : gj_M := (⟨"RateBreaks", "weight", "(II)I"⟩, prog_1_method_5_code, 4, some .int, [])
abbrev md_RB_present : gj_M := (⟨"RateBreaks", "present", "(I)LRateBreaks$Shipment;"⟩, prog_1_method_23_code, 3, some (.object "RateBreaks$Shipment"), [])
abbrev md_RB_needService : gj_M := (⟨"RateBreaks", "needService", "(I)V"⟩, prog_1_method_21_code, 1, none, [])
abbrev md_Ra_weightToPay : gj_M := (⟨"RateBreaks$Rates", "weightToPay", "(LRateBreaks$Shipment;I)I"⟩, prog_2_method_8_code, 5, some .int, [])
abbrev md_RB_dividedUp : gj_M := (⟨"RateBreaks", "dividedUp", "(JJ)J"⟩, prog_1_method_28_code, 4, some .long, [])
abbrev md_RB_dividedDown : gj_M := (⟨"RateBreaks", "dividedDown", "(JJ)J"⟩, prog_1_method_27_code, 4, some .long, [])
abbrev md_La_price : gj_M := (⟨"RateBreaksLaw", "price", "(LRateBreaks;II[J)I"⟩, method_6_code, 5, some .int, [(0, 10, 13, 25), (0, 10, 17, 13), (0, 10, 21, 27)])
abbrev md_RB_price : gj_M := (⟨"RateBreaks", "price", "(II)I"⟩, prog_1_method_6_code, 4, some .int, [])
abbrev md_RB_priceNow : gj_M := (⟨"RateBreaks", "priceNow", "(LRateBreaks$Shipment;I)I"⟩, prog_1_method_25_code, 8, some .int, [])
abbrev md_Ra_stepFor : gj_M := (⟨"RateBreaks$Rates", "stepFor", "(II)I"⟩, prog_2_method_9_code, 4, some .int, [])
abbrev md_Ra_charged : gj_M := (⟨"RateBreaks$Rates", "charged", "(II)J"⟩, prog_2_method_10_code, 5, some .long, [])
abbrev md_Ro_latest : gj_M := (⟨"RateBreaks$Ratios", "latest", "(I)I"⟩, prog_3_method_5_code, 4, some .int, [])
abbrev md_La_cheapest : gj_M := (⟨"RateBreaksLaw", "cheapest", "(LRateBreaks;I[J)I"⟩, method_7_code, 4, some .int, [(0, 9, 12, 25)])
abbrev md_RB_cheapest : gj_M := (⟨"RateBreaks", "cheapest", "(I)I"⟩, prog_1_method_7_code, 7, some .int, [])
abbrev md_La_parcels : gj_M := (⟨"RateBreaksLaw", "parcels", "(LRateBreaks;II[J)I"⟩, method_8_code, 5, some .int, [(0, 10, 13, 25), (0, 10, 17, 13)])
abbrev md_RB_parcels : gj_M := (⟨"RateBreaks", "parcels", "(II)I"⟩, prog_1_method_8_code, 5, some .int, [])
abbrev md_Ra_leastCents : gj_M := (⟨"RateBreaks$Rates", "leastCents", "(IIIII)I"⟩, prog_2_method_11_code, 9, some .int, [])
abbrev md_La_contract : gj_M := (⟨"RateBreaksLaw", "contract", "(LRateBreaks;IIII[J)I"⟩, method_9_code, 7, some .int, [(0, 14, 17, 13), (0, 14, 21, 15)])
abbrev md_RB_contract : gj_M := (⟨"RateBreaks", "contract", "(IIII)I"⟩, prog_1_method_9_code, 6, some .int, [])
abbrev md_RB_needRoom : gj_M := (⟨"RateBreaks", "needRoom", "(LRateBreaks$Ratios;I)V"⟩, prog_1_method_22_code, 2, none, [])
abbrev md_Ro_hasRoomFor : gj_M := (⟨"RateBreaks$Ratios", "hasRoomFor", "(I)Z"⟩, prog_3_method_2_code, 2, some .boolean, [])
abbrev md_Ro_placeFor : gj_M := (⟨"RateBreaks$Ratios", "placeFor", "(I)I"⟩, prog_3_method_4_code, 3, some .int, [])
abbrev md_Ro_put : gj_M := (⟨"RateBreaks$Ratios", "put", "(III)V"⟩, prog_3_method_3_code, 5, none, [])
abbrev md_La_book : gj_M := (⟨"RateBreaksLaw", "book", "(LRateBreaks;II[J)I"⟩, method_10_code, 5, some .int, [(0, 10, 13, 25), (0, 10, 17, 13), (0, 10, 21, 45), (0, 10, 25, 27)])
abbrev md_RB_book : gj_M := (⟨"RateBreaks", "book", "(II)I"⟩, prog_1_method_10_code, 5, some .int, [])
abbrev md_La_combine : gj_M := (⟨"RateBreaksLaw", "combine", "(LRateBreaks;II[J)I"⟩, method_11_code, 5, some .int, [(0, 10, 13, 25), (0, 10, 17, 45)])
abbrev md_RB_combine : gj_M := (⟨"RateBreaks", "combine", "(II)I"⟩, prog_1_method_11_code, 7, some .int, [])
abbrev md_La_invoice : gj_M := (⟨"RateBreaksLaw", "invoice", "(LRateBreaks;II[J)I"⟩, method_12_code, 5, some .int, [(0, 10, 13, 25), (0, 10, 17, 13), (0, 10, 21, 45)])
abbrev md_RB_invoice : gj_M := (⟨"RateBreaks", "invoice", "(II)I"⟩, prog_1_method_12_code, 4, some .int, [])
abbrev md_La_refund : gj_M := (⟨"RateBreaksLaw", "refund", "(LRateBreaks;II[J)I"⟩, method_13_code, 5, some .int, [(0, 10, 13, 25), (0, 10, 17, 13), (0, 10, 21, 45)])
abbrev md_RB_refund : gj_M := (⟨"RateBreaks", "refund", "(II)I"⟩, prog_1_method_13_code, 4, some .int, [])
abbrev md_La_differ : gj_M := (⟨"RateBreaksLaw", "differ", "(LRateBreaks;I[J)I"⟩, method_14_code, 4, some .int, [(0, 9, 12, 13)])
abbrev md_RB_differ : gj_M := (⟨"RateBreaks", "differ", "(I)I"⟩, prog_1_method_14_code, 5, some .int, [])
abbrev md_La_currency : gj_M := (⟨"RateBreaksLaw", "currency", "(LRateBreaks;III[J)I"⟩, method_15_code, 6, some .int, [(0, 12, 15, 13), (0, 12, 19, 15)])
abbrev md_RB_currency : gj_M := (⟨"RateBreaks", "currency", "(III)I"⟩, prog_1_method_15_code, 4, some .int, [])
abbrev md_La_converted : gj_M := (⟨"RateBreaksLaw", "converted", "(LRateBreaks;II[J)I"⟩, method_16_code, 5, some .int, [(0, 9, 12, 13)])
abbrev md_RB_converted : gj_M := (⟨"RateBreaks", "converted", "(II)J"⟩, prog_1_method_16_code, 4, some .long, [])
abbrev md_La_told : gj_M := (⟨"RateBreaksLaw", "told", "(LRateBreaks;II[J)I"⟩, method_17_code, 5, some .int, [(0, 10, 13, 25), (0, 10, 17, 13)])
abbrev md_RB_told : gj_M := (⟨"RateBreaks", "told", "(II)I"⟩, prog_1_method_17_code, 4, some .int, [])
abbrev md_Mo_init : gj_M := (⟨"RateBreaksModel", "<init>", "()V"⟩, prog_7_method_1_code, 1, none, [])
abbrev md_Mo_thrown : gj_M := (⟨"RateBreaksModel", "thrown", "()I"⟩, prog_7_method_13_code, 1, some .int, [])
abbrev md_Mo_sign : gj_M := (⟨"RateBreaksModel", "sign", "(I)I"⟩, prog_7_method_15_code, 2, some .int, [])
abbrev md_Mo_not : gj_M := (⟨"RateBreaksModel", "not", "(III)Z"⟩, prog_7_method_2_code, 3, some .boolean, [])
abbrev md_Mo_read : gj_M := (⟨"RateBreaksModel", "read", "()I"⟩, prog_7_method_16_code, 4, some .int, [])
abbrev md_Mo_oneLine : gj_M := (⟨"RateBreaksModel", "oneLine", "()Z"⟩, prog_7_method_7_code, 7, some .boolean, [])
abbrev md_Mo_here : gj_M := (⟨"RateBreaksModel", "here", "()I"⟩, prog_7_method_3_code, 1, some .int, [])
abbrev md_Mo_number : gj_M := (⟨"RateBreaksModel", "number", "()I"⟩, prog_7_method_4_code, 4, some .int, [])
abbrev md_Mo_heaviest : gj_M := (⟨"RateBreaksModel", "heaviest", "(II)I"⟩, prog_7_method_6_code, 5, some .int, [])
abbrev md_Mo_seen : gj_M := (⟨"RateBreaksModel", "seen", "(II)Z"⟩, prog_7_method_5_code, 4, some .boolean, [])
abbrev md_Mo_shipment : gj_M := (⟨"RateBreaksModel", "shipment", "(III)I"⟩, prog_7_method_17_code, 4, some .int, [])
abbrev md_Mo_weight : gj_M := (⟨"RateBreaksModel", "weight", "(II)I"⟩, prog_7_method_18_code, 3, some .int, [])
abbrev md_Mo_noShipment : gj_M := (⟨"RateBreaksModel", "noShipment", "(I)Z"⟩, prog_7_method_14_code, 2, some .boolean, [])
abbrev md_Mo_toPay : gj_M := (⟨"RateBreaksModel", "toPay", "(II)I"⟩, prog_7_method_10_code, 6, some .int, [])
abbrev md_Mo_find : gj_M := (⟨"RateBreaksModel", "find", "(II)I"⟩, prog_7_method_8_code, 4, some .int, [])
abbrev md_Mo_price : gj_M := (⟨"RateBreaksModel", "price", "(II)I"⟩, prog_7_method_19_code, 3, some .int, [])
abbrev md_Mo_priceOf : gj_M := (⟨"RateBreaksModel", "priceOf", "(II)I"⟩, prog_7_method_12_code, 9, some .int, [])
abbrev md_Mo_part : gj_M := (⟨"RateBreaksModel", "part", "(JII)I"⟩, prog_7_method_9_code, 4, some .int, [])
abbrev md_Mo_booked : gj_M := (⟨"RateBreaksModel", "booked", "(I)I"⟩, prog_7_method_11_code, 4, some .int, [])
abbrev md_Mo_cheapest : gj_M := (⟨"RateBreaksModel", "cheapest", "(I)I"⟩, prog_7_method_20_code, 5, some .int, [])
abbrev md_Mo_parcels : gj_M := (⟨"RateBreaksModel", "parcels", "(II)I"⟩, prog_7_method_21_code, 11, some .int, [])
abbrev md_Mo_contract : gj_M := (⟨"RateBreaksModel", "contract", "(IIII)I"⟩, prog_7_method_22_code, 6, some .int, [])
abbrev md_Mo_book : gj_M := (⟨"RateBreaksModel", "book", "(II)I"⟩, prog_7_method_23_code, 4, some .int, [])
abbrev md_Mo_combine : gj_M := (⟨"RateBreaksModel", "combine", "(II)I"⟩, prog_7_method_24_code, 4, some .int, [])
abbrev md_Mo_invoice : gj_M := (⟨"RateBreaksModel", "invoice", "(II)I"⟩, prog_7_method_25_code, 3, some .int, [])
abbrev md_Mo_refund : gj_M := (⟨"RateBreaksModel", "refund", "(II)I"⟩, prog_7_method_26_code, 3, some .int, [])
abbrev md_Mo_differ : gj_M := (⟨"RateBreaksModel", "differ", "(I)I"⟩, prog_7_method_27_code, 4, some .int, [])
abbrev md_Mo_currency : gj_M := (⟨"RateBreaksModel", "currency", "(III)I"⟩, prog_7_method_28_code, 5, some .int, [])
abbrev md_Mo_converted : gj_M := (⟨"RateBreaksModel", "converted", "(II)J"⟩, prog_7_method_29_code, 5, some .long, [])
abbrev md_Mo_told : gj_M := (⟨"RateBreaksModel", "told", "(II)I"⟩, prog_7_method_30_code, 3, some .int, [])
abbrev md_Mo_count : gj_M := (⟨"RateBreaksModel", "count", "(I)I"⟩, prog_7_method_31_code, 7, some .int, [])
abbrev md_La_law : gj_M := (⟨"RateBreaksLaw", "law", "([I)Z"⟩, code, 8, some .boolean, [])
theorem mo_RB_init : gj_mok md_RB_init := ⟨by decide, ⟨by decide, by decide⟩, Or.inl ⟨rfl, gw_39⟩⟩
theorem mo_Tx_init : gj_mok md_Tx_init := ⟨by decide, ⟨by decide, by decide⟩, Or.inl ⟨rfl, gw_47⟩⟩
theorem mo_Ra_init : gj_mok md_Ra_init := ⟨by decide, ⟨by decide, by decide⟩, Or.inl ⟨rfl, gw_69⟩⟩
theorem mo_Ra_clear : gj_mok md_Ra_clear := ⟨by decide, ⟨by decide, by decide⟩, Or.inl ⟨rfl, gw_74⟩⟩
theorem mo_Ro_init : gj_mok md_Ro_init := ⟨by decide, ⟨by decide, by decide⟩, Or.inl ⟨rfl, gw_115⟩⟩
theorem mo_RB_read : gj_mok md_RB_read := ⟨by decide, ⟨by decide, by decide⟩, Or.inl ⟨rfl, gw_164⟩⟩
theorem mo_RB_readInto : gj_mok md_RB_readInto := ⟨by decide, ⟨by decide, by decide⟩, Or.inl ⟨rfl, gw_168⟩⟩
theorem mo_Tx_behindLine : gj_mok md_Tx_behindLine := ⟨by decide, ⟨by decide, by decide⟩, Or.inl ⟨rfl, gw_173⟩⟩
theorem mo_Tx_at : gj_mok md_Tx_at := ⟨by decide, ⟨by decide, by decide⟩, Or.inl ⟨rfl, gw_177⟩⟩
theorem mo_Tx_numbersBehind : gj_mok md_Tx_numbersBehind := ⟨by decide, ⟨by decide, by decide⟩, Or.inl ⟨rfl, gw_180⟩⟩
theorem mo_Tx_takeNumber : gj_mok md_Tx_takeNumber := ⟨by decide, ⟨by decide, by decide⟩, Or.inl ⟨rfl, gw_184⟩⟩
theorem mo_Tx_isDigit : gj_mok md_Tx_isDigit := ⟨by decide, ⟨by decide, by decide⟩, Or.inl ⟨rfl, gw_187⟩⟩
theorem mo_Ra_take : gj_mok md_Ra_take := ⟨by decide, ⟨by decide, by decide⟩, Or.inl ⟨rfl, gw_192⟩⟩
theorem mo_Ra_takeKind : gj_mok md_Ra_takeKind := ⟨by decide, ⟨by decide, by decide⟩, Or.inl ⟨rfl, gw_196⟩⟩
theorem mo_Ra_takeStep : gj_mok md_Ra_takeStep := ⟨by decide, ⟨by decide, by decide⟩, Or.inl ⟨rfl, gw_200⟩⟩
theorem mo_RB_laneOf : gj_mok md_RB_laneOf := ⟨by decide, ⟨by decide, by decide⟩, Or.inl ⟨rfl, gw_205⟩⟩
theorem mo_Ra_heaviest : gj_mok md_Ra_heaviest := ⟨by decide, ⟨by decide, by decide⟩, Or.inl ⟨rfl, gw_209⟩⟩
theorem mo_Ra_takeOnce : gj_mok md_Ra_takeOnce := ⟨by decide, ⟨by decide, by decide⟩, Or.inl ⟨rfl, gw_212⟩⟩
theorem mo_Tx_clear : gj_mok md_Tx_clear := ⟨by decide, ⟨by decide, by decide⟩, Or.inl ⟨rfl, gw_216⟩⟩
theorem mo_RB_count : gj_mok md_RB_count := ⟨by decide, ⟨by decide, by decide⟩, Or.inl ⟨rfl, gw_220⟩⟩
theorem mo_RB_addend : gj_mok md_RB_addend := ⟨by decide, ⟨by decide, by decide⟩, Or.inl ⟨rfl, gw_223⟩⟩
theorem mo_Sh_isBooked : gj_mok md_Sh_isBooked := ⟨by decide, ⟨by decide, by decide⟩, Or.inl ⟨rfl, gw_227⟩⟩
theorem mo_Sh_isInvoiced : gj_mok md_Sh_isInvoiced := ⟨by decide, ⟨by decide, by decide⟩, Or.inl ⟨rfl, gw_231⟩⟩
theorem mo_La_sign : gj_mok md_La_sign := ⟨by decide, ⟨by decide, by decide⟩, Or.inr gw_234⟩
theorem mo_RB_sign : gj_mok md_RB_sign := ⟨by decide, ⟨by decide, by decide⟩, Or.inl ⟨rfl, gw_240⟩⟩
theorem mo_RB_needWithin : gj_mok md_RB_needWithin := ⟨by decide, ⟨by decide, by decide⟩, Or.inl ⟨rfl, gw_243⟩⟩
theorem mo_Tx_append : gj_mok md_Tx_append := ⟨by decide, ⟨by decide, by decide⟩, Or.inl ⟨rfl, gw_333⟩⟩
theorem mo_La_shipment : gj_mok md_La_shipment := ⟨by decide, ⟨by decide, by decide⟩, Or.inr gw_336⟩
theorem mo_RB_shipment : gj_mok md_RB_shipment := ⟨by decide, ⟨by decide, by decide⟩, Or.inl ⟨rfl, gw_340⟩⟩
theorem mo_Sh_init : gj_mok md_Sh_init := ⟨by decide, ⟨by decide, by decide⟩, Or.inl ⟨rfl, gw_347⟩⟩
theorem mo_La_weight : gj_mok md_La_weight := ⟨by decide, ⟨by decide, by decide⟩, Or.inr gw_378⟩
theorem mo_RB_weight : gj_mok md_RB_weight := ⟨by decide, ⟨by decide, by decide⟩, Or.inl ⟨rfl, gw_384⟩⟩
theorem mo_RB_present : gj_mok md_RB_present := ⟨by decide, ⟨by decide, by decide⟩, Or.inl ⟨rfl, gw_388⟩⟩
theorem mo_RB_needService : gj_mok md_RB_needService := ⟨by decide, ⟨by decide, by decide⟩, Or.inl ⟨rfl, gw_407⟩⟩
theorem mo_Ra_weightToPay : gj_mok md_Ra_weightToPay := ⟨by decide, ⟨by decide, by decide⟩, Or.inl ⟨rfl, gw_412⟩⟩
theorem mo_RB_dividedUp : gj_mok md_RB_dividedUp := ⟨by decide, ⟨by decide, by decide⟩, Or.inl ⟨rfl, gw_415⟩⟩
theorem mo_RB_dividedDown : gj_mok md_RB_dividedDown := ⟨by decide, ⟨by decide, by decide⟩, Or.inl ⟨rfl, gw_418⟩⟩
theorem mo_La_price : gj_mok md_La_price := ⟨by decide, ⟨by decide, by decide⟩, Or.inr gw_438⟩
theorem mo_RB_price : gj_mok md_RB_price := ⟨by decide, ⟨by decide, by decide⟩, Or.inl ⟨rfl, gw_442⟩⟩
theorem mo_RB_priceNow : gj_mok md_RB_priceNow := ⟨by decide, ⟨by decide, by decide⟩, Or.inl ⟨rfl, gw_446⟩⟩
theorem mo_Ra_stepFor : gj_mok md_Ra_stepFor := ⟨by decide, ⟨by decide, by decide⟩, Or.inl ⟨rfl, gw_451⟩⟩
theorem mo_Ra_charged : gj_mok md_Ra_charged := ⟨by decide, ⟨by decide, by decide⟩, Or.inl ⟨rfl, gw_455⟩⟩
theorem mo_Ro_latest : gj_mok md_Ro_latest := ⟨by decide, ⟨by decide, by decide⟩, Or.inl ⟨rfl, gw_462⟩⟩
theorem mo_La_cheapest : gj_mok md_La_cheapest := ⟨by decide, ⟨by decide, by decide⟩, Or.inr gw_466⟩
theorem mo_RB_cheapest : gj_mok md_RB_cheapest := ⟨by decide, ⟨by decide, by decide⟩, Or.inl ⟨rfl, gw_470⟩⟩
theorem mo_La_parcels : gj_mok md_La_parcels := ⟨by decide, ⟨by decide, by decide⟩, Or.inr gw_473⟩
theorem mo_RB_parcels : gj_mok md_RB_parcels := ⟨by decide, ⟨by decide, by decide⟩, Or.inl ⟨rfl, gw_477⟩⟩
theorem mo_Ra_leastCents : gj_mok md_Ra_leastCents := ⟨by decide, ⟨by decide, by decide⟩, Or.inl ⟨rfl, gw_481⟩⟩
theorem mo_La_contract : gj_mok md_La_contract := ⟨by decide, ⟨by decide, by decide⟩, Or.inr gw_485⟩
theorem mo_RB_contract : gj_mok md_RB_contract := ⟨by decide, ⟨by decide, by decide⟩, Or.inl ⟨rfl, gw_489⟩⟩
theorem mo_RB_needRoom : gj_mok md_RB_needRoom := ⟨by decide, ⟨by decide, by decide⟩, Or.inl ⟨rfl, gw_492⟩⟩
theorem mo_Ro_hasRoomFor : gj_mok md_Ro_hasRoomFor := ⟨by decide, ⟨by decide, by decide⟩, Or.inl ⟨rfl, gw_496⟩⟩
theorem mo_Ro_placeFor : gj_mok md_Ro_placeFor := ⟨by decide, ⟨by decide, by decide⟩, Or.inl ⟨rfl, gw_500⟩⟩
theorem mo_Ro_put : gj_mok md_Ro_put := ⟨by decide, ⟨by decide, by decide⟩, Or.inl ⟨rfl, gw_505⟩⟩
theorem mo_La_book : gj_mok md_La_book := ⟨by decide, ⟨by decide, by decide⟩, Or.inr gw_508⟩
theorem mo_RB_book : gj_mok md_RB_book := ⟨by decide, ⟨by decide, by decide⟩, Or.inl ⟨rfl, gw_513⟩⟩
theorem mo_La_combine : gj_mok md_La_combine := ⟨by decide, ⟨by decide, by decide⟩, Or.inr gw_533⟩
theorem mo_RB_combine : gj_mok md_RB_combine := ⟨by decide, ⟨by decide, by decide⟩, Or.inl ⟨rfl, gw_537⟩⟩
theorem mo_La_invoice : gj_mok md_La_invoice := ⟨by decide, ⟨by decide, by decide⟩, Or.inr gw_544⟩
theorem mo_RB_invoice : gj_mok md_RB_invoice := ⟨by decide, ⟨by decide, by decide⟩, Or.inl ⟨rfl, gw_548⟩⟩
theorem mo_La_refund : gj_mok md_La_refund := ⟨by decide, ⟨by decide, by decide⟩, Or.inr gw_553⟩
theorem mo_RB_refund : gj_mok md_RB_refund := ⟨by decide, ⟨by decide, by decide⟩, Or.inl ⟨rfl, gw_557⟩⟩
theorem mo_La_differ : gj_mok md_La_differ := ⟨by decide, ⟨by decide, by decide⟩, Or.inr gw_561⟩
theorem mo_RB_differ : gj_mok md_RB_differ := ⟨by decide, ⟨by decide, by decide⟩, Or.inl ⟨rfl, gw_565⟩⟩
theorem mo_La_currency : gj_mok md_La_currency := ⟨by decide, ⟨by decide, by decide⟩, Or.inr gw_569⟩
theorem mo_RB_currency : gj_mok md_RB_currency := ⟨by decide, ⟨by decide, by decide⟩, Or.inl ⟨rfl, gw_573⟩⟩
theorem mo_La_converted : gj_mok md_La_converted := ⟨by decide, ⟨by decide, by decide⟩, Or.inr gw_576⟩
theorem mo_RB_converted : gj_mok md_RB_converted := ⟨by decide, ⟨by decide, by decide⟩, Or.inl ⟨rfl, gw_580⟩⟩
theorem mo_La_told : gj_mok md_La_told := ⟨by decide, ⟨by decide, by decide⟩, Or.inr gw_584⟩
theorem mo_RB_told : gj_mok md_RB_told := ⟨by decide, ⟨by decide, by decide⟩, Or.inl ⟨rfl, gw_588⟩⟩
theorem mo_Mo_init : gj_mok md_Mo_init := ⟨by decide, ⟨by decide, by decide⟩, Or.inl ⟨rfl, gw_594⟩⟩
theorem mo_Mo_thrown : gj_mok md_Mo_thrown := ⟨by decide, ⟨by decide, by decide⟩, Or.inl ⟨rfl, gw_682⟩⟩
theorem mo_Mo_sign : gj_mok md_Mo_sign := ⟨by decide, ⟨by decide, by decide⟩, Or.inl ⟨rfl, gw_686⟩⟩
theorem mo_Mo_not : gj_mok md_Mo_not := ⟨by decide, ⟨by decide, by decide⟩, Or.inl ⟨rfl, gw_689⟩⟩
theorem mo_Mo_read : gj_mok md_Mo_read := ⟨by decide, ⟨by decide, by decide⟩, Or.inl ⟨rfl, gw_693⟩⟩
theorem mo_Mo_oneLine : gj_mok md_Mo_oneLine := ⟨by decide, ⟨by decide, by decide⟩, Or.inl ⟨rfl, gw_697⟩⟩
theorem mo_Mo_here : gj_mok md_Mo_here := ⟨by decide, ⟨by decide, by decide⟩, Or.inl ⟨rfl, gw_701⟩⟩
theorem mo_Mo_number : gj_mok md_Mo_number := ⟨by decide, ⟨by decide, by decide⟩, Or.inl ⟨rfl, gw_705⟩⟩
theorem mo_Mo_heaviest : gj_mok md_Mo_heaviest := ⟨by decide, ⟨by decide, by decide⟩, Or.inl ⟨rfl, gw_711⟩⟩
theorem mo_Mo_seen : gj_mok md_Mo_seen := ⟨by decide, ⟨by decide, by decide⟩, Or.inl ⟨rfl, gw_715⟩⟩
theorem mo_Mo_shipment : gj_mok md_Mo_shipment := ⟨by decide, ⟨by decide, by decide⟩, Or.inl ⟨rfl, gw_719⟩⟩
theorem mo_Mo_weight : gj_mok md_Mo_weight := ⟨by decide, ⟨by decide, by decide⟩, Or.inl ⟨rfl, gw_724⟩⟩
theorem mo_Mo_noShipment : gj_mok md_Mo_noShipment := ⟨by decide, ⟨by decide, by decide⟩, Or.inl ⟨rfl, gw_728⟩⟩
theorem mo_Mo_toPay : gj_mok md_Mo_toPay := ⟨by decide, ⟨by decide, by decide⟩, Or.inl ⟨rfl, gw_732⟩⟩
theorem mo_Mo_find : gj_mok md_Mo_find := ⟨by decide, ⟨by decide, by decide⟩, Or.inl ⟨rfl, gw_736⟩⟩
theorem mo_Mo_price : gj_mok md_Mo_price := ⟨by decide, ⟨by decide, by decide⟩, Or.inl ⟨rfl, gw_740⟩⟩
theorem mo_Mo_priceOf : gj_mok md_Mo_priceOf := ⟨by decide, ⟨by decide, by decide⟩, Or.inl ⟨rfl, gw_744⟩⟩
theorem mo_Mo_part : gj_mok md_Mo_part := ⟨by decide, ⟨by decide, by decide⟩, Or.inl ⟨rfl, gw_747⟩⟩
theorem mo_Mo_booked : gj_mok md_Mo_booked := ⟨by decide, ⟨by decide, by decide⟩, Or.inl ⟨rfl, gw_751⟩⟩
theorem mo_Mo_cheapest : gj_mok md_Mo_cheapest := ⟨by decide, ⟨by decide, by decide⟩, Or.inl ⟨rfl, gw_755⟩⟩
theorem mo_Mo_parcels : gj_mok md_Mo_parcels := ⟨by decide, ⟨by decide, by decide⟩, Or.inl ⟨rfl, gw_759⟩⟩
theorem mo_Mo_contract : gj_mok md_Mo_contract := ⟨by decide, ⟨by decide, by decide⟩, Or.inl ⟨rfl, gw_763⟩⟩
theorem mo_Mo_book : gj_mok md_Mo_book := ⟨by decide, ⟨by decide, by decide⟩, Or.inl ⟨rfl, gw_767⟩⟩
theorem mo_Mo_combine : gj_mok md_Mo_combine := ⟨by decide, ⟨by decide, by decide⟩, Or.inl ⟨rfl, gw_771⟩⟩
theorem mo_Mo_invoice : gj_mok md_Mo_invoice := ⟨by decide, ⟨by decide, by decide⟩, Or.inl ⟨rfl, gw_775⟩⟩
theorem mo_Mo_refund : gj_mok md_Mo_refund := ⟨by decide, ⟨by decide, by decide⟩, Or.inl ⟨rfl, gw_780⟩⟩
theorem mo_Mo_differ : gj_mok md_Mo_differ := ⟨by decide, ⟨by decide, by decide⟩, Or.inl ⟨rfl, gw_784⟩⟩
theorem mo_Mo_currency : gj_mok md_Mo_currency := ⟨by decide, ⟨by decide, by decide⟩, Or.inl ⟨rfl, gw_788⟩⟩
theorem mo_Mo_converted : gj_mok md_Mo_converted := ⟨by decide, ⟨by decide, by decide⟩, Or.inl ⟨rfl, gw_792⟩⟩
theorem mo_Mo_told : gj_mok md_Mo_told := ⟨by decide, ⟨by decide, by decide⟩, Or.inl ⟨rfl, gw_797⟩⟩
theorem mo_Mo_count : gj_mok md_Mo_count := ⟨by decide, ⟨by decide, by decide⟩, Or.inl ⟨rfl, gw_801⟩⟩
theorem gn_RB_7 : gj_nok "RateBreaks" 7 1 4 [.null, .null, .int 0, .int 0] := ⟨R_Tx, F_Tx, t_Tx, rfl, li_Tx, to_Tx, gw_43, gw_44, gw_21, fun j hj => by (rcases (show j = 0 ∨ j = 1 ∨ j = 2 ∨ j = 3 by omega) with rfl | rfl | rfl | rfl) <;> rfl, fun _ => rfl, fun _ v hv => by simp at hv; rcases hv with rfl | rfl | rfl | rfl <;> trivial⟩
theorem gp_RB_10 : gj_pok "RateBreaks" 10 0 0 (.object "RateBreaks$Text") true := ⟨R_RB, F_RB, 8, t_RB, rfl, by decide, gw_136, li_RB, to_RB, n_RB, by decide +kernel, rfl, fun _ => rfl⟩
theorem gn_RB_16 : gj_nok "RateBreaks" 16 2 10 [.null, .null, .null, .null, .null, .null, .null, .null, .int 0, .int 0] := ⟨R_Ra, F_Ra, t_Ra, rfl, li_Ra, to_Ra, gw_65, gw_66, gw_22, fun j hj => by (rcases (show j = 0 ∨ j = 1 ∨ j = 2 ∨ j = 3 ∨ j = 4 ∨ j = 5 ∨ j = 6 ∨ j = 7 ∨ j = 8 ∨ j = 9 by omega) with rfl | rfl | rfl | rfl | rfl | rfl | rfl | rfl | rfl | rfl) <;> rfl, fun _ => rfl, fun _ v hv => by simp at hv; rcases hv with rfl | rfl | rfl | rfl | rfl | rfl | rfl | rfl | rfl | rfl <;> trivial⟩
theorem gp_RB_19 : gj_pok "RateBreaks" 19 0 1 (.object "RateBreaks$Rates") false := ⟨R_RB, F_RB, 8, t_RB, rfl, by decide, gw_137, li_RB, to_RB, n_RB, by decide +kernel, rfl, fun h => nomatch h⟩
theorem gp_RB_23 : gj_pok "RateBreaks" 23 0 2 (.object "RateBreaks$Rates") false := ⟨R_RB, F_RB, 8, t_RB, rfl, by decide, gw_138, li_RB, to_RB, n_RB, by decide +kernel, rfl, fun h => nomatch h⟩
theorem gp_RB_28 : gj_pok "RateBreaks" 28 0 3 (.array (.object "RateBreaks$Shipment")) true := ⟨R_RB, F_RB, 8, t_RB, rfl, by decide, gw_139, li_RB, to_RB, n_RB, by decide +kernel, rfl, fun _ => rfl⟩
theorem gp_RB_32 : gj_pok "RateBreaks" 32 0 4 (.int) false := ⟨R_RB, F_RB, 8, t_RB, rfl, by decide, gw_140, li_RB, to_RB, n_RB, by decide +kernel, rfl, fun h => nomatch h⟩
theorem gp_RB_38 : gj_pok "RateBreaks" 38 0 5 (.array (.object "RateBreaks$Ratios")) true := ⟨R_RB, F_RB, 8, t_RB, rfl, by decide, gw_141, li_RB, to_RB, n_RB, by decide +kernel, rfl, fun _ => rfl⟩
theorem gf_RB_38 : gj_fok "RateBreaks" 38 0 5 := ⟨R_RB, F_RB, 8, rfl, by decide, gw_141, li_RB⟩
theorem gn_RB_36 : gj_nok "RateBreaks" 36 3 4 [.null, .null, .null, .int 0] := ⟨R_Ro, F_Ro, t_Ro, rfl, li_Ro, to_Ro, gw_110, gw_112, gw_23, fun j hj => by (rcases (show j = 0 ∨ j = 1 ∨ j = 2 ∨ j = 3 by omega) with rfl | rfl | rfl | rfl) <;> rfl, fun _ => rfl, fun _ v hv => by simp at hv; rcases hv with rfl | rfl | rfl | rfl <;> trivial⟩
theorem gp_RB_45 : gj_pok "RateBreaks" 45 0 6 (.array .int) true := ⟨R_RB, F_RB, 8, t_RB, rfl, by decide, gw_142, li_RB, to_RB, n_RB, by decide +kernel, rfl, fun _ => rfl⟩
theorem gp_RB_49 : gj_pok "RateBreaks" 49 0 7 (.object "RateBreaks$Ratios") true := ⟨R_RB, F_RB, 8, t_RB, rfl, by decide, gw_143, li_RB, to_RB, n_RB, by decide +kernel, rfl, fun _ => rfl⟩
theorem gp_Tx_9 : gj_pok "RateBreaks$Text" 9 1 0 (.array .int) true := ⟨R_Tx, F_Tx, 4, t_Tx, rfl, by decide, gw_49, li_Tx, to_Tx, n_Tx, by decide +kernel, rfl, fun _ => rfl⟩
theorem gp_Tx_15 : gj_pok "RateBreaks$Text" 15 1 1 (.array .int) true := ⟨R_Tx, F_Tx, 4, t_Tx, rfl, by decide, gw_50, li_Tx, to_Tx, n_Tx, by decide +kernel, rfl, fun _ => rfl⟩
theorem gp_Tx_18 : gj_pok "RateBreaks$Text" 18 1 2 (.int) false := ⟨R_Tx, F_Tx, 4, t_Tx, rfl, by decide, gw_52, li_Tx, to_Tx, n_Tx, by decide +kernel, rfl, fun h => nomatch h⟩
theorem gp_Tx_22 : gj_pok "RateBreaks$Text" 22 1 3 (.int) false := ⟨R_Tx, F_Tx, 4, t_Tx, rfl, by decide, gw_54, li_Tx, to_Tx, n_Tx, by decide +kernel, rfl, fun h => nomatch h⟩
theorem gp_Ra_9 : gj_pok "RateBreaks$Rates" 9 2 0 (.array .int) true := ⟨R_Ra, F_Ra, 10, t_Ra, rfl, by decide, gw_75, li_Ra, to_Ra, n_Ra, by decide +kernel, rfl, fun _ => rfl⟩
theorem gp_Ra_15 : gj_pok "RateBreaks$Rates" 15 2 1 (.array .int) true := ⟨R_Ra, F_Ra, 10, t_Ra, rfl, by decide, gw_76, li_Ra, to_Ra, n_Ra, by decide +kernel, rfl, fun _ => rfl⟩
theorem gp_Ra_18 : gj_pok "RateBreaks$Rates" 18 2 2 (.array .int) true := ⟨R_Ra, F_Ra, 10, t_Ra, rfl, by decide, gw_77, li_Ra, to_Ra, n_Ra, by decide +kernel, rfl, fun _ => rfl⟩
theorem gp_Ra_21 : gj_pok "RateBreaks$Rates" 21 2 3 (.array .int) true := ⟨R_Ra, F_Ra, 10, t_Ra, rfl, by decide, gw_78, li_Ra, to_Ra, n_Ra, by decide +kernel, rfl, fun _ => rfl⟩
theorem gp_Ra_24 : gj_pok "RateBreaks$Rates" 24 2 4 (.array .int) true := ⟨R_Ra, F_Ra, 10, t_Ra, rfl, by decide, gw_79, li_Ra, to_Ra, n_Ra, by decide +kernel, rfl, fun _ => rfl⟩
theorem gp_Ra_27 : gj_pok "RateBreaks$Rates" 27 2 5 (.array .int) true := ⟨R_Ra, F_Ra, 10, t_Ra, rfl, by decide, gw_81, li_Ra, to_Ra, n_Ra, by decide +kernel, rfl, fun _ => rfl⟩
theorem gp_Ra_30 : gj_pok "RateBreaks$Rates" 30 2 6 (.array .int) true := ⟨R_Ra, F_Ra, 10, t_Ra, rfl, by decide, gw_82, li_Ra, to_Ra, n_Ra, by decide +kernel, rfl, fun _ => rfl⟩
theorem gp_Ra_33 : gj_pok "RateBreaks$Rates" 33 2 7 (.array .int) true := ⟨R_Ra, F_Ra, 10, t_Ra, rfl, by decide, gw_83, li_Ra, to_Ra, n_Ra, by decide +kernel, rfl, fun _ => rfl⟩
theorem gp_Ra_39 : gj_pok "RateBreaks$Rates" 39 2 8 (.int) false := ⟨R_Ra, F_Ra, 10, t_Ra, rfl, by decide, gw_84, li_Ra, to_Ra, n_Ra, by decide +kernel, rfl, fun h => nomatch h⟩
theorem gp_Ra_43 : gj_pok "RateBreaks$Rates" 43 2 9 (.int) false := ⟨R_Ra, F_Ra, 10, t_Ra, rfl, by decide, gw_86, li_Ra, to_Ra, n_Ra, by decide +kernel, rfl, fun h => nomatch h⟩
theorem gf_Ra_24 : gj_fok "RateBreaks$Rates" 24 2 4 := ⟨R_Ra, F_Ra, 10, rfl, by decide, gw_79, li_Ra⟩
theorem gf_Ra_27 : gj_fok "RateBreaks$Rates" 27 2 5 := ⟨R_Ra, F_Ra, 10, rfl, by decide, gw_81, li_Ra⟩
theorem gf_Ra_30 : gj_fok "RateBreaks$Rates" 30 2 6 := ⟨R_Ra, F_Ra, 10, rfl, by decide, gw_82, li_Ra⟩
theorem gf_Ra_33 : gj_fok "RateBreaks$Rates" 33 2 7 := ⟨R_Ra, F_Ra, 10, rfl, by decide, gw_83, li_Ra⟩
theorem gp_Ro_9 : gj_pok "RateBreaks$Ratios" 9 3 3 (.int) false := ⟨R_Ro, F_Ro, 4, t_Ro, rfl, by decide, gw_125, li_Ro, to_Ro, n_Ro, by decide +kernel, rfl, fun h => nomatch h⟩
theorem gp_Ro_21 : gj_pok "RateBreaks$Ratios" 21 3 0 (.array .int) true := ⟨R_Ro, F_Ro, 4, t_Ro, rfl, by decide, gw_120, li_Ro, to_Ro, n_Ro, by decide +kernel, rfl, fun _ => rfl⟩
theorem gp_Ro_25 : gj_pok "RateBreaks$Ratios" 25 3 1 (.array .int) true := ⟨R_Ro, F_Ro, 4, t_Ro, rfl, by decide, gw_121, li_Ro, to_Ro, n_Ro, by decide +kernel, rfl, fun _ => rfl⟩
theorem gp_Ro_28 : gj_pok "RateBreaks$Ratios" 28 3 2 (.array .int) true := ⟨R_Ro, F_Ro, 4, t_Ro, rfl, by decide, gw_123, li_Ro, to_Ro, n_Ro, by decide +kernel, rfl, fun _ => rfl⟩
theorem gf_RB_23 : gj_fok "RateBreaks" 23 0 2 := ⟨R_RB, F_RB, 8, rfl, by decide, gw_138, li_RB⟩
theorem gf_RB_10 : gj_fok "RateBreaks" 10 0 0 := ⟨R_RB, F_RB, 8, rfl, by decide, gw_136, li_RB⟩
theorem gf_RB_19 : gj_fok "RateBreaks" 19 0 1 := ⟨R_RB, F_RB, 8, rfl, by decide, gw_137, li_RB⟩
theorem gf_RB_77 : gj_fok "RateBreaks" 77 2 8 := ⟨R_Ra, F_Ra, 10, rfl, by decide, gw_85, li_Ra⟩
theorem gf_RB_57 : gj_fok "RateBreaks" 57 1 2 := ⟨R_Tx, F_Tx, 4, rfl, by decide, gw_53, li_Tx⟩
theorem gf_RB_214 : gj_fok "RateBreaks" 214 1 1 := ⟨R_Tx, F_Tx, 4, rfl, by decide, gw_51, li_Tx⟩
theorem gf_Tx_15 : gj_fok "RateBreaks$Text" 15 1 1 := ⟨R_Tx, F_Tx, 4, rfl, by decide, gw_50, li_Tx⟩
theorem gf_Tx_22 : gj_fok "RateBreaks$Text" 22 1 3 := ⟨R_Tx, F_Tx, 4, rfl, by decide, gw_54, li_Tx⟩
theorem gf_Tx_18 : gj_fok "RateBreaks$Text" 18 1 2 := ⟨R_Tx, F_Tx, 4, rfl, by decide, gw_52, li_Tx⟩
theorem gf_Tx_9 : gj_fok "RateBreaks$Text" 9 1 0 := ⟨R_Tx, F_Tx, 4, rfl, by decide, gw_49, li_Tx⟩
theorem gf_Ra_39 : gj_fok "RateBreaks$Rates" 39 2 8 := ⟨R_Ra, F_Ra, 10, rfl, by decide, gw_84, li_Ra⟩
theorem gf_Ra_43 : gj_fok "RateBreaks$Rates" 43 2 9 := ⟨R_Ra, F_Ra, 10, rfl, by decide, gw_86, li_Ra⟩
theorem gf_Ra_9 : gj_fok "RateBreaks$Rates" 9 2 0 := ⟨R_Ra, F_Ra, 10, rfl, by decide, gw_75, li_Ra⟩
theorem gf_Ra_15 : gj_fok "RateBreaks$Rates" 15 2 1 := ⟨R_Ra, F_Ra, 10, rfl, by decide, gw_76, li_Ra⟩
theorem gf_Ra_18 : gj_fok "RateBreaks$Rates" 18 2 2 := ⟨R_Ra, F_Ra, 10, rfl, by decide, gw_77, li_Ra⟩
theorem gf_Ra_21 : gj_fok "RateBreaks$Rates" 21 2 3 := ⟨R_Ra, F_Ra, 10, rfl, by decide, gw_78, li_Ra⟩
theorem gf_RB_28 : gj_fok "RateBreaks" 28 0 3 := ⟨R_RB, F_RB, 8, rfl, by decide, gw_139, li_RB⟩
theorem gf_RB_141 : gj_fok "RateBreaks" 141 4 4 := ⟨R_Sh, F_Sh, 6, rfl, by decide, gw_360, li_Sh⟩
theorem gf_RB_161 : gj_fok "RateBreaks" 161 4 5 := ⟨R_Sh, F_Sh, 6, rfl, by decide, gw_362, li_Sh⟩
theorem gf_Sh_9 : gj_fok "RateBreaks$Shipment" 9 4 3 := ⟨R_Sh, F_Sh, 6, rfl, by decide, gw_357, li_Sh⟩
theorem gf_Sh_18 : gj_fok "RateBreaks$Shipment" 18 4 5 := ⟨R_Sh, F_Sh, 6, rfl, by decide, gw_361, li_Sh⟩
theorem gf_RB_32 : gj_fok "RateBreaks" 32 0 4 := ⟨R_RB, F_RB, 8, rfl, by decide, gw_140, li_RB⟩
theorem gn_RB_26 : gj_nok "RateBreaks" 26 4 6 [.int 0, .int 0, .int 0, .int 0, .int 0, .int 0] := ⟨R_Sh, F_Sh, t_Sh, rfl, li_Sh, to_Sh, gw_108, gw_344, gw_31, fun j hj => by (rcases (show j = 0 ∨ j = 1 ∨ j = 2 ∨ j = 3 ∨ j = 4 ∨ j = 5 by omega) with rfl | rfl | rfl | rfl | rfl | rfl) <;> rfl, fun _ => rfl, fun _ v hv => by simp at hv; rcases hv with rfl | rfl | rfl | rfl | rfl | rfl <;> trivial⟩
theorem gp_Sh_9 : gj_pok "RateBreaks$Shipment" 9 4 3 (.int) false := ⟨R_Sh, F_Sh, 6, t_Sh, rfl, by decide, gw_357, li_Sh, to_Sh, n_Sh, by decide +kernel, rfl, fun h => nomatch h⟩
theorem gp_Sh_15 : gj_pok "RateBreaks$Shipment" 15 4 4 (.int) false := ⟨R_Sh, F_Sh, 6, t_Sh, rfl, by decide, gw_359, li_Sh, to_Sh, n_Sh, by decide +kernel, rfl, fun h => nomatch h⟩
theorem gp_Sh_18 : gj_pok "RateBreaks$Shipment" 18 4 5 (.int) false := ⟨R_Sh, F_Sh, 6, t_Sh, rfl, by decide, gw_361, li_Sh, to_Sh, n_Sh, by decide +kernel, rfl, fun h => nomatch h⟩
theorem gp_Sh_21 : gj_pok "RateBreaks$Shipment" 21 4 0 (.int) true := ⟨R_Sh, F_Sh, 6, t_Sh, rfl, by decide, gw_349, li_Sh, to_Sh, n_Sh, by decide +kernel, rfl, fun _ => rfl⟩
theorem gp_Sh_24 : gj_pok "RateBreaks$Shipment" 24 4 1 (.int) false := ⟨R_Sh, F_Sh, 6, t_Sh, rfl, by decide, gw_351, li_Sh, to_Sh, n_Sh, by decide +kernel, rfl, fun h => nomatch h⟩
theorem gp_Sh_27 : gj_pok "RateBreaks$Shipment" 27 4 2 (.int) false := ⟨R_Sh, F_Sh, 6, t_Sh, rfl, by decide, gw_354, li_Sh, to_Sh, n_Sh, by decide +kernel, rfl, fun h => nomatch h⟩
theorem gf_Ra_68 : gj_fok "RateBreaks$Rates" 68 4 1 := ⟨R_Sh, F_Sh, 6, rfl, by decide, gw_352, li_Sh⟩
theorem gf_Ra_73 : gj_fok "RateBreaks$Rates" 73 4 2 := ⟨R_Sh, F_Sh, 6, rfl, by decide, gw_355, li_Sh⟩
theorem gf_RB_103 : gj_fok "RateBreaks" 103 4 0 := ⟨R_Sh, F_Sh, 6, rfl, by decide, gw_350, li_Sh⟩
theorem gf_RB_45 : gj_fok "RateBreaks" 45 0 6 := ⟨R_RB, F_RB, 8, rfl, by decide, gw_142, li_RB⟩
theorem gf_RB_177 : gj_fok "RateBreaks" 177 3 1 := ⟨R_Ro, F_Ro, 4, rfl, by decide, gw_122, li_Ro⟩
theorem gf_RB_180 : gj_fok "RateBreaks" 180 3 2 := ⟨R_Ro, F_Ro, 4, rfl, by decide, gw_124, li_Ro⟩
theorem gf_Ro_9 : gj_fok "RateBreaks$Ratios" 9 3 3 := ⟨R_Ro, F_Ro, 4, rfl, by decide, gw_125, li_Ro⟩
theorem gf_Ro_21 : gj_fok "RateBreaks$Ratios" 21 3 0 := ⟨R_Ro, F_Ro, 4, rfl, by decide, gw_120, li_Ro⟩
theorem gf_RB_100 : gj_fok "RateBreaks" 100 2 4 := ⟨R_Ra, F_Ra, 10, rfl, by decide, gw_80, li_Ra⟩
theorem gf_RB_110 : gj_fok "RateBreaks" 110 4 1 := ⟨R_Sh, F_Sh, 6, rfl, by decide, gw_353, li_Sh⟩
theorem gf_RB_124 : gj_fok "RateBreaks" 124 3 3 := ⟨R_Ro, F_Ro, 4, rfl, by decide, gw_126, li_Ro⟩
theorem gf_Ro_25 : gj_fok "RateBreaks$Ratios" 25 3 1 := ⟨R_Ro, F_Ro, 4, rfl, by decide, gw_121, li_Ro⟩
theorem gf_Ro_28 : gj_fok "RateBreaks$Ratios" 28 3 2 := ⟨R_Ro, F_Ro, 4, rfl, by decide, gw_123, li_Ro⟩
theorem gp_RB_138 : gj_pok "RateBreaks" 138 4 3 (.int) false := ⟨R_Sh, F_Sh, 6, t_Sh, rfl, by decide, gw_358, li_Sh, to_Sh, n_Sh, by decide +kernel, rfl, fun h => nomatch h⟩
theorem gp_RB_141 : gj_pok "RateBreaks" 141 4 4 (.int) false := ⟨R_Sh, F_Sh, 6, t_Sh, rfl, by decide, gw_360, li_Sh, to_Sh, n_Sh, by decide +kernel, rfl, fun h => nomatch h⟩
theorem gf_RB_150 : gj_fok "RateBreaks" 150 4 2 := ⟨R_Sh, F_Sh, 6, rfl, by decide, gw_356, li_Sh⟩
theorem gp_RB_110 : gj_pok "RateBreaks" 110 4 1 (.int) false := ⟨R_Sh, F_Sh, 6, t_Sh, rfl, by decide, gw_353, li_Sh, to_Sh, n_Sh, by decide +kernel, rfl, fun h => nomatch h⟩
theorem gp_RB_150 : gj_pok "RateBreaks" 150 4 2 (.int) false := ⟨R_Sh, F_Sh, 6, t_Sh, rfl, by decide, gw_356, li_Sh, to_Sh, n_Sh, by decide +kernel, rfl, fun h => nomatch h⟩
theorem gp_RB_161 : gj_pok "RateBreaks" 161 4 5 (.int) false := ⟨R_Sh, F_Sh, 6, t_Sh, rfl, by decide, gw_362, li_Sh, to_Sh, n_Sh, by decide +kernel, rfl, fun h => nomatch h⟩
theorem gf_RB_49 : gj_fok "RateBreaks" 49 0 7 := ⟨R_RB, F_RB, 8, rfl, by decide, gw_143, li_RB⟩
theorem gf_RB_138 : gj_fok "RateBreaks" 138 4 3 := ⟨R_Sh, F_Sh, 6, rfl, by decide, gw_358, li_Sh⟩
theorem gp_Mo_7 : gj_pok "RateBreaksModel" 7 5 0 (.int) false := ⟨R_Mo, F_Mo, 27, t_Mo, rfl, by decide, gw_596, li_Mo, to_Mo, n_Mo, by decide +kernel, rfl, fun h => nomatch h⟩
theorem gp_Mo_13 : gj_pok "RateBreaksModel" 13 5 1 (.array .int) true := ⟨R_Mo, F_Mo, 27, t_Mo, rfl, by decide, gw_597, li_Mo, to_Mo, n_Mo, by decide +kernel, rfl, fun _ => rfl⟩
theorem gp_Mo_17 : gj_pok "RateBreaksModel" 17 5 2 (.int) false := ⟨R_Mo, F_Mo, 27, t_Mo, rfl, by decide, gw_598, li_Mo, to_Mo, n_Mo, by decide +kernel, rfl, fun h => nomatch h⟩
theorem gp_Mo_20 : gj_pok "RateBreaksModel" 20 5 3 (.int) false := ⟨R_Mo, F_Mo, 27, t_Mo, rfl, by decide, gw_599, li_Mo, to_Mo, n_Mo, by decide +kernel, rfl, fun h => nomatch h⟩
theorem gp_Mo_23 : gj_pok "RateBreaksModel" 23 5 4 (.array .int) true := ⟨R_Mo, F_Mo, 27, t_Mo, rfl, by decide, gw_600, li_Mo, to_Mo, n_Mo, by decide +kernel, rfl, fun _ => rfl⟩
theorem gp_Mo_26 : gj_pok "RateBreaksModel" 26 5 5 (.int) false := ⟨R_Mo, F_Mo, 27, t_Mo, rfl, by decide, gw_601, li_Mo, to_Mo, n_Mo, by decide +kernel, rfl, fun h => nomatch h⟩
theorem gp_Mo_29 : gj_pok "RateBreaksModel" 29 5 6 (.array .int) true := ⟨R_Mo, F_Mo, 27, t_Mo, rfl, by decide, gw_602, li_Mo, to_Mo, n_Mo, by decide +kernel, rfl, fun _ => rfl⟩
theorem gp_Mo_32 : gj_pok "RateBreaksModel" 32 5 7 (.int) false := ⟨R_Mo, F_Mo, 27, t_Mo, rfl, by decide, gw_603, li_Mo, to_Mo, n_Mo, by decide +kernel, rfl, fun h => nomatch h⟩
theorem gp_Mo_35 : gj_pok "RateBreaksModel" 35 5 8 (.int) false := ⟨R_Mo, F_Mo, 27, t_Mo, rfl, by decide, gw_604, li_Mo, to_Mo, n_Mo, by decide +kernel, rfl, fun h => nomatch h⟩
theorem gp_Mo_38 : gj_pok "RateBreaksModel" 38 5 9 (.array .boolean) true := ⟨R_Mo, F_Mo, 27, t_Mo, rfl, by decide, gw_605, li_Mo, to_Mo, n_Mo, by decide +kernel, rfl, fun _ => rfl⟩
theorem gp_Mo_42 : gj_pok "RateBreaksModel" 42 5 10 (.array .int) true := ⟨R_Mo, F_Mo, 27, t_Mo, rfl, by decide, gw_606, li_Mo, to_Mo, n_Mo, by decide +kernel, rfl, fun _ => rfl⟩
theorem gp_Mo_45 : gj_pok "RateBreaksModel" 45 5 11 (.array .int) true := ⟨R_Mo, F_Mo, 27, t_Mo, rfl, by decide, gw_607, li_Mo, to_Mo, n_Mo, by decide +kernel, rfl, fun _ => rfl⟩
theorem gp_Mo_48 : gj_pok "RateBreaksModel" 48 5 12 (.array .int) true := ⟨R_Mo, F_Mo, 27, t_Mo, rfl, by decide, gw_608, li_Mo, to_Mo, n_Mo, by decide +kernel, rfl, fun _ => rfl⟩
theorem gp_Mo_51 : gj_pok "RateBreaksModel" 51 5 13 (.array .int) true := ⟨R_Mo, F_Mo, 27, t_Mo, rfl, by decide, gw_609, li_Mo, to_Mo, n_Mo, by decide +kernel, rfl, fun _ => rfl⟩
theorem gp_Mo_54 : gj_pok "RateBreaksModel" 54 5 14 (.array .int) true := ⟨R_Mo, F_Mo, 27, t_Mo, rfl, by decide, gw_610, li_Mo, to_Mo, n_Mo, by decide +kernel, rfl, fun _ => rfl⟩
theorem gp_Mo_57 : gj_pok "RateBreaksModel" 57 5 15 (.array .int) true := ⟨R_Mo, F_Mo, 27, t_Mo, rfl, by decide, gw_611, li_Mo, to_Mo, n_Mo, by decide +kernel, rfl, fun _ => rfl⟩
theorem gp_Mo_60 : gj_pok "RateBreaksModel" 60 5 16 (.array .int) true := ⟨R_Mo, F_Mo, 27, t_Mo, rfl, by decide, gw_612, li_Mo, to_Mo, n_Mo, by decide +kernel, rfl, fun _ => rfl⟩
theorem gp_Mo_63 : gj_pok "RateBreaksModel" 63 5 17 (.array .int) true := ⟨R_Mo, F_Mo, 27, t_Mo, rfl, by decide, gw_613, li_Mo, to_Mo, n_Mo, by decide +kernel, rfl, fun _ => rfl⟩
theorem gp_Mo_66 : gj_pok "RateBreaksModel" 66 5 18 (.array .int) true := ⟨R_Mo, F_Mo, 27, t_Mo, rfl, by decide, gw_614, li_Mo, to_Mo, n_Mo, by decide +kernel, rfl, fun _ => rfl⟩
theorem gp_Mo_69 : gj_pok "RateBreaksModel" 69 5 19 (.array .int) true := ⟨R_Mo, F_Mo, 27, t_Mo, rfl, by decide, gw_615, li_Mo, to_Mo, n_Mo, by decide +kernel, rfl, fun _ => rfl⟩
theorem gp_Mo_72 : gj_pok "RateBreaksModel" 72 5 20 (.int) false := ⟨R_Mo, F_Mo, 27, t_Mo, rfl, by decide, gw_616, li_Mo, to_Mo, n_Mo, by decide +kernel, rfl, fun h => nomatch h⟩
theorem gp_Mo_75 : gj_pok "RateBreaksModel" 75 5 21 (.array .int) true := ⟨R_Mo, F_Mo, 27, t_Mo, rfl, by decide, gw_617, li_Mo, to_Mo, n_Mo, by decide +kernel, rfl, fun _ => rfl⟩
theorem gp_Mo_78 : gj_pok "RateBreaksModel" 78 5 22 (.array .int) true := ⟨R_Mo, F_Mo, 27, t_Mo, rfl, by decide, gw_618, li_Mo, to_Mo, n_Mo, by decide +kernel, rfl, fun _ => rfl⟩
theorem gp_Mo_81 : gj_pok "RateBreaksModel" 81 5 23 (.array .int) true := ⟨R_Mo, F_Mo, 27, t_Mo, rfl, by decide, gw_619, li_Mo, to_Mo, n_Mo, by decide +kernel, rfl, fun _ => rfl⟩
theorem gp_Mo_84 : gj_pok "RateBreaksModel" 84 5 24 (.array .int) true := ⟨R_Mo, F_Mo, 27, t_Mo, rfl, by decide, gw_620, li_Mo, to_Mo, n_Mo, by decide +kernel, rfl, fun _ => rfl⟩
theorem gp_Mo_87 : gj_pok "RateBreaksModel" 87 5 25 (.array .int) true := ⟨R_Mo, F_Mo, 27, t_Mo, rfl, by decide, gw_621, li_Mo, to_Mo, n_Mo, by decide +kernel, rfl, fun _ => rfl⟩
theorem gp_Mo_90 : gj_pok "RateBreaksModel" 90 5 26 (.array .int) true := ⟨R_Mo, F_Mo, 27, t_Mo, rfl, by decide, gw_622, li_Mo, to_Mo, n_Mo, by decide +kernel, rfl, fun _ => rfl⟩
theorem gf_Mo_7 : gj_fok "RateBreaksModel" 7 5 0 := ⟨R_Mo, F_Mo, 27, rfl, by decide, gw_596, li_Mo⟩
theorem gf_Mo_17 : gj_fok "RateBreaksModel" 17 5 2 := ⟨R_Mo, F_Mo, 27, rfl, by decide, gw_598, li_Mo⟩
theorem gf_Mo_13 : gj_fok "RateBreaksModel" 13 5 1 := ⟨R_Mo, F_Mo, 27, rfl, by decide, gw_597, li_Mo⟩
theorem gf_Mo_32 : gj_fok "RateBreaksModel" 32 5 7 := ⟨R_Mo, F_Mo, 27, rfl, by decide, gw_603, li_Mo⟩
theorem gf_Mo_26 : gj_fok "RateBreaksModel" 26 5 5 := ⟨R_Mo, F_Mo, 27, rfl, by decide, gw_601, li_Mo⟩
theorem gf_Mo_20 : gj_fok "RateBreaksModel" 20 5 3 := ⟨R_Mo, F_Mo, 27, rfl, by decide, gw_599, li_Mo⟩
theorem gf_Mo_23 : gj_fok "RateBreaksModel" 23 5 4 := ⟨R_Mo, F_Mo, 27, rfl, by decide, gw_600, li_Mo⟩
theorem gf_Mo_29 : gj_fok "RateBreaksModel" 29 5 6 := ⟨R_Mo, F_Mo, 27, rfl, by decide, gw_602, li_Mo⟩
theorem gf_Mo_35 : gj_fok "RateBreaksModel" 35 5 8 := ⟨R_Mo, F_Mo, 27, rfl, by decide, gw_604, li_Mo⟩
theorem gf_Mo_42 : gj_fok "RateBreaksModel" 42 5 10 := ⟨R_Mo, F_Mo, 27, rfl, by decide, gw_606, li_Mo⟩
theorem gf_Mo_45 : gj_fok "RateBreaksModel" 45 5 11 := ⟨R_Mo, F_Mo, 27, rfl, by decide, gw_607, li_Mo⟩
theorem gf_Mo_48 : gj_fok "RateBreaksModel" 48 5 12 := ⟨R_Mo, F_Mo, 27, rfl, by decide, gw_608, li_Mo⟩
theorem gf_Mo_51 : gj_fok "RateBreaksModel" 51 5 13 := ⟨R_Mo, F_Mo, 27, rfl, by decide, gw_609, li_Mo⟩
theorem gf_Mo_54 : gj_fok "RateBreaksModel" 54 5 14 := ⟨R_Mo, F_Mo, 27, rfl, by decide, gw_610, li_Mo⟩
theorem gf_Mo_57 : gj_fok "RateBreaksModel" 57 5 15 := ⟨R_Mo, F_Mo, 27, rfl, by decide, gw_611, li_Mo⟩
theorem gf_Mo_38 : gj_fok "RateBreaksModel" 38 5 9 := ⟨R_Mo, F_Mo, 27, rfl, by decide, gw_605, li_Mo⟩
theorem gf_Mo_60 : gj_fok "RateBreaksModel" 60 5 16 := ⟨R_Mo, F_Mo, 27, rfl, by decide, gw_612, li_Mo⟩
theorem gf_Mo_63 : gj_fok "RateBreaksModel" 63 5 17 := ⟨R_Mo, F_Mo, 27, rfl, by decide, gw_613, li_Mo⟩
theorem gf_Mo_66 : gj_fok "RateBreaksModel" 66 5 18 := ⟨R_Mo, F_Mo, 27, rfl, by decide, gw_614, li_Mo⟩
theorem gf_Mo_69 : gj_fok "RateBreaksModel" 69 5 19 := ⟨R_Mo, F_Mo, 27, rfl, by decide, gw_615, li_Mo⟩
theorem gf_Mo_84 : gj_fok "RateBreaksModel" 84 5 24 := ⟨R_Mo, F_Mo, 27, rfl, by decide, gw_620, li_Mo⟩
theorem gf_Mo_87 : gj_fok "RateBreaksModel" 87 5 25 := ⟨R_Mo, F_Mo, 27, rfl, by decide, gw_621, li_Mo⟩
theorem gf_Mo_90 : gj_fok "RateBreaksModel" 90 5 26 := ⟨R_Mo, F_Mo, 27, rfl, by decide, gw_622, li_Mo⟩
theorem gf_Mo_72 : gj_fok "RateBreaksModel" 72 5 20 := ⟨R_Mo, F_Mo, 27, rfl, by decide, gw_616, li_Mo⟩
theorem gf_Mo_75 : gj_fok "RateBreaksModel" 75 5 21 := ⟨R_Mo, F_Mo, 27, rfl, by decide, gw_617, li_Mo⟩
theorem gf_Mo_78 : gj_fok "RateBreaksModel" 78 5 22 := ⟨R_Mo, F_Mo, 27, rfl, by decide, gw_618, li_Mo⟩
theorem gf_Mo_81 : gj_fok "RateBreaksModel" 81 5 23 := ⟨R_Mo, F_Mo, 27, rfl, by decide, gw_619, li_Mo⟩
theorem gn_La_8 : gj_nok "RateBreaksLaw" 8 0 8 [.null, .null, .null, .null, .int 0, .null, .null, .null] := ⟨R_RB, F_RB, t_RB, rfl, li_RB, to_RB, gw_35, gw_36, gw_20, fun j hj => by (rcases (show j = 0 ∨ j = 1 ∨ j = 2 ∨ j = 3 ∨ j = 4 ∨ j = 5 ∨ j = 6 ∨ j = 7 by omega) with rfl | rfl | rfl | rfl | rfl | rfl | rfl | rfl) <;> rfl, fun _ => rfl, fun _ v hv => by simp at hv; rcases hv with rfl | rfl | rfl | rfl | rfl | rfl | rfl | rfl <;> trivial⟩
theorem gn_La_70 : gj_nok "RateBreaksLaw" 70 5 27 [.int 0, .null, .int 0, .int 0, .null, .int 0, .null, .int 0, .int 0, .null, .null, .null, .null, .null, .null, .null, .null, .null, .null, .null, .int 0, .null, .null, .null, .null, .null, .null] := ⟨R_Mo, F_Mo, t_Mo, rfl, li_Mo, to_Mo, gw_590, gw_591, gw_25, fun j hj => by (rcases (show j = 0 ∨ j = 1 ∨ j = 2 ∨ j = 3 ∨ j = 4 ∨ j = 5 ∨ j = 6 ∨ j = 7 ∨ j = 8 ∨ j = 9 ∨ j = 10 ∨ j = 11 ∨ j = 12 ∨ j = 13 ∨ j = 14 ∨ j = 15 ∨ j = 16 ∨ j = 17 ∨ j = 18 ∨ j = 19 ∨ j = 20 ∨ j = 21 ∨ j = 22 ∨ j = 23 ∨ j = 24 ∨ j = 25 ∨ j = 26 by omega) with rfl | rfl | rfl | rfl | rfl | rfl | rfl | rfl | rfl | rfl | rfl | rfl | rfl | rfl | rfl | rfl | rfl | rfl | rfl | rfl | rfl | rfl | rfl | rfl | rfl | rfl | rfl) <;> rfl, fun _ => rfl, fun _ v hv => by simp at hv; rcases hv with rfl | rfl | rfl | rfl | rfl | rfl | rfl | rfl | rfl | rfl | rfl | rfl | rfl | rfl | rfl | rfl | rfl | rfl | rfl | rfl | rfl | rfl | rfl | rfl | rfl | rfl | rfl <;> trivial⟩
end
