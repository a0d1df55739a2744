abbrev md_RB_init : gj_M := (⟨"RateBreaks", "<init>", "()V"⟩, prog_1_method_1_code, 2, none, [])
abbrev md_Tx_init : gj_M := (⟨"RateBreaks$Text", "<init>", "()V"⟩, prog_5_method_1_code, 1, none, [])
abbrev md_Ra_init : gj_M := (⟨"RateBreaks$Rates", "<init>", "()V"⟩, prog_2_method_1_code, 1, none, [])
abbrev md_Ra_clear : gj_M := (⟨"RateBreaks$Rates", "clear", "()V"⟩, prog_2_method_2_code, 2, none, [])
abbrev md_Ro_init : gj_M := (⟨"RateBreaks$Ratios", "<init>", "(I)V"⟩, prog_3_method_1_code, 3, none, [])
abbrev md_RB_read : gj_M := (⟨"RateBreaks", "read", "()I"⟩, prog_1_method_3_code, 3, some .int, [])
abbrev md_RB_readInto : gj_M := (⟨"RateBreaks", "readInto", "(LRateBreaks$Rates;)I"⟩, prog_1_method_24_code, 5, some .int, [])
abbrev md_Tx_behindLine : gj_M := (⟨"RateBreaks$Text", "behindLine", "(I)I"⟩, prog_5_method_5_code, 4, some .int, [])
abbrev md_Tx_at : gj_M := (⟨"RateBreaks$Text", "at", "(I)I"⟩, prog_5_method_4_code, 2, some .int, [])
abbrev md_Tx_numbersBehind : gj_M := (⟨"RateBreaks$Text", "numbersBehind", "(I)I"⟩, prog_5_method_6_code, 1, some .int, [])
abbrev md_Tx_takeNumber : gj_M := (⟨"RateBreaks$Text", "takeNumber", "()I"⟩, prog_5_method_7_code, 5, some .int, [])
abbrev md_Tx_isDigit : gj_M := (⟨"RateBreaks$Text", "isDigit", "(I)Z"⟩, prog_5_method_8_code, 1, some .boolean, [])
abbrev md_Ra_take : gj_M := (⟨"RateBreaks$Rates", "take", "(I[I)Z"⟩, prog_2_method_3_code, 3, some .boolean, [])
abbrev md_Ra_takeKind : gj_M := (⟨"RateBreaks$Rates", "takeKind", "(I[I)Z"⟩, prog_2_method_4_code, 4, some .boolean, [])
abbrev md_Ra_takeStep : gj_M := (⟨"RateBreaks$Rates", "takeStep", "(IIII)Z"⟩, prog_2_method_6_code, 7, some .boolean, [])
abbrev md_RB_laneOf : gj_M := (⟨"RateBreaks", "laneOf", "(II)I"⟩, prog_1_method_26_code, 2, some .int, [])
abbrev md_Ra_heaviest : gj_M := (⟨"RateBreaks$Rates", "heaviest", "(I)I"⟩, prog_2_method_7_code, 4, some .int, [])
abbrev md_Ra_takeOnce : gj_M := (⟨"RateBreaks$Rates", "takeOnce", "([IIII)Z"⟩, prog_2_method_5_code, 4, some .boolean, [])
abbrev md_Tx_clear : gj_M := (⟨"RateBreaks$Text", "clear", "()V"⟩, prog_5_method_2_code, 1, none, [])
abbrev md_RB_count : gj_M := (⟨"RateBreaks", "count", "(I)I"⟩, prog_1_method_18_code, 5, some .int, [])
abbrev md_RB_addend : gj_M := (⟨"RateBreaks", "addend", "(LRateBreaks$Shipment;I)I"⟩, prog_1_method_19_code, 2, some .int, [])
abbrev md_Sh_isBooked : gj_M := (⟨"RateBreaks$Shipment", "isBooked", "()Z"⟩, prog_4_method_2_code, 1, some .boolean, [])
abbrev md_Sh_isInvoiced : gj_M := (⟨"RateBreaks$Shipment", "isInvoiced", "()Z"⟩, prog_4_method_3_code, 1, some .boolean, [])
abbrev md_La_sign : gj_M := (⟨"RateBreaksLaw", "sign", "(LRateBreaks;I[J)I"⟩, method_3_code, 4, some .int, [(0, 9, 12, 13), (0, 9, 15, 15)])
abbrev md_RB_sign : gj_M := (⟨"RateBreaks", "sign", "(I)I"⟩, prog_1_method_2_code, 2, some .int, [])
abbrev md_RB_needWithin : gj_M := (⟨"RateBreaks", "needWithin", "(III)V"⟩, prog_1_method_20_code, 3, none, [])
abbrev md_Tx_append : gj_M := (⟨"RateBreaks$Text", "append", "(I)V"⟩, prog_5_method_3_code, 2, none, [])
abbrev md_La_shipment : gj_M := (⟨"RateBreaksLaw", "shipment", "(LRateBreaks;III[J)I"⟩, method_4_code, 6, some .int, [(0, 12, 15, 13), (0, 12, 19, 15)])
abbrev md_RB_shipment : gj_M := (⟨"RateBreaks", "shipment", "(III)I"⟩, prog_1_method_4_code, 4, some .int, [])
abbrev md_Sh_init : gj_M := (⟨"RateBreaks$Shipment", "<init>", "(III)V"⟩, prog_4_method_1_code, 4, none, [])
abbrev md_La_weight : gj_M := (⟨"RateBreaksLaw", "weight", "(LRateBreaks;II[J)I"⟩, method_5_code, 5, some .int, [(0, 10, 13, 25), (0, 10, 17, 13), (0, 10, 21, 27)])
abbrev md_RB_weight : gj_M := (⟨"RateBreaks", "weight", "(II)I"⟩, prog_1_method_5_code, 4, some .int, [])
abbrev md_RB_present : gj_M := (⟨"RateBreaks", "present", "(I)LRateBreaks$Shipment;"⟩, prog_1_method_23_code, 3, some (.object "RateBreaks$Shipment"), [])
abbrev md_RB_needService : gj_M := (⟨"RateBreaks", "needService", "(I)V"⟩, prog_1_method_21_code, 1, none, [])
abbrev md_Ra_weightToPay : gj_M := (⟨"RateBreaks$Rates", "weightToPay", "(LRateBreaks$Shipment;I)I"⟩, prog_2_method_8_code, 5, some .int, [])
abbrev md_RB_dividedUp : gj_M := (⟨"RateBreaks", "dividedUp", "(JJ)J"⟩, prog_1_method_28_code, 4, some .long, [])
abbrev md_RB_dividedDown : gj_M := (⟨"RateBreaks", "dividedDown", "(JJ)J"⟩, prog_1_method_27_code, 4, some .long, [])
abbrev md_La_price : gj_M := (⟨"RateBreaksLaw", "price", "(LRateBreaks;II[J)I"⟩, method_6_code, 5, some .int, [(0, 10, 13, 25), (0, 10, 17, 13), (0, 10, 21, 27)])
abbrev md_RB_price : gj_M := (⟨"RateBreaks", "price", "(II)I"⟩, prog_1_method_6_code, 4, some .int, [])
abbrev md_RB_priceNow : gj_M := (⟨"RateBreaks", "priceNow", "(LRateBreaks$Shipment;I)I"⟩, prog_1_method_25_code, 8, some .int, [])
abbrev md_Ra_stepFor : gj_M := (⟨"RateBreaks$Rates", "stepFor", "(II)I"⟩, prog_2_method_9_code, 4, some .int, [])
abbrev md_Ra_charged : gj_M := (⟨"RateBreaks$Rates", "charged", "(II)J"⟩, prog_2_method_10_code, 5, some .long, [])
abbrev md_Ro_latest : gj_M := (⟨"RateBreaks$Ratios", "latest", "(I)I"⟩, prog_3_method_5_code, 4, some .int, [])
abbrev md_La_cheapest : gj_M := (⟨"RateBreaksLaw", "cheapest", "(LRateBreaks;I[J)I"⟩, method_7_code, 4, some .int, [(0, 9, 12, 25)])
abbrev md_RB_cheapest : gj_M := (⟨"RateBreaks", "cheapest", "(I)I"⟩, prog_1_method_7_code, 7, some .int, [])
abbrev md_La_parcels : gj_M := (⟨"RateBreaksLaw", "parcels", "(LRateBreaks;II[J)I"⟩, method_8_code, 5, some .int, [(0, 10, 13, 25), (0, 10, 17, 13)])
abbrev md_RB_parcels : gj_M := (⟨"RateBreaks", "parcels", "(II)I"⟩, prog_1_method_8_code, 5, some .int, [])
abbrev md_Ra_leastCents : gj_M := (⟨"RateBreaks$Rates", "leastCents", "(IIIII)I"⟩, prog_2_method_11_code, 9, some .int, [])
abbrev md_La_contract : gj_M := (⟨"RateBreaksLaw", "contract", "(LRateBreaks;IIII[J)I"⟩, method_9_code, 7, some .int, [(0, 14, 17, 13), (0, 14, 21, 15)])
abbrev md_RB_contract : gj_M := (⟨"RateBreaks", "contract", "(IIII)I"⟩, prog_1_method_9_code, 6, some .int, [])
abbrev md_RB_needRoom : gj_M := (⟨"RateBreaks", "needRoom", "(LRateBreaks$Ratios;I)V"⟩, prog_1_method_22_code, 2, none, [])
abbrev md_Ro_hasRoomFor : gj_M := (⟨"RateBreaks$Ratios", "hasRoomFor", "(I)Z"⟩, prog_3_method_2_code, 2, some .boolean, [])
abbrev md_Ro_placeFor : gj_M := (⟨"RateBreaks$Ratios", "placeFor", "(I)I"⟩, prog_3_method_4_code, 3, some .int, [])
abbrev md_Ro_put : gj_M := (⟨"RateBreaks$Ratios", "put", "(III)V"⟩, prog_3_method_3_code, 5, none, [])
abbrev md_La_book : gj_M := (⟨"RateBreaksLaw", "book", "(LRateBreaks;II[J)I"⟩, method_10_code, 5, some .int, [(0, 10, 13, 25), (0, 10, 17, 13), (0, 10, 21, 45), (0, 10, 25, 27)])
abbrev md_RB_book : gj_M := (⟨"RateBreaks", "book", "(II)I"⟩, prog_1_method_10_code, 5, some .int, [])
abbrev md_La_combine : gj_M := (⟨"RateBreaksLaw", "combine", "(LRateBreaks;II[J)I"⟩, method_11_code, 5, some .int, [(0, 10, 13, 25), (0, 10, 17, 45)])
abbrev md_RB_combine : gj_M := (⟨"RateBreaks", "combine", "(II)I"⟩, prog_1_method_11_code, 7, some .int, [])
abbrev md_La_invoice : gj_M := (⟨"RateBreaksLaw", "invoice", "(LRateBreaks;II[J)I"⟩, method_12_code, 5, some .int, [(0, 10, 13, 25), (0, 10, 17, 13), (0, 10, 21, 45)])
abbrev md_RB_invoice : gj_M := (⟨"RateBreaks", "invoice", "(II)I"⟩, prog_1_method_12_code, 4, some .int, [])
abbrev md_La_refund : gj_M := (⟨"RateBreaksLaw", "refund", "(LRateBreaks;II[J)I"⟩, method_13_code, 5, some .int, [(0, 10, 13, 25), (0, 10, 17, 13), (0, 10, 21, 45)])
abbrev md_RB_refund : gj_M := (⟨"RateBreaks", "refund", "(II)I"⟩, prog_1_method_13_code, 4, some .int, [])
abbrev md_La_differ : gj_M := (⟨"RateBreaksLaw", "differ", "(LRateBreaks;I[J)I"⟩, method_14_code, 4, some .int, [(0, 9, 12, 13)])
abbrev md_RB_differ : gj_M := (⟨"RateBreaks", "differ", "(I)I"⟩, prog_1_method_14_code, 5, some .int, [])
abbrev md_La_currency : gj_M := (⟨"RateBreaksLaw", "currency", "(LRateBreaks;III[J)I"⟩, method_15_code, 6, some .int, [(0, 12, 15, 13), (0, 12, 19, 15)])
abbrev md_RB_currency : gj_M := (⟨"RateBreaks", "currency", "(III)I"⟩, prog_1_method_15_code, 4, some .int, [])
abbrev md_La_converted : gj_M := (⟨"RateBreaksLaw", "converted", "(LRateBreaks;II[J)I"⟩, method_16_code, 5, some .int, [(0, 9, 12, 13)])
abbrev md_RB_converted : gj_M := (⟨"RateBreaks", "converted", "(II)J"⟩, prog_1_method_16_code, 4, some .long, [])
abbrev md_La_told : gj_M := (⟨"RateBreaksLaw", "told", "(LRateBreaks;II[J)I"⟩, method_17_code, 5, some .int, [(0, 10, 13, 25), (0, 10, 17, 13)])
abbrev md_RB_told : gj_M := (⟨"RateBreaks", "told", "(II)I"⟩, prog_1_method_17_code, 4, some .int, [])
abbrev md_Mo_init : gj_M := (⟨"RateBreaksModel", "<init>", "()V"⟩, prog_7_method_1_code, 1, none, [])
abbrev md_Mo_thrown : gj_M := (⟨"RateBreaksModel", "thrown", "()I"⟩, prog_7_method_13_code, 1, some .int, [])
abbrev md_Mo_sign : gj_M := (⟨"RateBreaksModel", "sign", "(I)I"⟩, prog_7_method_15_code, 2, some .int, [])
abbrev md_Mo_not : gj_M := (⟨"RateBreaksModel", "not", "(III)Z"⟩, prog_7_method_2_code, 3, some .boolean, [])
abbrev md_Mo_read : gj_M := (⟨"RateBreaksModel", "read", "()I"⟩, prog_7_method_16_code, 4, some .int, [])
abbrev md_Mo_oneLine : gj_M := (⟨"RateBreaksModel", "oneLine", "()Z"⟩, prog_7_method_7_code, 7, some .boolean, [])
abbrev md_Mo_here : gj_M := (⟨"RateBreaksModel", "here", "()I"⟩, prog_7_method_3_code, 1, some .int, [])
abbrev md_Mo_number : gj_M := (⟨"RateBreaksModel", "number", "()I"⟩, prog_7_method_4_code, 4, some .int, [])
abbrev md_Mo_heaviest : gj_M := (⟨"RateBreaksModel", "heaviest", "(II)I"⟩, prog_7_method_6_code, 5, some .int, [])
abbrev md_Mo_seen : gj_M := (⟨"RateBreaksModel", "seen", "(II)Z"⟩, prog_7_method_5_code, 4, some .boolean, [])
abbrev md_Mo_shipment : gj_M := (⟨"RateBreaksModel", "shipment", "(III)I"⟩, prog_7_method_17_code, 4, some .int, [])
abbrev md_Mo_weight : gj_M := (⟨"RateBreaksModel", "weight", "(II)I"⟩, prog_7_method_18_code, 3, some .int, [])
abbrev md_Mo_noShipment : gj_M := (⟨"RateBreaksModel", "noShipment", "(I)Z"⟩, prog_7_method_14_code, 2, some .boolean, [])
abbrev md_Mo_toPay : gj_M := (⟨"RateBreaksModel", "toPay", "(II)I"⟩, prog_7_method_10_code, 6, some .int, [])
abbrev md_Mo_find : gj_M := (⟨"RateBreaksModel", "find", "(II)I"⟩, prog_7_method_8_code, 4, some .int, [])
abbrev md_Mo_price : gj_M := (⟨"RateBreaksModel", "price", "(II)I"⟩, prog_7_method_19_code, 3, some .int, [])
abbrev md_Mo_priceOf : gj_M := (⟨"RateBreaksModel", "priceOf", "(II)I"⟩, prog_7_method_12_code, 9, some .int, [])
abbrev md_Mo_part : gj_M := (⟨"RateBreaksModel", "part", "(JII)I"⟩, prog_7_method_9_code, 4, some .int, [])
abbrev md_Mo_booked : gj_M := (⟨"RateBreaksModel", "booked", "(I)I"⟩, prog_7_method_11_code, 4, some .int, [])
abbrev md_Mo_cheapest : gj_M := (⟨"RateBreaksModel", "cheapest", "(I)I"⟩, prog_7_method_20_code, 5, some .int, [])
abbrev md_Mo_parcels : gj_M := (⟨"RateBreaksModel", "parcels", "(II)I"⟩, prog_7_method_21_code, 11, some .int, [])
abbrev md_Mo_contract : gj_M := (⟨"RateBreaksModel", "contract", "(IIII)I"⟩, prog_7_method_22_code, 6, some .int, [])
abbrev md_Mo_book : gj_M := (⟨"RateBreaksModel", "book", "(II)I"⟩, prog_7_method_23_code, 4, some .int, [])
abbrev md_Mo_combine : gj_M := (⟨"RateBreaksModel", "combine", "(II)I"⟩, prog_7_method_24_code, 4, some .int, [])
abbrev md_Mo_invoice : gj_M := (⟨"RateBreaksModel", "invoice", "(II)I"⟩, prog_7_method_25_code, 3, some .int, [])
abbrev md_Mo_refund : gj_M := (⟨"RateBreaksModel", "refund", "(II)I"⟩, prog_7_method_26_code, 3, some .int, [])
abbrev md_Mo_differ : gj_M := (⟨"RateBreaksModel", "differ", "(I)I"⟩, prog_7_method_27_code, 4, some .int, [])
abbrev md_Mo_currency : gj_M := (⟨"RateBreaksModel", "currency", "(III)I"⟩, prog_7_method_28_code, 5, some .int, [])
abbrev md_Mo_converted : gj_M := (⟨"RateBreaksModel", "converted", "(II)J"⟩, prog_7_method_29_code, 5, some .long, [])
abbrev md_Mo_told : gj_M := (⟨"RateBreaksModel", "told", "(II)I"⟩, prog_7_method_30_code, 3, some .int, [])
abbrev md_Mo_count : gj_M := (⟨"RateBreaksModel", "count", "(I)I"⟩, prog_7_method_31_code, 7, some .int, [])
abbrev md_La_law : gj_M := (⟨"RateBreaksLaw", "law", "([I)Z"⟩, code, 8, some .boolean, [])
theorem mo_RB_init : gj_mok md_RB_init := ⟨by decide, ⟨by decide, by decide⟩, Or.inl ⟨rfl, gw_39⟩⟩
theorem mo_Tx_init : gj_mok md_Tx_init := ⟨by decide, ⟨by decide, by decide⟩, Or.inl ⟨rfl, gw_47⟩⟩
theorem mo_Ra_init : gj_mok md_Ra_init := ⟨by decide, ⟨by decide, by decide⟩, Or.inl ⟨rfl, gw_69⟩⟩
theorem mo_Ra_clear : gj_mok md_Ra_clear := ⟨by decide, ⟨by decide, by decide⟩, Or.inl ⟨rfl, gw_74⟩⟩
theorem mo_Ro_init : gj_mok md_Ro_init := ⟨by decide, ⟨by decide, by decide⟩, Or.inl ⟨rfl, gw_115⟩⟩
theorem mo_RB_read : gj_mok md_RB_read := ⟨by decide, ⟨by decide, by decide⟩, Or.inl ⟨rfl, gw_164⟩⟩
theorem mo_RB_readInto : gj_mok md_RB_readInto := ⟨by decide, ⟨by decide, by decide⟩, Or.inl ⟨rfl, gw_168⟩⟩
theorem mo_Tx_behindLine : gj_mok md_Tx_behindLine := ⟨by decide, ⟨by decide, by decide⟩, Or.inl ⟨rfl, gw_173⟩⟩
theorem mo_Tx_at : gj_mok md_Tx_at := ⟨by decide, ⟨by decide, by decide⟩, Or.inl ⟨rfl, gw_177⟩⟩
theorem mo_Tx_numbersBehind : gj_mok md_Tx_numbersBehind := ⟨by decide, ⟨by decide, by decide⟩, Or.inl ⟨rfl, gw_180⟩⟩
theorem mo_Tx_takeNumber : gj_mok md_Tx_takeNumber := ⟨by decide, ⟨by decide, by decide⟩, Or.inl ⟨rfl, gw_184⟩⟩
theorem mo_Tx_isDigit : gj_mok md_Tx_isDigit := ⟨by decide, ⟨by decide, by decide⟩, Or.inl ⟨rfl, gw_187⟩⟩
theorem mo_Ra_take : gj_mok md_Ra_take := ⟨by decide, ⟨by decide, by decide⟩, Or.inl ⟨rfl, gw_192⟩⟩
theorem mo_Ra_takeKind : gj_mok md_Ra_takeKind := ⟨by decide, ⟨by decide, by decide⟩, Or.inl ⟨rfl, gw_196⟩⟩
theorem mo_Ra_takeStep : gj_mok md_Ra_takeStep := ⟨by decide, ⟨by decide, by decide⟩, Or.inl ⟨rfl, gw_200⟩⟩
theorem mo_RB_laneOf : gj_mok md_RB_laneOf := ⟨by decide, ⟨by decide, by decide⟩, Or.inl ⟨rfl, gw_205⟩⟩
theorem mo_Ra_heaviest : gj_mok md_Ra_heaviest := ⟨by decide, ⟨by decide, by decide⟩, Or.inl ⟨rfl, gw_209⟩⟩
theorem mo_Ra_takeOnce : gj_mok md_Ra_takeOnce := ⟨by decide, ⟨by decide, by decide⟩, Or.inl ⟨rfl, gw_212⟩⟩
theorem mo_Tx_clear : gj_mok md_Tx_clear := ⟨by decide, ⟨by decide, by decide⟩, Or.inl ⟨rfl, gw_216⟩⟩
theorem mo_RB_count : gj_mok md_RB_count := ⟨by decide, ⟨by decide, by decide⟩, Or.inl ⟨rfl, gw_220⟩⟩
theorem mo_RB_addend : gj_mok md_RB_addend := ⟨by decide, ⟨by decide, by decide⟩, Or.inl ⟨rfl, gw_223⟩⟩
theorem mo_Sh_isBooked : gj_mok md_Sh_isBooked := ⟨by decide, ⟨by decide, by decide⟩, Or.inl ⟨rfl, gw_227⟩⟩
theorem mo_Sh_isInvoiced : gj_mok md_Sh_isInvoiced := ⟨by decide, ⟨by decide, by decide⟩, Or.inl ⟨rfl, gw_231⟩⟩
theorem mo_La_sign : gj_mok md_La_sign := ⟨by decide, ⟨by decide, by decide⟩, Or.inr gw_234⟩
theorem mo_RB_sign : gj_mok md_RB_sign := ⟨by decide, ⟨by decide, by decide⟩, Or.inl ⟨rfl, gw_240⟩⟩
theorem mo_RB_needWithin : gj_mok md_RB_needWithin := ⟨by decide, ⟨by decide, by decide⟩, Or.inl ⟨rfl, gw_243⟩⟩
theorem mo_Tx_append : gj_mok md_Tx_append := ⟨by decide, ⟨by decide, by decide⟩, Or.inl ⟨rfl, gw_333⟩⟩
theorem mo_La_shipment : gj_mok md_La_shipment := ⟨by decide, ⟨by decide, by decide⟩, Or.inr gw_336⟩
theorem mo_RB_shipment : gj_mok md_RB_shipment := ⟨by decide, ⟨by decide, by decide⟩, Or.inl ⟨rfl, gw_340⟩⟩
theorem mo_Sh_init : gj_mok md_Sh_init := ⟨by decide, ⟨by decide, by decide⟩, Or.inl ⟨rfl, gw_347⟩⟩
theorem mo_La_weight : gj_mok md_La_weight := ⟨by decide, ⟨by decide, by decide⟩, Or.inr gw_378⟩
theorem mo_RB_weight : gj_mok md_RB_weight := ⟨by decide, ⟨by decide, by decide⟩, Or.inl ⟨rfl, gw_384⟩⟩
theorem mo_RB_present : gj_mok md_RB_present := ⟨by decide, ⟨by decide, by decide⟩, Or.inl ⟨rfl, gw_388⟩⟩
theorem mo_RB_needService : gj_mok md_RB_needService := ⟨by decide, ⟨by decide, by decide⟩, Or.inl ⟨rfl, gw_407⟩⟩
theorem mo_Ra_weightToPay : gj_mok md_Ra_weightToPay := ⟨by decide, ⟨by decide, by decide⟩, Or.inl ⟨rfl, gw_412⟩⟩
theorem mo_RB_dividedUp : gj_mok md_RB_dividedUp := ⟨by decide, ⟨by decide, by decide⟩, Or.inl ⟨rfl, gw_415⟩⟩
theorem mo_RB_dividedDown : gj_mok md_RB_dividedDown := ⟨by decide, ⟨by decide, by decide⟩, Or.inl ⟨rfl, gw_418⟩⟩
theorem mo_La_price : gj_mok md_La_price := ⟨by decide, ⟨by decide, by decide⟩, Or.inr gw_438⟩
theorem mo_RB_price : gj_mok md_RB_price := ⟨by decide, ⟨by decide, by decide⟩, Or.inl ⟨rfl, gw_442⟩⟩
theorem mo_RB_priceNow : gj_mok md_RB_priceNow := ⟨by decide, ⟨by decide, by decide⟩, Or.inl ⟨rfl, gw_446⟩⟩
theorem mo_Ra_stepFor : gj_mok md_Ra_stepFor := ⟨by decide, ⟨by decide, by decide⟩, Or.inl ⟨rfl, gw_451⟩⟩
theorem mo_Ra_charged : gj_mok md_Ra_charged := ⟨by decide, ⟨by decide, by decide⟩, Or.inl ⟨rfl, gw_455⟩⟩
theorem mo_Ro_latest : gj_mok md_Ro_latest := ⟨by decide, ⟨by decide, by decide⟩, Or.inl ⟨rfl, gw_462⟩⟩
theorem mo_La_cheapest : gj_mok md_La_cheapest := ⟨by decide, ⟨by decide, by decide⟩, Or.inr gw_466⟩
theorem mo_RB_cheapest : gj_mok md_RB_cheapest := ⟨by decide, ⟨by decide, by decide⟩, Or.inl ⟨rfl, gw_470⟩⟩
theorem mo_La_parcels : gj_mok md_La_parcels := ⟨by decide, ⟨by decide, by decide⟩, Or.inr gw_473⟩
theorem mo_RB_parcels : gj_mok md_RB_parcels := ⟨by decide, ⟨by decide, by decide⟩, Or.inl ⟨rfl, gw_477⟩⟩
theorem mo_Ra_leastCents : gj_mok md_Ra_leastCents := ⟨by decide, ⟨by decide, by decide⟩, Or.inl ⟨rfl, gw_481⟩⟩
theorem mo_La_contract : gj_mok md_La_contract := ⟨by decide, ⟨by decide, by decide⟩, Or.inr gw_485⟩
theorem mo_RB_contract : gj_mok md_RB_contract := ⟨by decide, ⟨by decide, by decide⟩, Or.inl ⟨rfl, gw_489⟩⟩
theorem mo_RB_needRoom : gj_mok md_RB_needRoom := ⟨by decide, ⟨by decide, by decide⟩, Or.inl ⟨rfl, gw_492⟩⟩
theorem mo_Ro_hasRoomFor : gj_mok md_Ro_hasRoomFor := ⟨by decide, ⟨by decide, by decide⟩, Or.inl ⟨rfl, gw_496⟩⟩
theorem mo_Ro_placeFor : gj_mok md_Ro_placeFor := ⟨by decide, ⟨by decide, by decide⟩, Or.inl ⟨rfl, gw_500⟩⟩
theorem mo_Ro_put : gj_mok md_Ro_put := ⟨by decide, ⟨by decide, by decide⟩, Or.inl ⟨rfl, gw_505⟩⟩
theorem mo_La_book : gj_mok md_La_book := ⟨by decide, ⟨by decide, by decide⟩, Or.inr gw_508⟩
theorem mo_RB_book : gj_mok md_RB_book := ⟨by decide, ⟨by decide, by decide⟩, Or.inl ⟨rfl, gw_513⟩⟩
theorem mo_La_combine : gj_mok md_La_combine := ⟨by decide, ⟨by decide, by decide⟩, Or.inr gw_533⟩
theorem mo_RB_combine : gj_mok md_RB_combine := ⟨by decide, ⟨by decide, by decide⟩, Or.inl ⟨rfl, gw_537⟩⟩
theorem mo_La_invoice : gj_mok md_La_invoice := ⟨by decide, ⟨by decide, by decide⟩, Or.inr gw_544⟩
theorem mo_RB_invoice : gj_mok md_RB_invoice := ⟨by decide, ⟨by decide, by decide⟩, Or.inl ⟨rfl, gw_548⟩⟩
theorem mo_La_refund : gj_mok md_La_refund := ⟨by decide, ⟨by decide, by decide⟩, Or.inr gw_553⟩
theorem mo_RB_refund : gj_mok md_RB_refund := ⟨by decide, ⟨by decide, by decide⟩, Or.inl ⟨rfl, gw_557⟩⟩
theorem mo_La_differ : gj_mok md_La_differ := ⟨by decide, ⟨by decide, by decide⟩, Or.inr gw_561⟩
theorem mo_RB_differ : gj_mok md_RB_differ := ⟨by decide, ⟨by decide, by decide⟩, Or.inl ⟨rfl, gw_565⟩⟩
theorem mo_La_currency : gj_mok md_La_currency := ⟨by decide, ⟨by decide, by decide⟩, Or.inr gw_569⟩
theorem mo_RB_currency : gj_mok md_RB_currency := ⟨by decide, ⟨by decide, by decide⟩, Or.inl ⟨rfl, gw_573⟩⟩
theorem mo_La_converted : gj_mok md_La_converted := ⟨by decide, ⟨by decide, by decide⟩, Or.inr gw_576⟩
theorem mo_RB_converted : gj_mok md_RB_converted := ⟨by decide, ⟨by decide, by decide⟩, Or.inl ⟨rfl, gw_580⟩⟩
theorem mo_La_told : gj_mok md_La_told := ⟨by decide, ⟨by decide, by decide⟩, Or.inr gw_584⟩
theorem mo_RB_told : gj_mok md_RB_told := ⟨by decide, ⟨by decide, by decide⟩, Or.inl ⟨rfl, gw_588⟩⟩
theorem mo_Mo_init : gj_mok md_Mo_init := ⟨by decide, ⟨by decide, by decide⟩, Or.inl ⟨rfl, gw_594⟩⟩
theorem mo_Mo_thrown : gj_mok md_Mo_thrown := ⟨by decide, ⟨by decide, by decide⟩, Or.inl ⟨rfl, gw_682⟩⟩
theorem mo_Mo_sign : gj_mok md_Mo_sign := ⟨by decide, ⟨by decide, by decide⟩, Or.inl ⟨rfl, gw_686⟩⟩
theorem mo_Mo_not : gj_mok md_Mo_not := ⟨by decide, ⟨by decide, by decide⟩, Or.inl ⟨rfl, gw_689⟩⟩
theorem mo_Mo_read : gj_mok md_Mo_read := ⟨by decide, ⟨by decide, by decide⟩, Or.inl ⟨rfl, gw_693⟩⟩
theorem mo_Mo_oneLine : gj_mok md_Mo_oneLine := ⟨by decide, ⟨by decide, by decide⟩, Or.inl ⟨rfl, gw_697⟩⟩
theorem mo_Mo_here : gj_mok md_Mo_here := ⟨by decide, ⟨by decide, by decide⟩, Or.inl ⟨rfl, gw_701⟩⟩
theorem mo_Mo_number : gj_mok md_Mo_number := ⟨by decide, ⟨by decide, by decide⟩, Or.inl ⟨rfl, gw_705⟩⟩
theorem mo_Mo_heaviest : gj_mok md_Mo_heaviest := ⟨by decide, ⟨by decide, by decide⟩, Or.inl ⟨rfl, gw_711⟩⟩
theorem mo_Mo_seen : gj_mok md_Mo_seen := ⟨by decide, ⟨by decide, by decide⟩, Or.inl ⟨rfl, gw_715⟩⟩
theorem mo_Mo_shipment : gj_mok md_Mo_shipment := ⟨by decide, ⟨by decide, by decide⟩, Or.inl ⟨rfl, gw_719⟩⟩
theorem mo_Mo_weight : gj_mok md_Mo_weight := ⟨by decide, ⟨by decide, by decide⟩, Or.inl ⟨rfl, gw_724⟩⟩
theorem mo_Mo_noShipment : gj_mok md_Mo_noShipment := ⟨by decide, ⟨by decide, by decide⟩, Or.inl ⟨rfl, gw_728⟩⟩
theorem mo_Mo_toPay : gj_mok md_Mo_toPay := ⟨by decide, ⟨by decide, by decide⟩, Or.inl ⟨rfl, gw_732⟩⟩
theorem mo_Mo_find : gj_mok md_Mo_find := ⟨by decide, ⟨by decide, by decide⟩, Or.inl ⟨rfl, gw_736⟩⟩
theorem mo_Mo_price : gj_mok md_Mo_price := ⟨by decide, ⟨by decide, by decide⟩, Or.inl ⟨rfl, gw_740⟩⟩
theorem mo_Mo_priceOf : gj_mok md_Mo_priceOf := ⟨by decide, ⟨by decide, by decide⟩, Or.inl ⟨rfl, gw_744⟩⟩
theorem mo_Mo_part : gj_mok md_Mo_part := ⟨by decide, ⟨by decide, by decide⟩, Or.inl ⟨rfl, gw_747⟩⟩
theorem mo_Mo_booked : gj_mok md_Mo_booked := ⟨by decide, ⟨by decide, by decide⟩, Or.inl ⟨rfl, gw_751⟩⟩
theorem mo_Mo_cheapest : gj_mok md_Mo_cheapest := ⟨by decide, ⟨by decide, by decide⟩, Or.inl ⟨rfl, gw_755⟩⟩
theorem mo_Mo_parcels : gj_mok md_Mo_parcels := ⟨by decide, ⟨by decide, by decide⟩, Or.inl ⟨rfl, gw_759⟩⟩
theorem mo_Mo_contract : gj_mok md_Mo_contract := ⟨by decide, ⟨by decide, by decide⟩, Or.inl ⟨rfl, gw_763⟩⟩
theorem mo_Mo_book : gj_mok md_Mo_book := ⟨by decide, ⟨by decide, by decide⟩, Or.inl ⟨rfl, gw_767⟩⟩
theorem mo_Mo_combine : gj_mok md_Mo_combine := ⟨by decide, ⟨by decide, by decide⟩, Or.inl ⟨rfl, gw_771⟩⟩
theorem mo_Mo_invoice : gj_mok md_Mo_invoice := ⟨by decide, ⟨by decide, by decide⟩, Or.inl ⟨rfl, gw_775⟩⟩
theorem mo_Mo_refund : gj_mok md_Mo_refund := ⟨by decide, ⟨by decide, by decide⟩, Or.inl ⟨rfl, gw_780⟩⟩
theorem mo_Mo_differ : gj_mok md_Mo_differ := ⟨by decide, ⟨by decide, by decide⟩, Or.inl ⟨rfl, gw_784⟩⟩
theorem mo_Mo_currency : gj_mok md_Mo_currency := ⟨by decide, ⟨by decide, by decide⟩, Or.inl ⟨rfl, gw_788⟩⟩
theorem mo_Mo_converted : gj_mok md_Mo_converted := ⟨by decide, ⟨by decide, by decide⟩, Or.inl ⟨rfl, gw_792⟩⟩
theorem mo_Mo_told : gj_mok md_Mo_told := ⟨by decide, ⟨by decide, by decide⟩, Or.inl ⟨rfl, gw_797⟩⟩
theorem mo_Mo_count : gj_mok md_Mo_count := ⟨by decide, ⟨by decide, by decide⟩, Or.inl ⟨rfl, gw_801⟩⟩
theorem gn_RB_7 : gj_nok "RateBreaks" 7 1 4 [.null, .null, .int 0, .int 0] := ⟨R_Tx, F_Tx, t_Tx, rfl, li_Tx, to_Tx, gw_43, gw_44, gw_21, fun j hj => by (rcases (show j = 0 ∨ j = 1 ∨ j = 2 ∨ j = 3 by omega) with rfl | rfl | rfl | rfl) <;> rfl, fun _ => rfl, fun _ v hv => by simp at hv; rcases hv with rfl | rfl | rfl | rfl <;> trivial⟩
theorem gp_RB_10 : gj_pok "RateBreaks" 10 0 0 (.object "RateBreaks$Text") true := ⟨R_RB, F_RB, 8, t_RB, rfl, by decide, gw_136, li_RB, to_RB, n_RB, by decide +kernel, rfl, fun _ => rfl⟩
theorem gn_RB_16 : gj_nok "RateBreaks" 16 2 10 [.null, .null, .null, .null, .null, .null, .null, .null, .int 0, .int 0] := ⟨R_Ra, F_Ra, t_Ra, rfl, li_Ra, to_Ra, gw_65, gw_66, gw_22, fun j hj => by (rcases (show j = 0 ∨ j = 1 ∨ j = 2 ∨ j = 3 ∨ j = 4 ∨ j = 5 ∨ j = 6 ∨ j = 7 ∨ j = 8 ∨ j = 9 by omega) with rfl | rfl | rfl | rfl | rfl | rfl | rfl | rfl | rfl | rfl) <;> rfl, fun _ => rfl, fun _ v hv => by simp at hv; rcases hv with rfl | rfl | rfl | rfl | rfl | rfl | rfl | rfl | rfl | rfl <;> trivial⟩
theorem gp_RB_19 : gj_pok "RateBreaks" 19 0 1 (.object "RateBreaks$Rates") false := ⟨R_RB, F_RB, 8, t_RB, rfl, by decide, gw_137, li_RB, to_RB, n_RB, by decide +kernel, rfl, fun h => nomatch h⟩
theorem gp_RB_23 : gj_pok "RateBreaks" 23 0 2 (.object "RateBreaks$Rates") false := ⟨R_RB, F_RB, 8, t_RB, rfl, by decide, gw_138, li_RB, to_RB, n_RB, by decide +kernel, rfl, fun h => nomatch h⟩
theorem gp_RB_28 : gj_pok "RateBreaks" 28 0 3 (.array (.object "RateBreaks$Shipment")) true := ⟨R_RB, F_RB, 8, t_RB, rfl, by decide, gw_139, li_RB, to_RB, n_RB, by decide +kernel, rfl, fun _ => rfl⟩
theorem gp_RB_32 : gj_pok "RateBreaks" 32 0 4 (.int) false := ⟨R_RB, F_RB, 8, t_RB, rfl, by decide, gw_140, li_RB, to_RB, n_RB, by decide +kernel, rfl, fun h => nomatch h⟩
theorem gp_RB_38 : gj_pok "RateBreaks" 38 0 5 (.array (.object "RateBreaks$Ratios")) true := ⟨R_RB, F_RB, 8, t_RB, rfl, by decide, gw_141, li_RB, to_RB, n_RB, by decide +kernel, rfl, fun _ => rfl⟩
theorem gf_RB_38 : gj_fok "RateBreaks" 38 0 5 := ⟨R_RB, F_RB, 8, rfl, by decide, gw_141, li_RB⟩
theorem gn_RB_36 : gj_nok "RateBreaks" 36 3 4 [.null, .null, .null, .int 0] := ⟨R_Ro, F_Ro, t_Ro, rfl, li_Ro, to_Ro, gw_110, gw_112, gw_23, fun j hj => by (rcases (show j = 0 ∨ j = 1 ∨ j = 2 ∨ j = 3 by omega) with rfl | rfl | rfl | rfl) <;> rfl, fun _ => rfl, fun _ v hv => by simp at hv; rcases hv with rfl | rfl | rfl | rfl <;> trivial⟩
theorem gp_RB_45 : gj_pok "RateBreaks" 45 0 6 (.array .int) true := ⟨R_RB, F_RB, 8, t_RB, rfl, by decide, gw_142, li_RB, to_RB, n_RB, by decide +kernel, rfl, fun _ => rfl⟩
theorem gp_RB_49 : gj_pok "RateBreaks" 49 0 7 (.object "RateBreaks$Ratios") true := ⟨R_RB, F_RB, 8, t_RB, rfl, by decide, gw_143, li_RB, to_RB, n_RB, by decide +kernel, rfl, fun _ => rfl⟩
theorem gp_Tx_9 : gj_pok "RateBreaks$Text" 9 1 0 (.array .int) true := ⟨R_Tx, F_Tx, 4, t_Tx, rfl, by decide, gw_49, li_Tx, to_Tx, n_Tx, by decide +kernel, rfl, fun _ => rfl⟩
theorem gp_Tx_15 : gj_pok "RateBreaks$Text" 15 1 1 (.array .int) true := ⟨R_Tx, F_Tx, 4, t_Tx, rfl, by decide, gw_50, li_Tx, to_Tx, n_Tx, by decide +kernel, rfl, fun _ => rfl⟩
theorem gp_Tx_18 : gj_pok "RateBreaks$Text" 18 1 2 (.int) false := ⟨R_Tx, F_Tx, 4, t_Tx, rfl, by decide, gw_52, li_Tx, to_Tx, n_Tx, by decide +kernel, rfl, fun h => nomatch h⟩
theorem gp_Tx_22 : gj_pok "RateBreaks$Text" 22 1 3 (.int) false := ⟨R_Tx, F_Tx, 4, t_Tx, rfl, by decide, gw_54, li_Tx, to_Tx, n_Tx, by decide +kernel, rfl, fun h => nomatch h⟩
theorem gp_Ra_9 : gj_pok "RateBreaks$Rates" 9 2 0 (.array .int) true := ⟨R_Ra, F_Ra, 10, t_Ra, rfl, by decide, gw_75, li_Ra, to_Ra, n_Ra, by decide +kernel, rfl, fun _ => rfl⟩
theorem gp_Ra_15 : gj_pok "RateBreaks$Rates" 15 2 1 (.array .int) true := ⟨R_Ra, F_Ra, 10, t_Ra, rfl, by decide, gw_76, li_Ra, to_Ra, n_Ra, by decide +kernel, rfl, fun _ => rfl⟩
theorem gp_Ra_18 : gj_pok "RateBreaks$Rates" 18 2 2 (.array .int) true := ⟨R_Ra, F_Ra, 10, t_Ra, rfl, by decide, gw_77, li_Ra, to_Ra, n_Ra, by decide +kernel, rfl, fun _ => rfl⟩
theorem gp_Ra_21 : gj_pok "RateBreaks$Rates" 21 2 3 (.array .int) true := ⟨R_Ra, F_Ra, 10, t_Ra, rfl, by decide, gw_78, li_Ra, to_Ra, n_Ra, by decide +kernel, rfl, fun _ => rfl⟩
theorem gp_Ra_24 : gj_pok "RateBreaks$Rates" 24 2 4 (.array .int) true := ⟨R_Ra, F_Ra, 10, t_Ra, rfl, by decide, gw_79, li_Ra, to_Ra, n_Ra, by decide +kernel, rfl, fun _ => rfl⟩
theorem gp_Ra_27 : gj_pok "RateBreaks$Rates" 27 2 5 (.array .int) true := ⟨R_Ra, F_Ra, 10, t_Ra, rfl, by decide, gw_81, li_Ra, to_Ra, n_Ra, by decide +kernel, rfl, fun _ => rfl⟩
theorem gp_Ra_30 : gj_pok "RateBreaks$Rates" 30 2 6 (.array .int) true := ⟨R_Ra, F_Ra, 10, t_Ra, rfl, by decide, gw_82, li_Ra, to_Ra, n_Ra, by decide +kernel, rfl, fun _ => rfl⟩
theorem gp_Ra_33 : gj_pok "RateBreaks$Rates" 33 2 7 (.array .int) true := ⟨R_Ra, F_Ra, 10, t_Ra, rfl, by decide, gw_83, li_Ra, to_Ra, n_Ra, by decide +kernel, rfl, fun _ => rfl⟩
theorem gp_Ra_39 : gj_pok "RateBreaks$Rates" 39 2 8 (.int) false := ⟨R_Ra, F_Ra, 10, t_Ra, rfl, by decide, gw_84, li_Ra, to_Ra, n_Ra, by decide +kernel, rfl, fun h => nomatch h⟩
theorem gp_Ra_43 : gj_pok "RateBreaks$Rates" 43 2 9 (.int) false := ⟨R_Ra, F_Ra, 10, t_Ra, rfl, by decide, gw_86, li_Ra, to_Ra, n_Ra, by decide +kernel, rfl, fun h => nomatch h⟩
theorem gf_Ra_24 : gj_fok "RateBreaks$Rates" 24 2 4 := ⟨R_Ra, F_Ra, 10, rfl, by decide, gw_79, li_Ra⟩
theorem gf_Ra_27 : gj_fok "RateBreaks$Rates" 27 2 5 := ⟨R_Ra, F_Ra, 10, rfl, by decide, gw_81, li_Ra⟩
theorem gf_Ra_30 : gj_fok "RateBreaks$Rates" 30 2 6 := ⟨R_Ra, F_Ra, 10, rfl, by decide, gw_82, li_Ra⟩
theorem gf_Ra_33 : gj_fok "RateBreaks$Rates" 33 2 7 := ⟨R_Ra, F_Ra, 10, rfl, by decide, gw_83, li_Ra⟩
theorem gp_Ro_9 : gj_pok "RateBreaks$Ratios" 9 3 3 (.int) false := ⟨R_Ro, F_Ro, 4, t_Ro, rfl, by decide, gw_125, li_Ro, to_Ro, n_Ro, by decide +kernel, rfl, fun h => nomatch h⟩
theorem gp_Ro_21 : gj_pok "RateBreaks$Ratios" 21 3 0 (.array .int) true := ⟨R_Ro, F_Ro, 4, t_Ro, rfl, by decide, gw_120, li_Ro, to_Ro, n_Ro, by decide +kernel, rfl, fun _ => rfl⟩
theorem gp_Ro_25 : gj_pok "RateBreaks$Ratios" 25 3 1 (.array .int) true := ⟨R_Ro, F_Ro, 4, t_Ro, rfl, by decide, gw_121, li_Ro, to_Ro, n_Ro, by decide +kernel, rfl, fun _ => rfl⟩
theorem gp_Ro_28 : gj_pok "RateBreaks$Ratios" 28 3 2 (.array .int) true := ⟨R_Ro, F_Ro, 4, t_Ro, rfl, by decide, gw_123, li_Ro, to_Ro, n_Ro, by decide +kernel, rfl, fun _ => rfl⟩
theorem gf_RB_23 : gj_fok "RateBreaks" 23 0 2 := ⟨R_RB, F_RB, 8, rfl, by decide, gw_138, li_RB⟩
theorem gf_RB_10 : gj_fok "RateBreaks" 10 0 0 := ⟨R_RB, F_RB, 8, rfl, by decide, gw_136, li_RB⟩
theorem gf_RB_19 : gj_fok "RateBreaks" 19 0 1 := ⟨R_RB, F_RB, 8, rfl, by decide, gw_137, li_RB⟩
theorem gf_RB_77 : gj_fok "RateBreaks" 77 2 8 := ⟨R_Ra, F_Ra, 10, rfl, by decide, gw_85, li_Ra⟩
theorem gf_RB_57 : gj_fok "RateBreaks" 57 1 2 := ⟨R_Tx, F_Tx, 4, rfl, by decide, gw_53, li_Tx⟩
theorem gf_RB_214 : gj_fok "RateBreaks" 214 1 1 := ⟨R_Tx, F_Tx, 4, rfl, by decide, gw_51, li_Tx⟩
theorem gf_Tx_15 : gj_fok "RateBreaks$Text" 15 1 1 := ⟨R_Tx, F_Tx, 4, rfl, by decide, gw_50, li_Tx⟩
theorem gf_Tx_22 : gj_fok "RateBreaks$Text" 22 1 3 := ⟨R_Tx, F_Tx, 4, rfl, by decide, gw_54, li_Tx⟩
theorem gf_Tx_18 : gj_fok "RateBreaks$Text" 18 1 2 := ⟨R_Tx, F_Tx, 4, rfl, by decide, gw_52, li_Tx⟩
theorem gf_Tx_9 : gj_fok "RateBreaks$Text" 9 1 0 := ⟨R_Tx, F_Tx, 4, rfl, by decide, gw_49, li_Tx⟩
theorem gf_Ra_39 : gj_fok "RateBreaks$Rates" 39 2 8 := ⟨R_Ra, F_Ra, 10, rfl, by decide, gw_84, li_Ra⟩
theorem gf_Ra_43 : gj_fok "RateBreaks$Rates" 43 2 9 := ⟨R_Ra, F_Ra, 10, rfl, by decide, gw_86, li_Ra⟩
theorem gf_Ra_9 : gj_fok "RateBreaks$Rates" 9 2 0 := ⟨R_Ra, F_Ra, 10, rfl, by decide, gw_75, li_Ra⟩
theorem gf_Ra_15 : gj_fok "RateBreaks$Rates" 15 2 1 := ⟨R_Ra, F_Ra, 10, rfl, by decide, gw_76, li_Ra⟩
theorem gf_Ra_18 : gj_fok "RateBreaks$Rates" 18 2 2 := ⟨R_Ra, F_Ra, 10, rfl, by decide, gw_77, li_Ra⟩
theorem gf_Ra_21 : gj_fok "RateBreaks$Rates" 21 2 3 := ⟨R_Ra, F_Ra, 10, rfl, by decide, gw_78, li_Ra⟩
theorem gf_RB_28 : gj_fok "RateBreaks" 28 0 3 := ⟨R_RB, F_RB, 8, rfl, by decide, gw_139, li_RB⟩
theorem gf_RB_141 : gj_fok "RateBreaks" 141 4 4 := ⟨R_Sh, F_Sh, 6, rfl, by decide, gw_360, li_Sh⟩
theorem gf_RB_161 : gj_fok "RateBreaks" 161 4 5 := ⟨R_Sh, F_Sh, 6, rfl, by decide, gw_362, li_Sh⟩
theorem gf_Sh_9 : gj_fok "RateBreaks$Shipment" 9 4 3 := ⟨R_Sh, F_Sh, 6, rfl, by decide, gw_357, li_Sh⟩
theorem gf_Sh_18 : gj_fok "RateBreaks$Shipment" 18 4 5 := ⟨R_Sh, F_Sh, 6, rfl, by decide, gw_361, li_Sh⟩
theorem gf_RB_32 : gj_fok "RateBreaks" 32 0 4 := ⟨R_RB, F_RB, 8, rfl, by decide, gw_140, li_RB⟩
theorem gn_RB_26 : gj_nok "RateBreaks" 26 4 6 [.int 0, .int 0, .int 0, .int 0, .int 0, .int 0] := ⟨R_Sh, F_Sh, t_Sh, rfl, li_Sh, to_Sh, gw_108, gw_344, gw_31, fun j hj => by (rcases (show j = 0 ∨ j = 1 ∨ j = 2 ∨ j = 3 ∨ j = 4 ∨ j = 5 by omega) with rfl | rfl | rfl | rfl | rfl | rfl) <;> rfl, fun _ => rfl, fun _ v hv => by simp at hv; rcases hv with rfl | rfl | rfl | rfl | rfl | rfl <;> trivial⟩
theorem gp_Sh_9 : gj_pok "RateBreaks$Shipment" 9 4 3 (.int) false := ⟨R_Sh, F_Sh, 6, t_Sh, rfl, by decide, gw_357, li_Sh, to_Sh, n_Sh, by decide +kernel, rfl, fun h => nomatch h⟩
theorem gp_Sh_15 : gj_pok "RateBreaks$Shipment" 15 4 4 (.int) false := ⟨R_Sh, F_Sh, 6, t_Sh, rfl, by decide, gw_359, li_Sh, to_Sh, n_Sh, by decide +kernel, rfl, fun h => nomatch h⟩
theorem gp_Sh_18 : gj_pok "RateBreaks$Shipment" 18 4 5 (.int) false := ⟨R_Sh, F_Sh, 6, t_Sh, rfl, by decide, gw_361, li_Sh, to_Sh, n_Sh, by decide +kernel, rfl, fun h => nomatch h⟩
theorem gp_Sh_21 : gj_pok "RateBreaks$Shipment" 21 4 0 (.int) true := ⟨R_Sh, F_Sh, 6, t_Sh, rfl, by decide, gw_349, li_Sh, to_Sh, n_Sh, by decide +kernel, rfl, fun _ => rfl⟩
theorem gp_Sh_24 : gj_pok "RateBreaks$Shipment" 24 4 1 (.int) false := ⟨R_Sh, F_Sh, 6, t_Sh, rfl, by decide, gw_351, li_Sh, to_Sh, n_Sh, by decide +kernel, rfl, fun h => nomatch h⟩
theorem gp_Sh_27 : gj_pok "RateBreaks$Shipment" 27 4 2 (.int) false := ⟨R_Sh, F_Sh, 6, t_Sh, rfl, by decide, gw_354, li_Sh, to_Sh, n_Sh, by decide +kernel, rfl, fun h => nomatch h⟩
theorem gf_Ra_68 : gj_fok "RateBreaks$Rates" 68 4 1 := ⟨R_Sh, F_Sh, 6, rfl, by decide, gw_352, li_Sh⟩
theorem gf_Ra_73 : gj_fok "RateBreaks$Rates" 73 4 2 := ⟨R_Sh, F_Sh, 6, rfl, by decide, gw_355, li_Sh⟩
theorem gf_RB_103 : gj_fok "RateBreaks" 103 4 0 := ⟨R_Sh, F_Sh, 6, rfl, by decide, gw_350, li_Sh⟩
theorem gf_RB_45 : gj_fok "RateBreaks" 45 0 6 := ⟨R_RB, F_RB, 8, rfl, by decide, gw_142, li_RB⟩
theorem gf_RB_177 : gj_fok "RateBreaks" 177 3 1 := ⟨R_Ro, F_Ro, 4, rfl, by decide, gw_122, li_Ro⟩
theorem gf_RB_180 : gj_fok "RateBreaks" 180 3 2 := ⟨R_Ro, F_Ro, 4, rfl, by decide, gw_124, li_Ro⟩
theorem gf_Ro_9 : gj_fok "RateBreaks$Ratios" 9 3 3 := ⟨R_Ro, F_Ro, 4, rfl, by decide, gw_125, li_Ro⟩
theorem gf_Ro_21 : gj_fok "RateBreaks$Ratios" 21 3 0 := ⟨R_Ro, F_Ro, 4, rfl, by decide, gw_120, li_Ro⟩
theorem gf_RB_100 : gj_fok "RateBreaks" 100 2 4 := ⟨R_Ra, F_Ra, 10, rfl, by decide, gw_80, li_Ra⟩
theorem gf_RB_110 : gj_fok "RateBreaks" 110 4 1 := ⟨R_Sh, F_Sh, 6, rfl, by decide, gw_353, li_Sh⟩
theorem gf_RB_124 : gj_fok "RateBreaks" 124 3 3 := ⟨R_Ro, F_Ro, 4, rfl, by decide, gw_126, li_Ro⟩
theorem gf_Ro_25 : gj_fok "RateBreaks$Ratios" 25 3 1 := ⟨R_Ro, F_Ro, 4, rfl, by decide, gw_121, li_Ro⟩
theorem gf_Ro_28 : gj_fok "RateBreaks$Ratios" 28 3 2 := ⟨R_Ro, F_Ro, 4, rfl, by decide, gw_123, li_Ro⟩
theorem gp_RB_138 : gj_pok "RateBreaks" 138 4 3 (.int) false := ⟨R_Sh, F_Sh, 6, t_Sh, rfl, by decide, gw_358, li_Sh, to_Sh, n_Sh, by decide +kernel, rfl, fun h => nomatch h⟩
theorem gp_RB_141 : gj_pok "RateBreaks" 141 4 4 (.int) false := ⟨R_Sh, F_Sh, 6, t_Sh, rfl, by decide, gw_360, li_Sh, to_Sh, n_Sh, by decide +kernel, rfl, fun h => nomatch h⟩
theorem gf_RB_150 : gj_fok "RateBreaks" 150 4 2 := ⟨R_Sh, F_Sh, 6, rfl, by decide, gw_356, li_Sh⟩
theorem gp_RB_110 : gj_pok "RateBreaks" 110 4 1 (.int) false := ⟨R_Sh, F_Sh, 6, t_Sh, rfl, by decide, gw_353, li_Sh, to_Sh, n_Sh, by decide +kernel, rfl, fun h => nomatch h⟩
theorem gp_RB_150 : gj_pok "RateBreaks" 150 4 2 (.int) false := ⟨R_Sh, F_Sh, 6, t_Sh, rfl, by decide, gw_356, li_Sh, to_Sh, n_Sh, by decide +kernel, rfl, fun h => nomatch h⟩
theorem gp_RB_161 : gj_pok "RateBreaks" 161 4 5 (.int) false := ⟨R_Sh, F_Sh, 6, t_Sh, rfl, by decide, gw_362, li_Sh, to_Sh, n_Sh, by decide +kernel, rfl, fun h => nomatch h⟩
theorem gf_RB_49 : gj_fok "RateBreaks" 49 0 7 := ⟨R_RB, F_RB, 8, rfl, by decide, gw_143, li_RB⟩
theorem gf_RB_138 : gj_fok "RateBreaks" 138 4 3 := ⟨R_Sh, F_Sh, 6, rfl, by decide, gw_358, li_Sh⟩
theorem gp_Mo_7 : gj_pok "RateBreaksModel" 7 5 0 (.int) false := ⟨R_Mo, F_Mo, 27, t_Mo, rfl, by decide, gw_596, li_Mo, to_Mo, n_Mo, by decide +kernel, rfl, fun h => nomatch h⟩
theorem gp_Mo_13 : gj_pok "RateBreaksModel" 13 5 1 (.array .int) true := ⟨R_Mo, F_Mo, 27, t_Mo, rfl, by decide, gw_597, li_Mo, to_Mo, n_Mo, by decide +kernel, rfl, fun _ => rfl⟩
theorem gp_Mo_17 : gj_pok "RateBreaksModel" 17 5 2 (.int) false := ⟨R_Mo, F_Mo, 27, t_Mo, rfl, by decide, gw_598, li_Mo, to_Mo, n_Mo, by decide +kernel, rfl, fun h => nomatch h⟩
theorem gp_Mo_20 : gj_pok "RateBreaksModel" 20 5 3 (.int) false := ⟨R_Mo, F_Mo, 27, t_Mo, rfl, by decide, gw_599, li_Mo, to_Mo, n_Mo, by decide +kernel, rfl, fun h => nomatch h⟩
theorem gp_Mo_23 : gj_pok "RateBreaksModel" 23 5 4 (.array .int) true := ⟨R_Mo, F_Mo, 27, t_Mo, rfl, by decide, gw_600, li_Mo, to_Mo, n_Mo, by decide +kernel, rfl, fun _ => rfl⟩
theorem gp_Mo_26 : gj_pok "RateBreaksModel" 26 5 5 (.int) false := ⟨R_Mo, F_Mo, 27, t_Mo, rfl, by decide, gw_601, li_Mo, to_Mo, n_Mo, by decide +kernel, rfl, fun h => nomatch h⟩
theorem gp_Mo_29 : gj_pok "RateBreaksModel" 29 5 6 (.array .int) true := ⟨R_Mo, F_Mo, 27, t_Mo, rfl, by decide, gw_602, li_Mo, to_Mo, n_Mo, by decide +kernel, rfl, fun _ => rfl⟩
theorem gp_Mo_32 : gj_pok "RateBreaksModel" 32 5 7 (.int) false := ⟨R_Mo, F_Mo, 27, t_Mo, rfl, by decide, gw_603, li_Mo, to_Mo, n_Mo, by decide +kernel, rfl, fun h => nomatch h⟩
theorem gp_Mo_35 : gj_pok "RateBreaksModel" 35 5 8 (.int) false := ⟨R_Mo, F_Mo, 27, t_Mo, rfl, by decide, gw_604, li_Mo, to_Mo, n_Mo, by decide +kernel, rfl, fun h => nomatch h⟩
theorem gp_Mo_38 : gj_pok "RateBreaksModel" 38 5 9 (.array .boolean) true := ⟨R_Mo, F_Mo, 27, t_Mo, rfl, by decide, gw_605, li_Mo, to_Mo, n_Mo, by decide +kernel, rfl, fun _ => rfl⟩
theorem gp_Mo_42 : gj_pok "RateBreaksModel" 42 5 10 (.array .int) true := ⟨R_Mo, F_Mo, 27, t_Mo, rfl, by decide, gw_606, li_Mo, to_Mo, n_Mo, by decide +kernel, rfl, fun _ => rfl⟩
theorem gp_Mo_45 : gj_pok "RateBreaksModel" 45 5 11 (.array .int) true := ⟨R_Mo, F_Mo, 27, t_Mo, rfl, by decide, gw_607, li_Mo, to_Mo, n_Mo, by decide +kernel, rfl, fun _ => rfl⟩
theorem gp_Mo_48 : gj_pok "RateBreaksModel" 48 5 12 (.array .int) true := ⟨R_Mo, F_Mo, 27, t_Mo, rfl, by decide, gw_608, li_Mo, to_Mo, n_Mo, by decide +kernel, rfl, fun _ => rfl⟩
theorem gp_Mo_51 : gj_pok "RateBreaksModel" 51 5 13 (.array .int) true := ⟨R_Mo, F_Mo, 27, t_Mo, rfl, by decide, gw_609, li_Mo, to_Mo, n_Mo, by decide +kernel, rfl, fun _ => rfl⟩
theorem gp_Mo_54 : gj_pok "RateBreaksModel" 54 5 14 (.array .int) true := ⟨R_Mo, F_Mo, 27, t_Mo, rfl, by decide, gw_610, li_Mo, to_Mo, n_Mo, by decide +kernel, rfl, fun _ => rfl⟩
theorem gp_Mo_57 : gj_pok "RateBreaksModel" 57 5 15 (.array .int) true := ⟨R_Mo, F_Mo, 27, t_Mo, rfl, by decide, gw_611, li_Mo, to_Mo, n_Mo, by decide +kernel, rfl, fun _ => rfl⟩
theorem gp_Mo_60 : gj_pok "RateBreaksModel" 60 5 16 (.array .int) true := ⟨R_Mo, F_Mo, 27, t_Mo, rfl, by decide, gw_612, li_Mo, to_Mo, n_Mo, by decide +kernel, rfl, fun _ => rfl⟩
theorem gp_Mo_63 : gj_pok "RateBreaksModel" 63 5 17 (.array .int) true := ⟨R_Mo, F_Mo, 27, t_Mo, rfl, by decide, gw_613, li_Mo, to_Mo, n_Mo, by decide +kernel, rfl, fun _ => rfl⟩
theorem gp_Mo_66 : gj_pok "RateBreaksModel" 66 5 18 (.array .int) true := ⟨R_Mo, F_Mo, 27, t_Mo, rfl, by decide, gw_614, li_Mo, to_Mo, n_Mo, by decide +kernel, rfl, fun _ => rfl⟩
theorem gp_Mo_69 : gj_pok "RateBreaksModel" 69 5 19 (.array .int) true := ⟨R_Mo, F_Mo, 27, t_Mo, rfl, by decide, gw_615, li_Mo, to_Mo, n_Mo, by decide +kernel, rfl, fun _ => rfl⟩
theorem gp_Mo_72 : gj_pok "RateBreaksModel" 72 5 20 (.int) false := ⟨R_Mo, F_Mo, 27, t_Mo, rfl, by decide, gw_616, li_Mo, to_Mo, n_Mo, by decide +kernel, rfl, fun h => nomatch h⟩
theorem gp_Mo_75 : gj_pok "RateBreaksModel" 75 5 21 (.array .int) true := ⟨R_Mo, F_Mo, 27, t_Mo, rfl, by decide, gw_617, li_Mo, to_Mo, n_Mo, by decide +kernel, rfl, fun _ => rfl⟩
theorem gp_Mo_78 : gj_pok "RateBreaksModel" 78 5 22 (.array .int) true := ⟨R_Mo, F_Mo, 27, t_Mo, rfl, by decide, gw_618, li_Mo, to_Mo, n_Mo, by decide +kernel, rfl, fun _ => rfl⟩
theorem gp_Mo_81 : gj_pok "RateBreaksModel" 81 5 23 (.array .int) true := ⟨R_Mo, F_Mo, 27, t_Mo, rfl, by decide, gw_619, li_Mo, to_Mo, n_Mo, by decide +kernel, rfl, fun _ => rfl⟩
theorem gp_Mo_84 : gj_pok "RateBreaksModel" 84 5 24 (.array .int) true := ⟨R_Mo, F_Mo, 27, t_Mo, rfl, by decide, gw_620, li_Mo, to_Mo, n_Mo, by decide +kernel, rfl, fun _ => rfl⟩
theorem gp_Mo_87 : gj_pok "RateBreaksModel" 87 5 25 (.array .int) true := ⟨R_Mo, F_Mo, 27, t_Mo, rfl, by decide, gw_621, li_Mo, to_Mo, n_Mo, by decide +kernel, rfl, fun _ => rfl⟩
theorem gp_Mo_90 : gj_pok "RateBreaksModel" 90 5 26 (.array .int) true := ⟨R_Mo, F_Mo, 27, t_Mo, rfl, by decide, gw_622, li_Mo, to_Mo, n_Mo, by decide +kernel, rfl, fun _ => rfl⟩
theorem gf_Mo_7 : gj_fok "RateBreaksModel" 7 5 0 := ⟨R_Mo, F_Mo, 27, rfl, by decide, gw_596, li_Mo⟩
theorem gf_Mo_17 : gj_fok "RateBreaksModel" 17 5 2 := ⟨R_Mo, F_Mo, 27, rfl, by decide, gw_598, li_Mo⟩
theorem gf_Mo_13 : gj_fok "RateBreaksModel" 13 5 1 := ⟨R_Mo, F_Mo, 27, rfl, by decide, gw_597, li_Mo⟩
theorem gf_Mo_32 : gj_fok "RateBreaksModel" 32 5 7 := ⟨R_Mo, F_Mo, 27, rfl, by decide, gw_603, li_Mo⟩
theorem gf_Mo_26 : gj_fok "RateBreaksModel" 26 5 5 := ⟨R_Mo, F_Mo, 27, rfl, by decide, gw_601, li_Mo⟩
theorem gf_Mo_20 : gj_fok "RateBreaksModel" 20 5 3 := ⟨R_Mo, F_Mo, 27, rfl, by decide, gw_599, li_Mo⟩
theorem gf_Mo_23 : gj_fok "RateBreaksModel" 23 5 4 := ⟨R_Mo, F_Mo, 27, rfl, by decide, gw_600, li_Mo⟩
theorem gf_Mo_29 : gj_fok "RateBreaksModel" 29 5 6 := ⟨R_Mo, F_Mo, 27, rfl, by decide, gw_602, li_Mo⟩
theorem gf_Mo_35 : gj_fok "RateBreaksModel" 35 5 8 := ⟨R_Mo, F_Mo, 27, rfl, by decide, gw_604, li_Mo⟩
theorem gf_Mo_42 : gj_fok "RateBreaksModel" 42 5 10 := ⟨R_Mo, F_Mo, 27, rfl, by decide, gw_606, li_Mo⟩
theorem gf_Mo_45 : gj_fok "RateBreaksModel" 45 5 11 := ⟨R_Mo, F_Mo, 27, rfl, by decide, gw_607, li_Mo⟩
theorem gf_Mo_48 : gj_fok "RateBreaksModel" 48 5 12 := ⟨R_Mo, F_Mo, 27, rfl, by decide, gw_608, li_Mo⟩
theorem gf_Mo_51 : gj_fok "RateBreaksModel" 51 5 13 := ⟨R_Mo, F_Mo, 27, rfl, by decide, gw_609, li_Mo⟩
theorem gf_Mo_54 : gj_fok "RateBreaksModel" 54 5 14 := ⟨R_Mo, F_Mo, 27, rfl, by decide, gw_610, li_Mo⟩
theorem gf_Mo_57 : gj_fok "RateBreaksModel" 57 5 15 := ⟨R_Mo, F_Mo, 27, rfl, by decide, gw_611, li_Mo⟩
theorem gf_Mo_38 : gj_fok "RateBreaksModel" 38 5 9 := ⟨R_Mo, F_Mo, 27, rfl, by decide, gw_605, li_Mo⟩
theorem gf_Mo_60 : gj_fok "RateBreaksModel" 60 5 16 := ⟨R_Mo, F_Mo, 27, rfl, by decide, gw_612, li_Mo⟩
theorem gf_Mo_63 : gj_fok "RateBreaksModel" 63 5 17 := ⟨R_Mo, F_Mo, 27, rfl, by decide, gw_613, li_Mo⟩
theorem gf_Mo_66 : gj_fok "RateBreaksModel" 66 5 18 := ⟨R_Mo, F_Mo, 27, rfl, by decide, gw_614, li_Mo⟩
theorem gf_Mo_69 : gj_fok "RateBreaksModel" 69 5 19 := ⟨R_Mo, F_Mo, 27, rfl, by decide, gw_615, li_Mo⟩
theorem gf_Mo_84 : gj_fok "RateBreaksModel" 84 5 24 := ⟨R_Mo, F_Mo, 27, rfl, by decide, gw_620, li_Mo⟩
theorem gf_Mo_87 : gj_fok "RateBreaksModel" 87 5 25 := ⟨R_Mo, F_Mo, 27, rfl, by decide, gw_621, li_Mo⟩
theorem gf_Mo_90 : gj_fok "RateBreaksModel" 90 5 26 := ⟨R_Mo, F_Mo, 27, rfl, by decide, gw_622, li_Mo⟩
theorem gf_Mo_72 : gj_fok "RateBreaksModel" 72 5 20 := ⟨R_Mo, F_Mo, 27, rfl, by decide, gw_616, li_Mo⟩
theorem gf_Mo_75 : gj_fok "RateBreaksModel" 75 5 21 := ⟨R_Mo, F_Mo, 27, rfl, by decide, gw_617, li_Mo⟩
theorem gf_Mo_78 : gj_fok "RateBreaksModel" 78 5 22 := ⟨R_Mo, F_Mo, 27, rfl, by decide, gw_618, li_Mo⟩
theorem gf_Mo_81 : gj_fok "RateBreaksModel" 81 5 23 := ⟨R_Mo, F_Mo, 27, rfl, by decide, gw_619, li_Mo⟩
theorem gn_La_8 : gj_nok "RateBreaksLaw" 8 0 8 [.null, .null, .null, .null, .int 0, .null, .null, .null] := ⟨R_RB, F_RB, t_RB, rfl, li_RB, to_RB, gw_35, gw_36, gw_20, fun j hj => by (rcases (show j = 0 ∨ j = 1 ∨ j = 2 ∨ j = 3 ∨ j = 4 ∨ j = 5 ∨ j = 6 ∨ j = 7 by omega) with rfl | rfl | rfl | rfl | rfl | rfl | rfl | rfl) <;> rfl, fun _ => rfl, fun _ v hv => by simp at hv; rcases hv with rfl | rfl | rfl | rfl | rfl | rfl | rfl | rfl <;> trivial⟩
theorem gn_La_70 : gj_nok "RateBreaksLaw" 70 5 27 [.int 0, .null, .int 0, .int 0, .null, .int 0, .null, .int 0, .int 0, .null, .null, .null, .null, .null, .null, .null, .null, .null, .null, .null, .int 0, .null, .null, .null, .null, .null, .null] := ⟨R_Mo, F_Mo, t_Mo, rfl, li_Mo, to_Mo, gw_590, gw_591, gw_25, fun j hj => by (rcases (show j = 0 ∨ j = 1 ∨ j = 2 ∨ j = 3 ∨ j = 4 ∨ j = 5 ∨ j = 6 ∨ j = 7 ∨ j = 8 ∨ j = 9 ∨ j = 10 ∨ j = 11 ∨ j = 12 ∨ j = 13 ∨ j = 14 ∨ j = 15 ∨ j = 16 ∨ j = 17 ∨ j = 18 ∨ j = 19 ∨ j = 20 ∨ j = 21 ∨ j = 22 ∨ j = 23 ∨ j = 24 ∨ j = 25 ∨ j = 26 by omega) with rfl | rfl | rfl | rfl | rfl | rfl | rfl | rfl | rfl | rfl | rfl | rfl | rfl | rfl | rfl | rfl | rfl | rfl | rfl | rfl | rfl | rfl | rfl | rfl | rfl | rfl | rfl) <;> rfl, fun _ => rfl, fun _ v hv => by simp at hv; rcases hv with rfl | rfl | rfl | rfl | rfl | rfl | rfl | rfl | rfl | rfl | rfl | rfl | rfl | rfl | rfl | rfl | rfl | rfl | rfl | rfl | rfl | rfl | rfl | rfl | rfl | rfl | rfl <;> trivial⟩
