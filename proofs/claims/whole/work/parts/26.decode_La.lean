theorem d_La_sign_0 : decode method_3_code 0 = .ok (.aload_n 2, 1) := by decide +kernel
theorem d_La_sign_1 : decode method_3_code 1 = .ok (.iconst 0, 1) := by decide +kernel
theorem d_La_sign_2 : decode method_3_code 2 = .ok (.aload_n 0, 1) := by decide +kernel
theorem d_La_sign_3 : decode method_3_code 3 = .ok (.iload_n 1, 1) := by decide +kernel
theorem d_La_sign_4 : decode method_3_code 4 = .ok (.invokevirtual 7, 3) := by decide +kernel
theorem d_La_sign_7 : decode method_3_code 7 = .ok (.i2l, 1) := by decide +kernel
theorem d_La_sign_8 : decode method_3_code 8 = .ok (.lastore, 1) := by decide +kernel
theorem d_La_sign_9 : decode method_3_code 9 = .ok (.goto 9, 3) := by decide +kernel
theorem d_La_sign_12 : decode method_3_code 12 = .ok (.astore_n 3, 1) := by decide +kernel
theorem d_La_sign_13 : decode method_3_code 13 = .ok (.iconst 1, 1) := by decide +kernel
theorem d_La_sign_14 : decode method_3_code 14 = .ok (.ireturn, 1) := by decide +kernel
theorem d_La_sign_15 : decode method_3_code 15 = .ok (.astore_n 3, 1) := by decide +kernel
theorem d_La_sign_16 : decode method_3_code 16 = .ok (.iconst 2, 1) := by decide +kernel
theorem d_La_sign_17 : decode method_3_code 17 = .ok (.ireturn, 1) := by decide +kernel
theorem d_La_sign_18 : decode method_3_code 18 = .ok (.iconst 0, 1) := by decide +kernel
theorem d_La_sign_19 : decode method_3_code 19 = .ok (.ireturn, 1) := by decide +kernel
theorem d_La_shipment_0 : decode method_4_code 0 = .ok (.aload 4, 2) := by decide +kernel
theorem d_La_shipment_2 : decode method_4_code 2 = .ok (.iconst 0, 1) := by decide +kernel
theorem d_La_shipment_3 : decode method_4_code 3 = .ok (.aload_n 0, 1) := by decide +kernel
theorem d_La_shipment_4 : decode method_4_code 4 = .ok (.iload_n 1, 1) := by decide +kernel
theorem d_La_shipment_5 : decode method_4_code 5 = .ok (.iload_n 2, 1) := by decide +kernel
theorem d_La_shipment_6 : decode method_4_code 6 = .ok (.iload_n 3, 1) := by decide +kernel
theorem d_La_shipment_7 : decode method_4_code 7 = .ok (.invokevirtual 17, 3) := by decide +kernel
theorem d_La_shipment_10 : decode method_4_code 10 = .ok (.i2l, 1) := by decide +kernel
theorem d_La_shipment_11 : decode method_4_code 11 = .ok (.lastore, 1) := by decide +kernel
theorem d_La_shipment_12 : decode method_4_code 12 = .ok (.goto 11, 3) := by decide +kernel
theorem d_La_shipment_15 : decode method_4_code 15 = .ok (.astore 5, 2) := by decide +kernel
theorem d_La_shipment_17 : decode method_4_code 17 = .ok (.iconst 1, 1) := by decide +kernel
theorem d_La_shipment_18 : decode method_4_code 18 = .ok (.ireturn, 1) := by decide +kernel
theorem d_La_shipment_19 : decode method_4_code 19 = .ok (.astore 5, 2) := by decide +kernel
theorem d_La_shipment_21 : decode method_4_code 21 = .ok (.iconst 2, 1) := by decide +kernel
theorem d_La_shipment_22 : decode method_4_code 22 = .ok (.ireturn, 1) := by decide +kernel
theorem d_La_shipment_23 : decode method_4_code 23 = .ok (.iconst 0, 1) := by decide +kernel
theorem d_La_shipment_24 : decode method_4_code 24 = .ok (.ireturn, 1) := by decide +kernel
theorem d_La_weight_0 : decode method_5_code 0 = .ok (.aload_n 3, 1) := by decide +kernel
theorem d_La_weight_1 : decode method_5_code 1 = .ok (.iconst 0, 1) := by decide +kernel
theorem d_La_weight_2 : decode method_5_code 2 = .ok (.aload_n 0, 1) := by decide +kernel
theorem d_La_weight_3 : decode method_5_code 3 = .ok (.iload_n 1, 1) := by decide +kernel
theorem d_La_weight_4 : decode method_5_code 4 = .ok (.iload_n 2, 1) := by decide +kernel
theorem d_La_weight_5 : decode method_5_code 5 = .ok (.invokevirtual 21, 3) := by decide +kernel
theorem d_La_weight_8 : decode method_5_code 8 = .ok (.i2l, 1) := by decide +kernel
theorem d_La_weight_9 : decode method_5_code 9 = .ok (.lastore, 1) := by decide +kernel
theorem d_La_weight_10 : decode method_5_code 10 = .ok (.goto 15, 3) := by decide +kernel
theorem d_La_weight_13 : decode method_5_code 13 = .ok (.astore 4, 2) := by decide +kernel
theorem d_La_weight_15 : decode method_5_code 15 = .ok (.iconst 1, 1) := by decide +kernel
theorem d_La_weight_16 : decode method_5_code 16 = .ok (.ireturn, 1) := by decide +kernel
theorem d_La_weight_17 : decode method_5_code 17 = .ok (.astore 4, 2) := by decide +kernel
theorem d_La_weight_19 : decode method_5_code 19 = .ok (.iconst 2, 1) := by decide +kernel
theorem d_La_weight_20 : decode method_5_code 20 = .ok (.ireturn, 1) := by decide +kernel
theorem d_La_weight_21 : decode method_5_code 21 = .ok (.astore 4, 2) := by decide +kernel
theorem d_La_weight_23 : decode method_5_code 23 = .ok (.iconst 3, 1) := by decide +kernel
theorem d_La_weight_24 : decode method_5_code 24 = .ok (.ireturn, 1) := by decide +kernel
theorem d_La_weight_25 : decode method_5_code 25 = .ok (.iconst 0, 1) := by decide +kernel
theorem d_La_weight_26 : decode method_5_code 26 = .ok (.ireturn, 1) := by decide +kernel
theorem d_La_price_0 : decode method_6_code 0 = .ok (.aload_n 3, 1) := by decide +kernel
theorem d_La_price_1 : decode method_6_code 1 = .ok (.iconst 0, 1) := by decide +kernel
theorem d_La_price_2 : decode method_6_code 2 = .ok (.aload_n 0, 1) := by decide +kernel
theorem d_La_price_3 : decode method_6_code 3 = .ok (.iload_n 1, 1) := by decide +kernel
theorem d_La_price_4 : decode method_6_code 4 = .ok (.iload_n 2, 1) := by decide +kernel
theorem d_La_price_5 : decode method_6_code 5 = .ok (.invokevirtual 29, 3) := by decide +kernel
theorem d_La_price_8 : decode method_6_code 8 = .ok (.i2l, 1) := by decide +kernel
theorem d_La_price_9 : decode method_6_code 9 = .ok (.lastore, 1) := by decide +kernel
theorem d_La_price_10 : decode method_6_code 10 = .ok (.goto 15, 3) := by decide +kernel
theorem d_La_price_13 : decode method_6_code 13 = .ok (.astore 4, 2) := by decide +kernel
theorem d_La_price_15 : decode method_6_code 15 = .ok (.iconst 1, 1) := by decide +kernel
theorem d_La_price_16 : decode method_6_code 16 = .ok (.ireturn, 1) := by decide +kernel
theorem d_La_price_17 : decode method_6_code 17 = .ok (.astore 4, 2) := by decide +kernel
theorem d_La_price_19 : decode method_6_code 19 = .ok (.iconst 2, 1) := by decide +kernel
theorem d_La_price_20 : decode method_6_code 20 = .ok (.ireturn, 1) := by decide +kernel
theorem d_La_price_21 : decode method_6_code 21 = .ok (.astore 4, 2) := by decide +kernel
theorem d_La_price_23 : decode method_6_code 23 = .ok (.iconst 3, 1) := by decide +kernel
theorem d_La_price_24 : decode method_6_code 24 = .ok (.ireturn, 1) := by decide +kernel
theorem d_La_price_25 : decode method_6_code 25 = .ok (.iconst 0, 1) := by decide +kernel
theorem d_La_price_26 : decode method_6_code 26 = .ok (.ireturn, 1) := by decide +kernel
theorem d_La_cheapest_0 : decode method_7_code 0 = .ok (.aload_n 2, 1) := by decide +kernel
theorem d_La_cheapest_1 : decode method_7_code 1 = .ok (.iconst 0, 1) := by decide +kernel
theorem d_La_cheapest_2 : decode method_7_code 2 = .ok (.aload_n 0, 1) := by decide +kernel
theorem d_La_cheapest_3 : decode method_7_code 3 = .ok (.iload_n 1, 1) := by decide +kernel
theorem d_La_cheapest_4 : decode method_7_code 4 = .ok (.invokevirtual 32, 3) := by decide +kernel
theorem d_La_cheapest_7 : decode method_7_code 7 = .ok (.i2l, 1) := by decide +kernel
theorem d_La_cheapest_8 : decode method_7_code 8 = .ok (.lastore, 1) := by decide +kernel
theorem d_La_cheapest_9 : decode method_7_code 9 = .ok (.goto 6, 3) := by decide +kernel
theorem d_La_cheapest_12 : decode method_7_code 12 = .ok (.astore_n 3, 1) := by decide +kernel
theorem d_La_cheapest_13 : decode method_7_code 13 = .ok (.iconst 1, 1) := by decide +kernel
theorem d_La_cheapest_14 : decode method_7_code 14 = .ok (.ireturn, 1) := by decide +kernel
theorem d_La_cheapest_15 : decode method_7_code 15 = .ok (.iconst 0, 1) := by decide +kernel
theorem d_La_cheapest_16 : decode method_7_code 16 = .ok (.ireturn, 1) := by decide +kernel
theorem d_La_parcels_0 : decode method_8_code 0 = .ok (.aload_n 3, 1) := by decide +kernel
theorem d_La_parcels_1 : decode method_8_code 1 = .ok (.iconst 0, 1) := by decide +kernel
theorem d_La_parcels_2 : decode method_8_code 2 = .ok (.aload_n 0, 1) := by decide +kernel
theorem d_La_parcels_3 : decode method_8_code 3 = .ok (.iload_n 1, 1) := by decide +kernel
theorem d_La_parcels_4 : decode method_8_code 4 = .ok (.iload_n 2, 1) := by decide +kernel
theorem d_La_parcels_5 : decode method_8_code 5 = .ok (.invokevirtual 35, 3) := by decide +kernel
theorem d_La_parcels_8 : decode method_8_code 8 = .ok (.i2l, 1) := by decide +kernel
theorem d_La_parcels_9 : decode method_8_code 9 = .ok (.lastore, 1) := by decide +kernel
theorem d_La_parcels_10 : decode method_8_code 10 = .ok (.goto 11, 3) := by decide +kernel
theorem d_La_parcels_13 : decode method_8_code 13 = .ok (.astore 4, 2) := by decide +kernel
theorem d_La_parcels_15 : decode method_8_code 15 = .ok (.iconst 1, 1) := by decide +kernel
theorem d_La_parcels_16 : decode method_8_code 16 = .ok (.ireturn, 1) := by decide +kernel
theorem d_La_parcels_17 : decode method_8_code 17 = .ok (.astore 4, 2) := by decide +kernel
theorem d_La_parcels_19 : decode method_8_code 19 = .ok (.iconst 2, 1) := by decide +kernel
theorem d_La_parcels_20 : decode method_8_code 20 = .ok (.ireturn, 1) := by decide +kernel
theorem d_La_parcels_21 : decode method_8_code 21 = .ok (.iconst 0, 1) := by decide +kernel
theorem d_La_parcels_22 : decode method_8_code 22 = .ok (.ireturn, 1) := by decide +kernel
theorem d_La_contract_0 : decode method_9_code 0 = .ok (.aload 5, 2) := by decide +kernel
theorem d_La_contract_2 : decode method_9_code 2 = .ok (.iconst 0, 1) := by decide +kernel
theorem d_La_contract_3 : decode method_9_code 3 = .ok (.aload_n 0, 1) := by decide +kernel
theorem d_La_contract_4 : decode method_9_code 4 = .ok (.iload_n 1, 1) := by decide +kernel
theorem d_La_contract_5 : decode method_9_code 5 = .ok (.iload_n 2, 1) := by decide +kernel
theorem d_La_contract_6 : decode method_9_code 6 = .ok (.iload_n 3, 1) := by decide +kernel
theorem d_La_contract_7 : decode method_9_code 7 = .ok (.iload 4, 2) := by decide +kernel
theorem d_La_contract_9 : decode method_9_code 9 = .ok (.invokevirtual 38, 3) := by decide +kernel
theorem d_La_contract_12 : decode method_9_code 12 = .ok (.i2l, 1) := by decide +kernel
theorem d_La_contract_13 : decode method_9_code 13 = .ok (.lastore, 1) := by decide +kernel
theorem d_La_contract_14 : decode method_9_code 14 = .ok (.goto 11, 3) := by decide +kernel
theorem d_La_contract_17 : decode method_9_code 17 = .ok (.astore 6, 2) := by decide +kernel
theorem d_La_contract_19 : decode method_9_code 19 = .ok (.iconst 1, 1) := by decide +kernel
theorem d_La_contract_20 : decode method_9_code 20 = .ok (.ireturn, 1) := by decide +kernel
theorem d_La_contract_21 : decode method_9_code 21 = .ok (.astore 6, 2) := by decide +kernel
theorem d_La_contract_23 : decode method_9_code 23 = .ok (.iconst 2, 1) := by decide +kernel
theorem d_La_contract_24 : decode method_9_code 24 = .ok (.ireturn, 1) := by decide +kernel
theorem d_La_contract_25 : decode method_9_code 25 = .ok (.iconst 0, 1) := by decide +kernel
theorem d_La_contract_26 : decode method_9_code 26 = .ok (.ireturn, 1) := by decide +kernel
theorem d_La_book_0 : decode method_10_code 0 = .ok (.aload_n 3, 1) := by decide +kernel
theorem d_La_book_1 : decode method_10_code 1 = .ok (.iconst 0, 1) := by decide +kernel
theorem d_La_book_2 : decode method_10_code 2 = .ok (.aload_n 0, 1) := by decide +kernel
theorem d_La_book_3 : decode method_10_code 3 = .ok (.iload_n 1, 1) := by decide +kernel
theorem d_La_book_4 : decode method_10_code 4 = .ok (.iload_n 2, 1) := by decide +kernel
theorem d_La_book_5 : decode method_10_code 5 = .ok (.invokevirtual 42, 3) := by decide +kernel
theorem d_La_book_8 : decode method_10_code 8 = .ok (.i2l, 1) := by decide +kernel
theorem d_La_book_9 : decode method_10_code 9 = .ok (.lastore, 1) := by decide +kernel
theorem d_La_book_10 : decode method_10_code 10 = .ok (.goto 19, 3) := by decide +kernel
theorem d_La_book_13 : decode method_10_code 13 = .ok (.astore 4, 2) := by decide +kernel
theorem d_La_book_15 : decode method_10_code 15 = .ok (.iconst 1, 1) := by decide +kernel
theorem d_La_book_16 : decode method_10_code 16 = .ok (.ireturn, 1) := by decide +kernel
theorem d_La_book_17 : decode method_10_code 17 = .ok (.astore 4, 2) := by decide +kernel
theorem d_La_book_19 : decode method_10_code 19 = .ok (.iconst 2, 1) := by decide +kernel
theorem d_La_book_20 : decode method_10_code 20 = .ok (.ireturn, 1) := by decide +kernel
theorem d_La_book_21 : decode method_10_code 21 = .ok (.astore 4, 2) := by decide +kernel
theorem d_La_book_23 : decode method_10_code 23 = .ok (.iconst 3, 1) := by decide +kernel
theorem d_La_book_24 : decode method_10_code 24 = .ok (.ireturn, 1) := by decide +kernel
theorem d_La_book_25 : decode method_10_code 25 = .ok (.astore 4, 2) := by decide +kernel
theorem d_La_book_27 : decode method_10_code 27 = .ok (.iconst 4, 1) := by decide +kernel
theorem d_La_book_28 : decode method_10_code 28 = .ok (.ireturn, 1) := by decide +kernel
theorem d_La_book_29 : decode method_10_code 29 = .ok (.iconst 0, 1) := by decide +kernel
theorem d_La_book_30 : decode method_10_code 30 = .ok (.ireturn, 1) := by decide +kernel
theorem d_La_combine_0 : decode method_11_code 0 = .ok (.aload_n 3, 1) := by decide +kernel
theorem d_La_combine_1 : decode method_11_code 1 = .ok (.iconst 0, 1) := by decide +kernel
theorem d_La_combine_2 : decode method_11_code 2 = .ok (.aload_n 0, 1) := by decide +kernel
theorem d_La_combine_3 : decode method_11_code 3 = .ok (.iload_n 1, 1) := by decide +kernel
theorem d_La_combine_4 : decode method_11_code 4 = .ok (.iload_n 2, 1) := by decide +kernel
theorem d_La_combine_5 : decode method_11_code 5 = .ok (.invokevirtual 47, 3) := by decide +kernel
theorem d_La_combine_8 : decode method_11_code 8 = .ok (.i2l, 1) := by decide +kernel
theorem d_La_combine_9 : decode method_11_code 9 = .ok (.lastore, 1) := by decide +kernel
theorem d_La_combine_10 : decode method_11_code 10 = .ok (.goto 11, 3) := by decide +kernel
theorem d_La_combine_13 : decode method_11_code 13 = .ok (.astore 4, 2) := by decide +kernel
theorem d_La_combine_15 : decode method_11_code 15 = .ok (.iconst 1, 1) := by decide +kernel
theorem d_La_combine_16 : decode method_11_code 16 = .ok (.ireturn, 1) := by decide +kernel
theorem d_La_combine_17 : decode method_11_code 17 = .ok (.astore 4, 2) := by decide +kernel
theorem d_La_combine_19 : decode method_11_code 19 = .ok (.iconst 2, 1) := by decide +kernel
theorem d_La_combine_20 : decode method_11_code 20 = .ok (.ireturn, 1) := by decide +kernel
theorem d_La_combine_21 : decode method_11_code 21 = .ok (.iconst 0, 1) := by decide +kernel
theorem d_La_combine_22 : decode method_11_code 22 = .ok (.ireturn, 1) := by decide +kernel
theorem d_La_invoice_0 : decode method_12_code 0 = .ok (.aload_n 3, 1) := by decide +kernel
theorem d_La_invoice_1 : decode method_12_code 1 = .ok (.iconst 0, 1) := by decide +kernel
theorem d_La_invoice_2 : decode method_12_code 2 = .ok (.aload_n 0, 1) := by decide +kernel
theorem d_La_invoice_3 : decode method_12_code 3 = .ok (.iload_n 1, 1) := by decide +kernel
theorem d_La_invoice_4 : decode method_12_code 4 = .ok (.iload_n 2, 1) := by decide +kernel
theorem d_La_invoice_5 : decode method_12_code 5 = .ok (.invokevirtual 50, 3) := by decide +kernel
theorem d_La_invoice_8 : decode method_12_code 8 = .ok (.i2l, 1) := by decide +kernel
theorem d_La_invoice_9 : decode method_12_code 9 = .ok (.lastore, 1) := by decide +kernel
theorem d_La_invoice_10 : decode method_12_code 10 = .ok (.goto 15, 3) := by decide +kernel
theorem d_La_invoice_13 : decode method_12_code 13 = .ok (.astore 4, 2) := by decide +kernel
theorem d_La_invoice_15 : decode method_12_code 15 = .ok (.iconst 1, 1) := by decide +kernel
theorem d_La_invoice_16 : decode method_12_code 16 = .ok (.ireturn, 1) := by decide +kernel
theorem d_La_invoice_17 : decode method_12_code 17 = .ok (.astore 4, 2) := by decide +kernel
theorem d_La_invoice_19 : decode method_12_code 19 = .ok (.iconst 2, 1) := by decide +kernel
theorem d_La_invoice_20 : decode method_12_code 20 = .ok (.ireturn, 1) := by decide +kernel
theorem d_La_invoice_21 : decode method_12_code 21 = .ok (.astore 4, 2) := by decide +kernel
theorem d_La_invoice_23 : decode method_12_code 23 = .ok (.iconst 3, 1) := by decide +kernel
theorem d_La_invoice_24 : decode method_12_code 24 = .ok (.ireturn, 1) := by decide +kernel
theorem d_La_invoice_25 : decode method_12_code 25 = .ok (.iconst 0, 1) := by decide +kernel
theorem d_La_invoice_26 : decode method_12_code 26 = .ok (.ireturn, 1) := by decide +kernel
theorem d_La_refund_0 : decode method_13_code 0 = .ok (.aload_n 3, 1) := by decide +kernel
theorem d_La_refund_1 : decode method_13_code 1 = .ok (.iconst 0, 1) := by decide +kernel
theorem d_La_refund_2 : decode method_13_code 2 = .ok (.aload_n 0, 1) := by decide +kernel
theorem d_La_refund_3 : decode method_13_code 3 = .ok (.iload_n 1, 1) := by decide +kernel
theorem d_La_refund_4 : decode method_13_code 4 = .ok (.iload_n 2, 1) := by decide +kernel
theorem d_La_refund_5 : decode method_13_code 5 = .ok (.invokevirtual 53, 3) := by decide +kernel
theorem d_La_refund_8 : decode method_13_code 8 = .ok (.i2l, 1) := by decide +kernel
theorem d_La_refund_9 : decode method_13_code 9 = .ok (.lastore, 1) := by decide +kernel
theorem d_La_refund_10 : decode method_13_code 10 = .ok (.goto 15, 3) := by decide +kernel
theorem d_La_refund_13 : decode method_13_code 13 = .ok (.astore 4, 2) := by decide +kernel
theorem d_La_refund_15 : decode method_13_code 15 = .ok (.iconst 1, 1) := by decide +kernel
theorem d_La_refund_16 : decode method_13_code 16 = .ok (.ireturn, 1) := by decide +kernel
theorem d_La_refund_17 : decode method_13_code 17 = .ok (.astore 4, 2) := by decide +kernel
theorem d_La_refund_19 : decode method_13_code 19 = .ok (.iconst 2, 1) := by decide +kernel
theorem d_La_refund_20 : decode method_13_code 20 = .ok (.ireturn, 1) := by decide +kernel
theorem d_La_refund_21 : decode method_13_code 21 = .ok (.astore 4, 2) := by decide +kernel
theorem d_La_refund_23 : decode method_13_code 23 = .ok (.iconst 3, 1) := by decide +kernel
theorem d_La_refund_24 : decode method_13_code 24 = .ok (.ireturn, 1) := by decide +kernel
theorem d_La_refund_25 : decode method_13_code 25 = .ok (.iconst 0, 1) := by decide +kernel
theorem d_La_refund_26 : decode method_13_code 26 = .ok (.ireturn, 1) := by decide +kernel
theorem d_La_differ_0 : decode method_14_code 0 = .ok (.aload_n 2, 1) := by decide +kernel
theorem d_La_differ_1 : decode method_14_code 1 = .ok (.iconst 0, 1) := by decide +kernel
theorem d_La_differ_2 : decode method_14_code 2 = .ok (.aload_n 0, 1) := by decide +kernel
theorem d_La_differ_3 : decode method_14_code 3 = .ok (.iload_n 1, 1) := by decide +kernel
theorem d_La_differ_4 : decode method_14_code 4 = .ok (.invokevirtual 56, 3) := by decide +kernel
theorem d_La_differ_7 : decode method_14_code 7 = .ok (.i2l, 1) := by decide +kernel
theorem d_La_differ_8 : decode method_14_code 8 = .ok (.lastore, 1) := by decide +kernel
theorem d_La_differ_9 : decode method_14_code 9 = .ok (.goto 6, 3) := by decide +kernel
theorem d_La_differ_12 : decode method_14_code 12 = .ok (.astore_n 3, 1) := by decide +kernel
theorem d_La_differ_13 : decode method_14_code 13 = .ok (.iconst 1, 1) := by decide +kernel
theorem d_La_differ_14 : decode method_14_code 14 = .ok (.ireturn, 1) := by decide +kernel
theorem d_La_differ_15 : decode method_14_code 15 = .ok (.iconst 0, 1) := by decide +kernel
theorem d_La_differ_16 : decode method_14_code 16 = .ok (.ireturn, 1) := by decide +kernel
theorem d_La_currency_0 : decode method_15_code 0 = .ok (.aload 4, 2) := by decide +kernel
theorem d_La_currency_2 : decode method_15_code 2 = .ok (.iconst 0, 1) := by decide +kernel
theorem d_La_currency_3 : decode method_15_code 3 = .ok (.aload_n 0, 1) := by decide +kernel
theorem d_La_currency_4 : decode method_15_code 4 = .ok (.iload_n 1, 1) := by decide +kernel
theorem d_La_currency_5 : decode method_15_code 5 = .ok (.iload_n 2, 1) := by decide +kernel
theorem d_La_currency_6 : decode method_15_code 6 = .ok (.iload_n 3, 1) := by decide +kernel
theorem d_La_currency_7 : decode method_15_code 7 = .ok (.invokevirtual 59, 3) := by decide +kernel
theorem d_La_currency_10 : decode method_15_code 10 = .ok (.i2l, 1) := by decide +kernel
theorem d_La_currency_11 : decode method_15_code 11 = .ok (.lastore, 1) := by decide +kernel
theorem d_La_currency_12 : decode method_15_code 12 = .ok (.goto 11, 3) := by decide +kernel
theorem d_La_currency_15 : decode method_15_code 15 = .ok (.astore 5, 2) := by decide +kernel
theorem d_La_currency_17 : decode method_15_code 17 = .ok (.iconst 1, 1) := by decide +kernel
theorem d_La_currency_18 : decode method_15_code 18 = .ok (.ireturn, 1) := by decide +kernel
theorem d_La_currency_19 : decode method_15_code 19 = .ok (.astore 5, 2) := by decide +kernel
theorem d_La_currency_21 : decode method_15_code 21 = .ok (.iconst 2, 1) := by decide +kernel
theorem d_La_currency_22 : decode method_15_code 22 = .ok (.ireturn, 1) := by decide +kernel
theorem d_La_currency_23 : decode method_15_code 23 = .ok (.iconst 0, 1) := by decide +kernel
theorem d_La_currency_24 : decode method_15_code 24 = .ok (.ireturn, 1) := by decide +kernel
theorem d_La_converted_0 : decode method_16_code 0 = .ok (.aload_n 3, 1) := by decide +kernel
theorem d_La_converted_1 : decode method_16_code 1 = .ok (.iconst 0, 1) := by decide +kernel
theorem d_La_converted_2 : decode method_16_code 2 = .ok (.aload_n 0, 1) := by decide +kernel
theorem d_La_converted_3 : decode method_16_code 3 = .ok (.iload_n 1, 1) := by decide +kernel
theorem d_La_converted_4 : decode method_16_code 4 = .ok (.iload_n 2, 1) := by decide +kernel
theorem d_La_converted_5 : decode method_16_code 5 = .ok (.invokevirtual 62, 3) := by decide +kernel
theorem d_La_converted_8 : decode method_16_code 8 = .ok (.lastore, 1) := by decide +kernel
theorem d_La_converted_9 : decode method_16_code 9 = .ok (.goto 7, 3) := by decide +kernel
theorem d_La_converted_12 : decode method_16_code 12 = .ok (.astore 4, 2) := by decide +kernel
theorem d_La_converted_14 : decode method_16_code 14 = .ok (.iconst 1, 1) := by decide +kernel
theorem d_La_converted_15 : decode method_16_code 15 = .ok (.ireturn, 1) := by decide +kernel
theorem d_La_converted_16 : decode method_16_code 16 = .ok (.iconst 0, 1) := by decide +kernel
theorem d_La_converted_17 : decode method_16_code 17 = .ok (.ireturn, 1) := by decide +kernel
theorem d_La_told_0 : decode method_17_code 0 = .ok (.aload_n 3, 1) := by decide +kernel
theorem d_La_told_1 : decode method_17_code 1 = .ok (.iconst 0, 1) := by decide +kernel
theorem d_La_told_2 : decode method_17_code 2 = .ok (.aload_n 0, 1) := by decide +kernel
theorem d_La_told_3 : decode method_17_code 3 = .ok (.iload_n 1, 1) := by decide +kernel
theorem d_La_told_4 : decode method_17_code 4 = .ok (.iload_n 2, 1) := by decide +kernel
theorem d_La_told_5 : decode method_17_code 5 = .ok (.invokevirtual 66, 3) := by decide +kernel
theorem d_La_told_8 : decode method_17_code 8 = .ok (.i2l, 1) := by decide +kernel
theorem d_La_told_9 : decode method_17_code 9 = .ok (.lastore, 1) := by decide +kernel
theorem d_La_told_10 : decode method_17_code 10 = .ok (.goto 11, 3) := by decide +kernel
theorem d_La_told_13 : decode method_17_code 13 = .ok (.astore 4, 2) := by decide +kernel
theorem d_La_told_15 : decode method_17_code 15 = .ok (.iconst 1, 1) := by decide +kernel
theorem d_La_told_16 : decode method_17_code 16 = .ok (.ireturn, 1) := by decide +kernel
theorem d_La_told_17 : decode method_17_code 17 = .ok (.astore 4, 2) := by decide +kernel
theorem d_La_told_19 : decode method_17_code 19 = .ok (.iconst 2, 1) := by decide +kernel
theorem d_La_told_20 : decode method_17_code 20 = .ok (.ireturn, 1) := by decide +kernel
theorem d_La_told_21 : decode method_17_code 21 = .ok (.iconst 0, 1) := by decide +kernel
theorem d_La_told_22 : decode method_17_code 22 = .ok (.ireturn, 1) := by decide +kernel
