theorem d_RB_cheapest_56 : decode prog_1_method_7_code 56 = .ok (.if_icmp .eq 10, 3) := by decide +kernel
theorem d_RB_cheapest_59 : decode prog_1_method_7_code 59 = .ok (.iload 6, 2) := by decide +kernel
theorem d_RB_cheapest_61 : decode prog_1_method_7_code 61 = .ok (.iload 4, 2) := by decide +kernel
theorem d_RB_cheapest_63 : decode prog_1_method_7_code 63 = .ok (.if_icmp .ge 10, 3) := by decide +kernel
theorem d_RB_cheapest_66 : decode prog_1_method_7_code 66 = .ok (.iload 5, 2) := by decide +kernel
theorem d_RB_cheapest_68 : decode prog_1_method_7_code 68 = .ok (.istore_n 3, 1) := by decide +kernel
theorem d_RB_cheapest_69 : decode prog_1_method_7_code 69 = .ok (.iload 6, 2) := by decide +kernel
theorem d_RB_cheapest_71 : decode prog_1_method_7_code 71 = .ok (.istore 4, 2) := by decide +kernel
theorem d_RB_cheapest_73 : decode prog_1_method_7_code 73 = .ok (.iinc 5 1, 3) := by decide +kernel
theorem d_RB_cheapest_76 : decode prog_1_method_7_code 76 = .ok (.goto (-62), 3) := by decide +kernel
theorem d_RB_cheapest_79 : decode prog_1_method_7_code 79 = .ok (.iload_n 3, 1) := by decide +kernel
theorem d_RB_cheapest_80 : decode prog_1_method_7_code 80 = .ok (.ireturn, 1) := by decide +kernel
theorem d_RB_parcels_0 : decode prog_1_method_8_code 0 = .ok (.aload_n 0, 1) := by decide +kernel
theorem d_RB_parcels_1 : decode prog_1_method_8_code 1 = .ok (.iload_n 1, 1) := by decide +kernel
theorem d_RB_parcels_2 : decode prog_1_method_8_code 2 = .ok (.invokevirtual 86, 3) := by decide +kernel
theorem d_RB_parcels_5 : decode prog_1_method_8_code 5 = .ok (.astore_n 3, 1) := by decide +kernel
theorem d_RB_parcels_6 : decode prog_1_method_8_code 6 = .ok (.iload_n 2, 1) := by decide +kernel
theorem d_RB_parcels_7 : decode prog_1_method_8_code 7 = .ok (.invokestatic 90, 3) := by decide +kernel
theorem d_RB_parcels_10 : decode prog_1_method_8_code 10 = .ok (.iload_n 2, 1) := by decide +kernel
theorem d_RB_parcels_11 : decode prog_1_method_8_code 11 = .ok (.aload_n 3, 1) := by decide +kernel
theorem d_RB_parcels_12 : decode prog_1_method_8_code 12 = .ok (.getfield 103, 3) := by decide +kernel
theorem d_RB_parcels_15 : decode prog_1_method_8_code 15 = .ok (.invokestatic 106, 3) := by decide +kernel
theorem d_RB_parcels_18 : decode prog_1_method_8_code 18 = .ok (.istore 4, 2) := by decide +kernel
theorem d_RB_parcels_20 : decode prog_1_method_8_code 20 = .ok (.aload_n 0, 1) := by decide +kernel
theorem d_RB_parcels_21 : decode prog_1_method_8_code 21 = .ok (.getfield 19, 3) := by decide +kernel
theorem d_RB_parcels_24 : decode prog_1_method_8_code 24 = .ok (.iload 4, 2) := by decide +kernel
theorem d_RB_parcels_26 : decode prog_1_method_8_code 26 = .ok (.iconst 3, 1) := by decide +kernel
theorem d_RB_parcels_27 : decode prog_1_method_8_code 27 = .ok (.iconst 0, 1) := by decide +kernel
theorem d_RB_parcels_28 : decode prog_1_method_8_code 28 = .ok (.aload_n 3, 1) := by decide +kernel
theorem d_RB_parcels_29 : decode prog_1_method_8_code 29 = .ok (.getfield 110, 3) := by decide +kernel
theorem d_RB_parcels_32 : decode prog_1_method_8_code 32 = .ok (.aload_n 3, 1) := by decide +kernel
theorem d_RB_parcels_33 : decode prog_1_method_8_code 33 = .ok (.getfield 110, 3) := by decide +kernel
theorem d_RB_parcels_36 : decode prog_1_method_8_code 36 = .ok (.invokevirtual 113, 3) := by decide +kernel
theorem d_RB_parcels_39 : decode prog_1_method_8_code 39 = .ok (.ireturn, 1) := by decide +kernel
theorem d_RB_contract_0 : decode prog_1_method_9_code 0 = .ok (.iload_n 1, 1) := by decide +kernel
theorem d_RB_contract_1 : decode prog_1_method_9_code 1 = .ok (.invokestatic 90, 3) := by decide +kernel
theorem d_RB_contract_4 : decode prog_1_method_9_code 4 = .ok (.iload_n 2, 1) := by decide +kernel
theorem d_RB_contract_5 : decode prog_1_method_9_code 5 = .ok (.iconst 0, 1) := by decide +kernel
theorem d_RB_contract_6 : decode prog_1_method_9_code 6 = .ok (.bipush 100, 2) := by decide +kernel
theorem d_RB_contract_8 : decode prog_1_method_9_code 8 = .ok (.invokestatic 53, 3) := by decide +kernel
theorem d_RB_contract_11 : decode prog_1_method_9_code 11 = .ok (.iload 4, 2) := by decide +kernel
theorem d_RB_contract_13 : decode prog_1_method_9_code 13 = .ok (.iconst 1, 1) := by decide +kernel
theorem d_RB_contract_14 : decode prog_1_method_9_code 14 = .ok (.sipush 1000, 3) := by decide +kernel
theorem d_RB_contract_17 : decode prog_1_method_9_code 17 = .ok (.invokestatic 53, 3) := by decide +kernel
theorem d_RB_contract_20 : decode prog_1_method_9_code 20 = .ok (.iload_n 3, 1) := by decide +kernel
theorem d_RB_contract_21 : decode prog_1_method_9_code 21 = .ok (.iconst 0, 1) := by decide +kernel
theorem d_RB_contract_22 : decode prog_1_method_9_code 22 = .ok (.iload 4, 2) := by decide +kernel
theorem d_RB_contract_24 : decode prog_1_method_9_code 24 = .ok (.invokestatic 53, 3) := by decide +kernel
theorem d_RB_contract_27 : decode prog_1_method_9_code 27 = .ok (.aload_n 0, 1) := by decide +kernel
theorem d_RB_contract_28 : decode prog_1_method_9_code 28 = .ok (.getfield 38, 3) := by decide +kernel
theorem d_RB_contract_31 : decode prog_1_method_9_code 31 = .ok (.iload_n 1, 1) := by decide +kernel
theorem d_RB_contract_32 : decode prog_1_method_9_code 32 = .ok (.aaload, 1) := by decide +kernel
theorem d_RB_contract_33 : decode prog_1_method_9_code 33 = .ok (.astore 5, 2) := by decide +kernel
theorem d_RB_contract_35 : decode prog_1_method_9_code 35 = .ok (.aload 5, 2) := by decide +kernel
theorem d_RB_contract_37 : decode prog_1_method_9_code 37 = .ok (.iload_n 2, 1) := by decide +kernel
theorem d_RB_contract_38 : decode prog_1_method_9_code 38 = .ok (.invokestatic 117, 3) := by decide +kernel
theorem d_RB_contract_41 : decode prog_1_method_9_code 41 = .ok (.aload 5, 2) := by decide +kernel
theorem d_RB_contract_43 : decode prog_1_method_9_code 43 = .ok (.iload_n 2, 1) := by decide +kernel
theorem d_RB_contract_44 : decode prog_1_method_9_code 44 = .ok (.iload_n 3, 1) := by decide +kernel
theorem d_RB_contract_45 : decode prog_1_method_9_code 45 = .ok (.iload 4, 2) := by decide +kernel
theorem d_RB_contract_47 : decode prog_1_method_9_code 47 = .ok (.invokevirtual 121, 3) := by decide +kernel
theorem d_RB_contract_50 : decode prog_1_method_9_code 50 = .ok (.aload 5, 2) := by decide +kernel
theorem d_RB_contract_52 : decode prog_1_method_9_code 52 = .ok (.getfield 124, 3) := by decide +kernel
theorem d_RB_contract_55 : decode prog_1_method_9_code 55 = .ok (.ireturn, 1) := by decide +kernel
theorem d_RB_needRoom_0 : decode prog_1_method_22_code 0 = .ok (.aload_n 0, 1) := by decide +kernel
theorem d_RB_needRoom_1 : decode prog_1_method_22_code 1 = .ok (.iload_n 1, 1) := by decide +kernel
theorem d_RB_needRoom_2 : decode prog_1_method_22_code 2 = .ok (.invokevirtual 196, 3) := by decide +kernel
theorem d_RB_needRoom_5 : decode prog_1_method_22_code 5 = .ok (.ifCond .ne 13, 3) := by decide +kernel
theorem d_RB_needRoom_8 : decode prog_1_method_22_code 8 = .ok (.new 60, 3) := by decide +kernel
theorem d_RB_needRoom_11 : decode prog_1_method_22_code 11 = .ok (.dup, 1) := by decide +kernel
theorem d_RB_needRoom_12 : decode prog_1_method_22_code 12 = .ok (.ldc 200, 2) := by decide +kernel
theorem d_RB_needRoom_14 : decode prog_1_method_22_code 14 = .ok (.invokespecial 64, 3) := by decide +kernel
theorem d_RB_needRoom_17 : decode prog_1_method_22_code 17 = .ok (.athrow, 1) := by decide +kernel
theorem d_RB_needRoom_18 : decode prog_1_method_22_code 18 = .ok (.return_, 1) := by decide +kernel
theorem d_RB_book_0 : decode prog_1_method_10_code 0 = .ok (.aload_n 0, 1) := by decide +kernel
theorem d_RB_book_1 : decode prog_1_method_10_code 1 = .ok (.iload_n 1, 1) := by decide +kernel
theorem d_RB_book_2 : decode prog_1_method_10_code 2 = .ok (.invokevirtual 86, 3) := by decide +kernel
theorem d_RB_book_5 : decode prog_1_method_10_code 5 = .ok (.astore_n 3, 1) := by decide +kernel
theorem d_RB_book_6 : decode prog_1_method_10_code 6 = .ok (.iload_n 2, 1) := by decide +kernel
theorem d_RB_book_7 : decode prog_1_method_10_code 7 = .ok (.invokestatic 90, 3) := by decide +kernel
theorem d_RB_book_10 : decode prog_1_method_10_code 10 = .ok (.aload_n 3, 1) := by decide +kernel
theorem d_RB_book_11 : decode prog_1_method_10_code 11 = .ok (.invokevirtual 127, 3) := by decide +kernel
theorem d_RB_book_14 : decode prog_1_method_10_code 14 = .ok (.ifCond .eq 13, 3) := by decide +kernel
theorem d_RB_book_17 : decode prog_1_method_10_code 17 = .ok (.new 131, 3) := by decide +kernel
theorem d_RB_book_20 : decode prog_1_method_10_code 20 = .ok (.dup, 1) := by decide +kernel
theorem d_RB_book_21 : decode prog_1_method_10_code 21 = .ok (.ldc 133, 2) := by decide +kernel
theorem d_RB_book_23 : decode prog_1_method_10_code 23 = .ok (.invokespecial 135, 3) := by decide +kernel
theorem d_RB_book_26 : decode prog_1_method_10_code 26 = .ok (.athrow, 1) := by decide +kernel
theorem d_RB_book_27 : decode prog_1_method_10_code 27 = .ok (.aload_n 0, 1) := by decide +kernel
theorem d_RB_book_28 : decode prog_1_method_10_code 28 = .ok (.aload_n 3, 1) := by decide +kernel
theorem d_RB_book_29 : decode prog_1_method_10_code 29 = .ok (.iload_n 2, 1) := by decide +kernel
theorem d_RB_book_30 : decode prog_1_method_10_code 30 = .ok (.invokevirtual 97, 3) := by decide +kernel
theorem d_RB_book_33 : decode prog_1_method_10_code 33 = .ok (.istore 4, 2) := by decide +kernel
theorem d_RB_book_35 : decode prog_1_method_10_code 35 = .ok (.iload 4, 2) := by decide +kernel
theorem d_RB_book_37 : decode prog_1_method_10_code 37 = .ok (.iconst (-1), 1) := by decide +kernel
theorem d_RB_book_38 : decode prog_1_method_10_code 38 = .ok (.if_icmp .ne 13, 3) := by decide +kernel
theorem d_RB_book_41 : decode prog_1_method_10_code 41 = .ok (.new 131, 3) := by decide +kernel
theorem d_RB_book_44 : decode prog_1_method_10_code 44 = .ok (.dup, 1) := by decide +kernel
theorem d_RB_book_45 : decode prog_1_method_10_code 45 = .ok (.ldc 136, 2) := by decide +kernel
theorem d_RB_book_47 : decode prog_1_method_10_code 47 = .ok (.invokespecial 135, 3) := by decide +kernel
theorem d_RB_book_50 : decode prog_1_method_10_code 50 = .ok (.athrow, 1) := by decide +kernel
theorem d_RB_book_51 : decode prog_1_method_10_code 51 = .ok (.aload_n 3, 1) := by decide +kernel
theorem d_RB_book_52 : decode prog_1_method_10_code 52 = .ok (.iload_n 2, 1) := by decide +kernel
theorem d_RB_book_53 : decode prog_1_method_10_code 53 = .ok (.putfield 138, 3) := by decide +kernel
theorem d_RB_book_56 : decode prog_1_method_10_code 56 = .ok (.aload_n 3, 1) := by decide +kernel
theorem d_RB_book_57 : decode prog_1_method_10_code 57 = .ok (.iload 4, 2) := by decide +kernel
theorem d_RB_book_59 : decode prog_1_method_10_code 59 = .ok (.putfield 141, 3) := by decide +kernel
theorem d_RB_book_62 : decode prog_1_method_10_code 62 = .ok (.aload_n 0, 1) := by decide +kernel
theorem d_RB_book_63 : decode prog_1_method_10_code 63 = .ok (.getfield 45, 3) := by decide +kernel
theorem d_RB_book_66 : decode prog_1_method_10_code 66 = .ok (.iload_n 2, 1) := by decide +kernel
theorem d_RB_book_67 : decode prog_1_method_10_code 67 = .ok (.dup2, 1) := by decide +kernel
theorem d_RB_book_68 : decode prog_1_method_10_code 68 = .ok (.iaload, 1) := by decide +kernel
theorem d_RB_book_69 : decode prog_1_method_10_code 69 = .ok (.iconst 1, 1) := by decide +kernel
theorem d_RB_book_70 : decode prog_1_method_10_code 70 = .ok (.iadd, 1) := by decide +kernel
theorem d_RB_book_71 : decode prog_1_method_10_code 71 = .ok (.iastore, 1) := by decide +kernel
theorem d_RB_book_72 : decode prog_1_method_10_code 72 = .ok (.iload 4, 2) := by decide +kernel
theorem d_RB_book_74 : decode prog_1_method_10_code 74 = .ok (.ireturn, 1) := by decide +kernel
theorem d_RB_combine_0 : decode prog_1_method_11_code 0 = .ok (.aload_n 0, 1) := by decide +kernel
theorem d_RB_combine_1 : decode prog_1_method_11_code 1 = .ok (.iload_n 1, 1) := by decide +kernel
theorem d_RB_combine_2 : decode prog_1_method_11_code 2 = .ok (.invokevirtual 86, 3) := by decide +kernel
theorem d_RB_combine_5 : decode prog_1_method_11_code 5 = .ok (.astore_n 3, 1) := by decide +kernel
theorem d_RB_combine_6 : decode prog_1_method_11_code 6 = .ok (.aload_n 0, 1) := by decide +kernel
theorem d_RB_combine_7 : decode prog_1_method_11_code 7 = .ok (.iload_n 2, 1) := by decide +kernel
theorem d_RB_combine_8 : decode prog_1_method_11_code 8 = .ok (.invokevirtual 86, 3) := by decide +kernel
theorem d_RB_combine_11 : decode prog_1_method_11_code 11 = .ok (.astore 4, 2) := by decide +kernel
theorem d_RB_combine_13 : decode prog_1_method_11_code 13 = .ok (.iload_n 1, 1) := by decide +kernel
theorem d_RB_combine_14 : decode prog_1_method_11_code 14 = .ok (.iload_n 2, 1) := by decide +kernel
theorem d_RB_combine_15 : decode prog_1_method_11_code 15 = .ok (.if_icmp .ne 13, 3) := by decide +kernel
theorem d_RB_combine_18 : decode prog_1_method_11_code 18 = .ok (.new 131, 3) := by decide +kernel
theorem d_RB_combine_21 : decode prog_1_method_11_code 21 = .ok (.dup, 1) := by decide +kernel
theorem d_RB_combine_22 : decode prog_1_method_11_code 22 = .ok (.ldc 144, 2) := by decide +kernel
theorem d_RB_combine_24 : decode prog_1_method_11_code 24 = .ok (.invokespecial 135, 3) := by decide +kernel
theorem d_RB_combine_27 : decode prog_1_method_11_code 27 = .ok (.athrow, 1) := by decide +kernel
theorem d_RB_combine_28 : decode prog_1_method_11_code 28 = .ok (.aload_n 3, 1) := by decide +kernel
theorem d_RB_combine_29 : decode prog_1_method_11_code 29 = .ok (.invokevirtual 127, 3) := by decide +kernel
theorem d_RB_combine_32 : decode prog_1_method_11_code 32 = .ok (.ifCond .ne 11, 3) := by decide +kernel
theorem d_RB_combine_35 : decode prog_1_method_11_code 35 = .ok (.aload 4, 2) := by decide +kernel
theorem d_RB_combine_37 : decode prog_1_method_11_code 37 = .ok (.invokevirtual 127, 3) := by decide +kernel
theorem d_RB_combine_40 : decode prog_1_method_11_code 40 = .ok (.ifCond .eq 13, 3) := by decide +kernel
theorem d_RB_combine_43 : decode prog_1_method_11_code 43 = .ok (.new 131, 3) := by decide +kernel
theorem d_RB_combine_46 : decode prog_1_method_11_code 46 = .ok (.dup, 1) := by decide +kernel
theorem d_RB_combine_47 : decode prog_1_method_11_code 47 = .ok (.ldc 146, 2) := by decide +kernel
theorem d_RB_combine_49 : decode prog_1_method_11_code 49 = .ok (.invokespecial 135, 3) := by decide +kernel
theorem d_RB_combine_52 : decode prog_1_method_11_code 52 = .ok (.athrow, 1) := by decide +kernel
theorem d_RB_combine_53 : decode prog_1_method_11_code 53 = .ok (.aload_n 3, 1) := by decide +kernel
theorem d_RB_combine_54 : decode prog_1_method_11_code 54 = .ok (.getfield 103, 3) := by decide +kernel
theorem d_RB_combine_57 : decode prog_1_method_11_code 57 = .ok (.aload 4, 2) := by decide +kernel
theorem d_RB_combine_59 : decode prog_1_method_11_code 59 = .ok (.getfield 103, 3) := by decide +kernel
theorem d_RB_combine_62 : decode prog_1_method_11_code 62 = .ok (.if_icmp .eq 13, 3) := by decide +kernel
theorem d_RB_combine_65 : decode prog_1_method_11_code 65 = .ok (.new 131, 3) := by decide +kernel
theorem d_RB_combine_68 : decode prog_1_method_11_code 68 = .ok (.dup, 1) := by decide +kernel
theorem d_RB_combine_69 : decode prog_1_method_11_code 69 = .ok (.ldc 148, 2) := by decide +kernel
theorem d_RB_combine_71 : decode prog_1_method_11_code 71 = .ok (.invokespecial 135, 3) := by decide +kernel
theorem d_RB_combine_74 : decode prog_1_method_11_code 74 = .ok (.athrow, 1) := by decide +kernel
theorem d_RB_combine_75 : decode prog_1_method_11_code 75 = .ok (.aload_n 3, 1) := by decide +kernel
theorem d_RB_combine_76 : decode prog_1_method_11_code 76 = .ok (.getfield 110, 3) := by decide +kernel
theorem d_RB_combine_79 : decode prog_1_method_11_code 79 = .ok (.aload 4, 2) := by decide +kernel
theorem d_RB_combine_81 : decode prog_1_method_11_code 81 = .ok (.getfield 110, 3) := by decide +kernel
theorem d_RB_combine_84 : decode prog_1_method_11_code 84 = .ok (.iadd, 1) := by decide +kernel
theorem d_RB_combine_85 : decode prog_1_method_11_code 85 = .ok (.istore 5, 2) := by decide +kernel
theorem d_RB_combine_87 : decode prog_1_method_11_code 87 = .ok (.aload_n 3, 1) := by decide +kernel
theorem d_RB_combine_88 : decode prog_1_method_11_code 88 = .ok (.getfield 150, 3) := by decide +kernel
theorem d_RB_combine_91 : decode prog_1_method_11_code 91 = .ok (.aload 4, 2) := by decide +kernel
theorem d_RB_combine_93 : decode prog_1_method_11_code 93 = .ok (.getfield 150, 3) := by decide +kernel
theorem d_RB_combine_96 : decode prog_1_method_11_code 96 = .ok (.iadd, 1) := by decide +kernel
theorem d_RB_combine_97 : decode prog_1_method_11_code 97 = .ok (.istore 6, 2) := by decide +kernel
theorem d_RB_combine_99 : decode prog_1_method_11_code 99 = .ok (.iload 5, 2) := by decide +kernel
theorem d_RB_combine_101 : decode prog_1_method_11_code 101 = .ok (.ldc 80, 2) := by decide +kernel
theorem d_RB_combine_103 : decode prog_1_method_11_code 103 = .ok (.if_icmp .gt 10, 3) := by decide +kernel
theorem d_RB_combine_106 : decode prog_1_method_11_code 106 = .ok (.iload 6, 2) := by decide +kernel
theorem d_RB_combine_108 : decode prog_1_method_11_code 108 = .ok (.ldc 81, 2) := by decide +kernel
theorem d_RB_combine_110 : decode prog_1_method_11_code 110 = .ok (.if_icmp .le 13, 3) := by decide +kernel
theorem d_RB_combine_113 : decode prog_1_method_11_code 113 = .ok (.new 131, 3) := by decide +kernel
theorem d_RB_combine_116 : decode prog_1_method_11_code 116 = .ok (.dup, 1) := by decide +kernel
theorem d_RB_combine_117 : decode prog_1_method_11_code 117 = .ok (.ldc 153, 2) := by decide +kernel
theorem d_RB_combine_119 : decode prog_1_method_11_code 119 = .ok (.invokespecial 135, 3) := by decide +kernel
theorem d_RB_combine_122 : decode prog_1_method_11_code 122 = .ok (.athrow, 1) := by decide +kernel
theorem d_RB_combine_123 : decode prog_1_method_11_code 123 = .ok (.aload_n 3, 1) := by decide +kernel
theorem d_RB_combine_124 : decode prog_1_method_11_code 124 = .ok (.iload 5, 2) := by decide +kernel
theorem d_RB_combine_126 : decode prog_1_method_11_code 126 = .ok (.putfield 110, 3) := by decide +kernel
theorem d_RB_combine_129 : decode prog_1_method_11_code 129 = .ok (.aload_n 3, 1) := by decide +kernel
theorem d_RB_combine_130 : decode prog_1_method_11_code 130 = .ok (.iload 6, 2) := by decide +kernel
theorem d_RB_combine_132 : decode prog_1_method_11_code 132 = .ok (.putfield 150, 3) := by decide +kernel
theorem d_RB_combine_135 : decode prog_1_method_11_code 135 = .ok (.aload_n 0, 1) := by decide +kernel
theorem d_RB_combine_136 : decode prog_1_method_11_code 136 = .ok (.getfield 28, 3) := by decide +kernel
theorem d_RB_combine_139 : decode prog_1_method_11_code 139 = .ok (.iload_n 2, 1) := by decide +kernel
theorem d_RB_combine_140 : decode prog_1_method_11_code 140 = .ok (.aconst_null, 1) := by decide +kernel
theorem d_RB_combine_141 : decode prog_1_method_11_code 141 = .ok (.aastore, 1) := by decide +kernel
theorem d_RB_combine_142 : decode prog_1_method_11_code 142 = .ok (.iload 5, 2) := by decide +kernel
theorem d_RB_combine_144 : decode prog_1_method_11_code 144 = .ok (.ireturn, 1) := by decide +kernel
theorem d_RB_invoice_0 : decode prog_1_method_12_code 0 = .ok (.aload_n 0, 1) := by decide +kernel
theorem d_RB_invoice_1 : decode prog_1_method_12_code 1 = .ok (.iload_n 1, 1) := by decide +kernel
theorem d_RB_invoice_2 : decode prog_1_method_12_code 2 = .ok (.invokevirtual 86, 3) := by decide +kernel
theorem d_RB_invoice_5 : decode prog_1_method_12_code 5 = .ok (.astore_n 3, 1) := by decide +kernel
theorem d_RB_invoice_6 : decode prog_1_method_12_code 6 = .ok (.iload_n 2, 1) := by decide +kernel
theorem d_RB_invoice_7 : decode prog_1_method_12_code 7 = .ok (.iconst 0, 1) := by decide +kernel
theorem d_RB_invoice_8 : decode prog_1_method_12_code 8 = .ok (.ldc 155, 2) := by decide +kernel
theorem d_RB_invoice_10 : decode prog_1_method_12_code 10 = .ok (.invokestatic 53, 3) := by decide +kernel
theorem d_RB_invoice_13 : decode prog_1_method_12_code 13 = .ok (.aload_n 3, 1) := by decide +kernel
theorem d_RB_invoice_14 : decode prog_1_method_12_code 14 = .ok (.invokevirtual 127, 3) := by decide +kernel
theorem d_RB_invoice_17 : decode prog_1_method_12_code 17 = .ok (.ifCond .eq 10, 3) := by decide +kernel
theorem d_RB_invoice_20 : decode prog_1_method_12_code 20 = .ok (.aload_n 3, 1) := by decide +kernel
theorem d_RB_invoice_21 : decode prog_1_method_12_code 21 = .ok (.invokevirtual 156, 3) := by decide +kernel
theorem d_RB_invoice_24 : decode prog_1_method_12_code 24 = .ok (.ifCond .eq 13, 3) := by decide +kernel
theorem d_RB_invoice_27 : decode prog_1_method_12_code 27 = .ok (.new 131, 3) := by decide +kernel
theorem d_RB_invoice_30 : decode prog_1_method_12_code 30 = .ok (.dup, 1) := by decide +kernel
theorem d_RB_invoice_31 : decode prog_1_method_12_code 31 = .ok (.ldc 159, 2) := by decide +kernel
theorem d_RB_invoice_33 : decode prog_1_method_12_code 33 = .ok (.invokespecial 135, 3) := by decide +kernel
theorem d_RB_invoice_36 : decode prog_1_method_12_code 36 = .ok (.athrow, 1) := by decide +kernel
theorem d_RB_invoice_37 : decode prog_1_method_12_code 37 = .ok (.aload_n 3, 1) := by decide +kernel
theorem d_RB_invoice_38 : decode prog_1_method_12_code 38 = .ok (.iload_n 2, 1) := by decide +kernel
theorem d_RB_invoice_39 : decode prog_1_method_12_code 39 = .ok (.putfield 161, 3) := by decide +kernel
theorem d_RB_invoice_42 : decode prog_1_method_12_code 42 = .ok (.iload_n 2, 1) := by decide +kernel
theorem d_RB_invoice_43 : decode prog_1_method_12_code 43 = .ok (.aload_n 3, 1) := by decide +kernel
theorem d_RB_invoice_44 : decode prog_1_method_12_code 44 = .ok (.getfield 141, 3) := by decide +kernel
theorem d_RB_invoice_47 : decode prog_1_method_12_code 47 = .ok (.isub, 1) := by decide +kernel
theorem d_RB_invoice_48 : decode prog_1_method_12_code 48 = .ok (.ireturn, 1) := by decide +kernel
theorem d_RB_refund_0 : decode prog_1_method_13_code 0 = .ok (.aload_n 0, 1) := by decide +kernel
theorem d_RB_refund_1 : decode prog_1_method_13_code 1 = .ok (.iload_n 1, 1) := by decide +kernel
theorem d_RB_refund_2 : decode prog_1_method_13_code 2 = .ok (.invokevirtual 86, 3) := by decide +kernel
theorem d_RB_refund_5 : decode prog_1_method_13_code 5 = .ok (.astore_n 3, 1) := by decide +kernel
theorem d_RB_refund_6 : decode prog_1_method_13_code 6 = .ok (.iload_n 2, 1) := by decide +kernel
theorem d_RB_refund_7 : decode prog_1_method_13_code 7 = .ok (.iconst 1, 1) := by decide +kernel
theorem d_RB_refund_8 : decode prog_1_method_13_code 8 = .ok (.ldc 155, 2) := by decide +kernel
theorem d_RB_refund_10 : decode prog_1_method_13_code 10 = .ok (.invokestatic 53, 3) := by decide +kernel
theorem d_RB_refund_13 : decode prog_1_method_13_code 13 = .ok (.aload_n 3, 1) := by decide +kernel
theorem d_RB_refund_14 : decode prog_1_method_13_code 14 = .ok (.invokevirtual 156, 3) := by decide +kernel
theorem d_RB_refund_17 : decode prog_1_method_13_code 17 = .ok (.ifCond .eq 11, 3) := by decide +kernel
theorem d_RB_refund_20 : decode prog_1_method_13_code 20 = .ok (.iload_n 2, 1) := by decide +kernel
theorem d_RB_refund_21 : decode prog_1_method_13_code 21 = .ok (.aload_n 3, 1) := by decide +kernel
theorem d_RB_refund_22 : decode prog_1_method_13_code 22 = .ok (.getfield 161, 3) := by decide +kernel
theorem d_RB_refund_25 : decode prog_1_method_13_code 25 = .ok (.if_icmp .le 13, 3) := by decide +kernel
theorem d_RB_refund_28 : decode prog_1_method_13_code 28 = .ok (.new 131, 3) := by decide +kernel
theorem d_RB_refund_31 : decode prog_1_method_13_code 31 = .ok (.dup, 1) := by decide +kernel
theorem d_RB_refund_32 : decode prog_1_method_13_code 32 = .ok (.ldc 164, 2) := by decide +kernel
theorem d_RB_refund_34 : decode prog_1_method_13_code 34 = .ok (.invokespecial 135, 3) := by decide +kernel
theorem d_RB_refund_37 : decode prog_1_method_13_code 37 = .ok (.athrow, 1) := by decide +kernel
theorem d_RB_refund_38 : decode prog_1_method_13_code 38 = .ok (.aload_n 3, 1) := by decide +kernel
theorem d_RB_refund_39 : decode prog_1_method_13_code 39 = .ok (.dup, 1) := by decide +kernel
theorem d_RB_refund_40 : decode prog_1_method_13_code 40 = .ok (.getfield 161, 3) := by decide +kernel
theorem d_RB_refund_43 : decode prog_1_method_13_code 43 = .ok (.iload_n 2, 1) := by decide +kernel
theorem d_RB_refund_44 : decode prog_1_method_13_code 44 = .ok (.isub, 1) := by decide +kernel
theorem d_RB_refund_45 : decode prog_1_method_13_code 45 = .ok (.putfield 161, 3) := by decide +kernel
theorem d_RB_refund_48 : decode prog_1_method_13_code 48 = .ok (.aload_n 3, 1) := by decide +kernel
theorem d_RB_refund_49 : decode prog_1_method_13_code 49 = .ok (.getfield 161, 3) := by decide +kernel
theorem d_RB_refund_52 : decode prog_1_method_13_code 52 = .ok (.ireturn, 1) := by decide +kernel
theorem d_RB_differ_0 : decode prog_1_method_14_code 0 = .ok (.iload_n 1, 1) := by decide +kernel
theorem d_RB_differ_1 : decode prog_1_method_14_code 1 = .ok (.ifCond .ge 13, 3) := by decide +kernel
theorem d_RB_differ_4 : decode prog_1_method_14_code 4 = .ok (.new 166, 3) := by decide +kernel
theorem d_RB_differ_7 : decode prog_1_method_14_code 7 = .ok (.dup, 1) := by decide +kernel
theorem d_RB_differ_8 : decode prog_1_method_14_code 8 = .ok (.ldc 168, 2) := by decide +kernel
theorem d_RB_differ_10 : decode prog_1_method_14_code 10 = .ok (.invokespecial 170, 3) := by decide +kernel
theorem d_RB_differ_13 : decode prog_1_method_14_code 13 = .ok (.athrow, 1) := by decide +kernel
theorem d_RB_differ_14 : decode prog_1_method_14_code 14 = .ok (.iconst 0, 1) := by decide +kernel
theorem d_RB_differ_15 : decode prog_1_method_14_code 15 = .ok (.istore_n 2, 1) := by decide +kernel
theorem d_RB_differ_16 : decode prog_1_method_14_code 16 = .ok (.iconst 0, 1) := by decide +kernel
theorem d_RB_differ_17 : decode prog_1_method_14_code 17 = .ok (.istore_n 3, 1) := by decide +kernel
theorem d_RB_differ_18 : decode prog_1_method_14_code 18 = .ok (.iload_n 3, 1) := by decide +kernel
theorem d_RB_differ_19 : decode prog_1_method_14_code 19 = .ok (.bipush 20, 2) := by decide +kernel
theorem d_RB_differ_21 : decode prog_1_method_14_code 21 = .ok (.if_icmp .ge 53, 3) := by decide +kernel
theorem d_RB_differ_24 : decode prog_1_method_14_code 24 = .ok (.aload_n 0, 1) := by decide +kernel
theorem d_RB_differ_25 : decode prog_1_method_14_code 25 = .ok (.getfield 28, 3) := by decide +kernel
theorem d_RB_differ_28 : decode prog_1_method_14_code 28 = .ok (.iload_n 3, 1) := by decide +kernel
theorem d_RB_differ_29 : decode prog_1_method_14_code 29 = .ok (.aaload, 1) := by decide +kernel
theorem d_RB_differ_30 : decode prog_1_method_14_code 30 = .ok (.astore 4, 2) := by decide +kernel
theorem d_RB_differ_32 : decode prog_1_method_14_code 32 = .ok (.aload 4, 2) := by decide +kernel
theorem d_RB_differ_34 : decode prog_1_method_14_code 34 = .ok (.ifnull 34, 3) := by decide +kernel
theorem d_RB_differ_37 : decode prog_1_method_14_code 37 = .ok (.aload 4, 2) := by decide +kernel
theorem d_RB_differ_39 : decode prog_1_method_14_code 39 = .ok (.invokevirtual 156, 3) := by decide +kernel
theorem d_RB_differ_42 : decode prog_1_method_14_code 42 = .ok (.ifCond .eq 26, 3) := by decide +kernel
theorem d_RB_differ_45 : decode prog_1_method_14_code 45 = .ok (.aload 4, 2) := by decide +kernel
theorem d_RB_differ_47 : decode prog_1_method_14_code 47 = .ok (.getfield 161, 3) := by decide +kernel
theorem d_RB_differ_50 : decode prog_1_method_14_code 50 = .ok (.aload 4, 2) := by decide +kernel
theorem d_RB_differ_52 : decode prog_1_method_14_code 52 = .ok (.getfield 141, 3) := by decide +kernel
theorem d_RB_differ_55 : decode prog_1_method_14_code 55 = .ok (.if_icmp .eq 13, 3) := by decide +kernel
theorem d_RB_differ_58 : decode prog_1_method_14_code 58 = .ok (.iload_n 2, 1) := by decide +kernel
theorem d_RB_differ_59 : decode prog_1_method_14_code 59 = .ok (.iload_n 1, 1) := by decide +kernel
theorem d_RB_differ_60 : decode prog_1_method_14_code 60 = .ok (.if_icmp .ne 5, 3) := by decide +kernel
theorem d_RB_differ_63 : decode prog_1_method_14_code 63 = .ok (.iload_n 3, 1) := by decide +kernel
theorem d_RB_differ_64 : decode prog_1_method_14_code 64 = .ok (.ireturn, 1) := by decide +kernel
theorem d_RB_differ_65 : decode prog_1_method_14_code 65 = .ok (.iinc 2 1, 3) := by decide +kernel
theorem d_RB_differ_68 : decode prog_1_method_14_code 68 = .ok (.iinc 3 1, 3) := by decide +kernel
theorem d_RB_differ_71 : decode prog_1_method_14_code 71 = .ok (.goto (-53), 3) := by decide +kernel
theorem d_RB_differ_74 : decode prog_1_method_14_code 74 = .ok (.iconst (-1), 1) := by decide +kernel
theorem d_RB_differ_75 : decode prog_1_method_14_code 75 = .ok (.ireturn, 1) := by decide +kernel
theorem d_RB_currency_0 : decode prog_1_method_15_code 0 = .ok (.iload_n 1, 1) := by decide +kernel
theorem d_RB_currency_1 : decode prog_1_method_15_code 1 = .ok (.iconst 0, 1) := by decide +kernel
theorem d_RB_currency_2 : decode prog_1_method_15_code 2 = .ok (.sipush 10000, 3) := by decide +kernel
theorem d_RB_currency_5 : decode prog_1_method_15_code 5 = .ok (.invokestatic 53, 3) := by decide +kernel
theorem d_RB_currency_8 : decode prog_1_method_15_code 8 = .ok (.iload_n 2, 1) := by decide +kernel
theorem d_RB_currency_9 : decode prog_1_method_15_code 9 = .ok (.iconst 1, 1) := by decide +kernel
theorem d_RB_currency_10 : decode prog_1_method_15_code 10 = .ok (.ldc 80, 2) := by decide +kernel
theorem d_RB_currency_12 : decode prog_1_method_15_code 12 = .ok (.invokestatic 53, 3) := by decide +kernel
theorem d_RB_currency_15 : decode prog_1_method_15_code 15 = .ok (.iload_n 3, 1) := by decide +kernel
theorem d_RB_currency_16 : decode prog_1_method_15_code 16 = .ok (.iconst 1, 1) := by decide +kernel
theorem d_RB_currency_17 : decode prog_1_method_15_code 17 = .ok (.ldc 80, 2) := by decide +kernel
theorem d_RB_currency_19 : decode prog_1_method_15_code 19 = .ok (.invokestatic 53, 3) := by decide +kernel
theorem d_RB_currency_22 : decode prog_1_method_15_code 22 = .ok (.aload_n 0, 1) := by decide +kernel
theorem d_RB_currency_23 : decode prog_1_method_15_code 23 = .ok (.getfield 49, 3) := by decide +kernel
theorem d_RB_currency_26 : decode prog_1_method_15_code 26 = .ok (.iload_n 1, 1) := by decide +kernel
theorem d_RB_currency_27 : decode prog_1_method_15_code 27 = .ok (.invokestatic 117, 3) := by decide +kernel
theorem d_RB_currency_30 : decode prog_1_method_15_code 30 = .ok (.aload_n 0, 1) := by decide +kernel
theorem d_RB_currency_31 : decode prog_1_method_15_code 31 = .ok (.getfield 49, 3) := by decide +kernel
theorem d_RB_currency_34 : decode prog_1_method_15_code 34 = .ok (.iload_n 1, 1) := by decide +kernel
theorem d_RB_currency_35 : decode prog_1_method_15_code 35 = .ok (.iload_n 2, 1) := by decide +kernel
theorem d_RB_currency_36 : decode prog_1_method_15_code 36 = .ok (.iload_n 3, 1) := by decide +kernel
theorem d_RB_currency_37 : decode prog_1_method_15_code 37 = .ok (.invokevirtual 121, 3) := by decide +kernel
theorem d_RB_currency_40 : decode prog_1_method_15_code 40 = .ok (.aload_n 0, 1) := by decide +kernel
theorem d_RB_currency_41 : decode prog_1_method_15_code 41 = .ok (.getfield 49, 3) := by decide +kernel
theorem d_RB_currency_44 : decode prog_1_method_15_code 44 = .ok (.getfield 124, 3) := by decide +kernel
theorem d_RB_currency_47 : decode prog_1_method_15_code 47 = .ok (.ireturn, 1) := by decide +kernel
theorem d_RB_converted_0 : decode prog_1_method_16_code 0 = .ok (.iload_n 1, 1) := by decide +kernel
theorem d_RB_converted_1 : decode prog_1_method_16_code 1 = .ok (.iconst 0, 1) := by decide +kernel
theorem d_RB_converted_2 : decode prog_1_method_16_code 2 = .ok (.ldc 155, 2) := by decide +kernel
theorem d_RB_converted_4 : decode prog_1_method_16_code 4 = .ok (.invokestatic 53, 3) := by decide +kernel
theorem d_RB_converted_7 : decode prog_1_method_16_code 7 = .ok (.iload_n 2, 1) := by decide +kernel
theorem d_RB_converted_8 : decode prog_1_method_16_code 8 = .ok (.iconst 0, 1) := by decide +kernel
theorem d_RB_converted_9 : decode prog_1_method_16_code 9 = .ok (.sipush 10000, 3) := by decide +kernel
theorem d_RB_converted_12 : decode prog_1_method_16_code 12 = .ok (.invokestatic 53, 3) := by decide +kernel
theorem d_RB_converted_15 : decode prog_1_method_16_code 15 = .ok (.aload_n 0, 1) := by decide +kernel
theorem d_RB_converted_16 : decode prog_1_method_16_code 16 = .ok (.getfield 49, 3) := by decide +kernel
theorem d_RB_converted_19 : decode prog_1_method_16_code 19 = .ok (.iload_n 2, 1) := by decide +kernel
theorem d_RB_converted_20 : decode prog_1_method_16_code 20 = .ok (.invokevirtual 171, 3) := by decide +kernel
theorem d_RB_converted_23 : decode prog_1_method_16_code 23 = .ok (.istore_n 3, 1) := by decide +kernel
theorem d_RB_converted_24 : decode prog_1_method_16_code 24 = .ok (.iload_n 3, 1) := by decide +kernel
theorem d_RB_converted_25 : decode prog_1_method_16_code 25 = .ok (.iconst (-1), 1) := by decide +kernel
theorem d_RB_converted_26 : decode prog_1_method_16_code 26 = .ok (.if_icmp .ne 7, 3) := by decide +kernel
theorem d_RB_converted_29 : decode prog_1_method_16_code 29 = .ok (.ldc2_w 175, 3) := by decide +kernel
theorem d_RB_converted_32 : decode prog_1_method_16_code 32 = .ok (.lreturn, 1) := by decide +kernel
theorem d_RB_converted_33 : decode prog_1_method_16_code 33 = .ok (.iload_n 1, 1) := by decide +kernel
theorem d_RB_converted_34 : decode prog_1_method_16_code 34 = .ok (.i2l, 1) := by decide +kernel
theorem d_RB_converted_35 : decode prog_1_method_16_code 35 = .ok (.aload_n 0, 1) := by decide +kernel
theorem d_RB_converted_36 : decode prog_1_method_16_code 36 = .ok (.getfield 49, 3) := by decide +kernel
theorem d_RB_converted_39 : decode prog_1_method_16_code 39 = .ok (.getfield 177, 3) := by decide +kernel
theorem d_RB_converted_42 : decode prog_1_method_16_code 42 = .ok (.iload_n 3, 1) := by decide +kernel
theorem d_RB_converted_43 : decode prog_1_method_16_code 43 = .ok (.iaload, 1) := by decide +kernel
theorem d_RB_converted_44 : decode prog_1_method_16_code 44 = .ok (.i2l, 1) := by decide +kernel
theorem d_RB_converted_45 : decode prog_1_method_16_code 45 = .ok (.lmul, 1) := by decide +kernel
theorem d_RB_converted_46 : decode prog_1_method_16_code 46 = .ok (.aload_n 0, 1) := by decide +kernel
theorem d_RB_converted_47 : decode prog_1_method_16_code 47 = .ok (.getfield 49, 3) := by decide +kernel
theorem d_RB_converted_50 : decode prog_1_method_16_code 50 = .ok (.getfield 180, 3) := by decide +kernel
theorem d_RB_converted_53 : decode prog_1_method_16_code 53 = .ok (.iload_n 3, 1) := by decide +kernel
theorem d_RB_converted_54 : decode prog_1_method_16_code 54 = .ok (.iaload, 1) := by decide +kernel
theorem d_RB_converted_55 : decode prog_1_method_16_code 55 = .ok (.i2l, 1) := by decide +kernel
theorem d_RB_converted_56 : decode prog_1_method_16_code 56 = .ok (.invokestatic 183, 3) := by decide +kernel
theorem d_RB_converted_59 : decode prog_1_method_16_code 59 = .ok (.lreturn, 1) := by decide +kernel
theorem d_RB_told_0 : decode prog_1_method_17_code 0 = .ok (.aload_n 0, 1) := by decide +kernel
theorem d_RB_told_1 : decode prog_1_method_17_code 1 = .ok (.iload_n 1, 1) := by decide +kernel
theorem d_RB_told_2 : decode prog_1_method_17_code 2 = .ok (.invokevirtual 86, 3) := by decide +kernel
theorem d_RB_told_5 : decode prog_1_method_17_code 5 = .ok (.astore_n 3, 1) := by decide +kernel
theorem d_RB_told_6 : decode prog_1_method_17_code 6 = .ok (.iload_n 2, 1) := by decide +kernel
theorem d_RB_told_7 : decode prog_1_method_17_code 7 = .ok (.tableswitch 67 0 5 #[37, 42, 47, 52, 57, 62], 37) := by decide +kernel
theorem d_RB_told_44 : decode prog_1_method_17_code 44 = .ok (.aload_n 3, 1) := by decide +kernel
theorem d_RB_told_45 : decode prog_1_method_17_code 45 = .ok (.getfield 103, 3) := by decide +kernel
theorem d_RB_told_48 : decode prog_1_method_17_code 48 = .ok (.ireturn, 1) := by decide +kernel
theorem d_RB_told_49 : decode prog_1_method_17_code 49 = .ok (.aload_n 3, 1) := by decide +kernel
theorem d_RB_told_50 : decode prog_1_method_17_code 50 = .ok (.getfield 110, 3) := by decide +kernel
theorem d_RB_told_53 : decode prog_1_method_17_code 53 = .ok (.ireturn, 1) := by decide +kernel
theorem d_RB_told_54 : decode prog_1_method_17_code 54 = .ok (.aload_n 3, 1) := by decide +kernel
theorem d_RB_told_55 : decode prog_1_method_17_code 55 = .ok (.getfield 150, 3) := by decide +kernel
theorem d_RB_told_58 : decode prog_1_method_17_code 58 = .ok (.ireturn, 1) := by decide +kernel
theorem d_RB_told_59 : decode prog_1_method_17_code 59 = .ok (.aload_n 3, 1) := by decide +kernel
theorem d_RB_told_60 : decode prog_1_method_17_code 60 = .ok (.getfield 138, 3) := by decide +kernel
theorem d_RB_told_63 : decode prog_1_method_17_code 63 = .ok (.ireturn, 1) := by decide +kernel
theorem d_RB_told_64 : decode prog_1_method_17_code 64 = .ok (.aload_n 3, 1) := by decide +kernel
theorem d_RB_told_65 : decode prog_1_method_17_code 65 = .ok (.getfield 141, 3) := by decide +kernel
theorem d_RB_told_68 : decode prog_1_method_17_code 68 = .ok (.ireturn, 1) := by decide +kernel
theorem d_RB_told_69 : decode prog_1_method_17_code 69 = .ok (.aload_n 3, 1) := by decide +kernel
theorem d_RB_told_70 : decode prog_1_method_17_code 70 = .ok (.getfield 161, 3) := by decide +kernel
theorem d_RB_told_73 : decode prog_1_method_17_code 73 = .ok (.ireturn, 1) := by decide +kernel
theorem d_RB_told_74 : decode prog_1_method_17_code 74 = .ok (.new 166, 3) := by decide +kernel
theorem d_RB_told_77 : decode prog_1_method_17_code 77 = .ok (.dup, 1) := by decide +kernel
theorem d_RB_told_78 : decode prog_1_method_17_code 78 = .ok (.ldc 187, 2) := by decide +kernel
theorem d_RB_told_80 : decode prog_1_method_17_code 80 = .ok (.invokespecial 170, 3) := by decide +kernel
theorem d_RB_told_83 : decode prog_1_method_17_code 83 = .ok (.athrow, 1) := by decide +kernel
