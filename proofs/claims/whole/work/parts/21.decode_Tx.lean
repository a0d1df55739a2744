theorem d_Tx_init_0 : decode prog_5_method_1_code 0 = .ok (.aload_n 0, 1) := by decide +kernel
theorem d_Tx_init_1 : decode prog_5_method_1_code 1 = .ok (.invokespecial 3, 3) := by decide +kernel
theorem d_Tx_init_4 : decode prog_5_method_1_code 4 = .ok (.aload_n 0, 1) := by decide +kernel
theorem d_Tx_init_5 : decode prog_5_method_1_code 5 = .ok (.sipush 600, 3) := by decide +kernel
theorem d_Tx_init_8 : decode prog_5_method_1_code 8 = .ok (.newarray .int, 2) := by decide +kernel
theorem d_Tx_init_10 : decode prog_5_method_1_code 10 = .ok (.putfield 9, 3) := by decide +kernel
theorem d_Tx_init_13 : decode prog_5_method_1_code 13 = .ok (.aload_n 0, 1) := by decide +kernel
theorem d_Tx_init_14 : decode prog_5_method_1_code 14 = .ok (.iconst 4, 1) := by decide +kernel
theorem d_Tx_init_15 : decode prog_5_method_1_code 15 = .ok (.newarray .int, 2) := by decide +kernel
theorem d_Tx_init_17 : decode prog_5_method_1_code 17 = .ok (.putfield 15, 3) := by decide +kernel
theorem d_Tx_init_20 : decode prog_5_method_1_code 20 = .ok (.aload_n 0, 1) := by decide +kernel
theorem d_Tx_init_21 : decode prog_5_method_1_code 21 = .ok (.iconst 0, 1) := by decide +kernel
theorem d_Tx_init_22 : decode prog_5_method_1_code 22 = .ok (.putfield 18, 3) := by decide +kernel
theorem d_Tx_init_25 : decode prog_5_method_1_code 25 = .ok (.aload_n 0, 1) := by decide +kernel
theorem d_Tx_init_26 : decode prog_5_method_1_code 26 = .ok (.iconst 0, 1) := by decide +kernel
theorem d_Tx_init_27 : decode prog_5_method_1_code 27 = .ok (.putfield 22, 3) := by decide +kernel
theorem d_Tx_init_30 : decode prog_5_method_1_code 30 = .ok (.return_, 1) := by decide +kernel
theorem d_Tx_behindLine_0 : decode prog_5_method_5_code 0 = .ok (.aload_n 0, 1) := by decide +kernel
theorem d_Tx_behindLine_1 : decode prog_5_method_5_code 1 = .ok (.iload_n 1, 1) := by decide +kernel
theorem d_Tx_behindLine_2 : decode prog_5_method_5_code 2 = .ok (.invokevirtual 25, 3) := by decide +kernel
theorem d_Tx_behindLine_5 : decode prog_5_method_5_code 5 = .ok (.invokestatic 29, 3) := by decide +kernel
theorem d_Tx_behindLine_8 : decode prog_5_method_5_code 8 = .ok (.istore_n 2, 1) := by decide +kernel
theorem d_Tx_behindLine_9 : decode prog_5_method_5_code 9 = .ok (.iload_n 2, 1) := by decide +kernel
theorem d_Tx_behindLine_10 : decode prog_5_method_5_code 10 = .ok (.ifCond .ne 5, 3) := by decide +kernel
theorem d_Tx_behindLine_13 : decode prog_5_method_5_code 13 = .ok (.iconst (-1), 1) := by decide +kernel
theorem d_Tx_behindLine_14 : decode prog_5_method_5_code 14 = .ok (.ireturn, 1) := by decide +kernel
theorem d_Tx_behindLine_15 : decode prog_5_method_5_code 15 = .ok (.aload_n 0, 1) := by decide +kernel
theorem d_Tx_behindLine_16 : decode prog_5_method_5_code 16 = .ok (.iload_n 1, 1) := by decide +kernel
theorem d_Tx_behindLine_17 : decode prog_5_method_5_code 17 = .ok (.iconst 1, 1) := by decide +kernel
theorem d_Tx_behindLine_18 : decode prog_5_method_5_code 18 = .ok (.iadd, 1) := by decide +kernel
theorem d_Tx_behindLine_19 : decode prog_5_method_5_code 19 = .ok (.putfield 22, 3) := by decide +kernel
theorem d_Tx_behindLine_22 : decode prog_5_method_5_code 22 = .ok (.iconst 0, 1) := by decide +kernel
theorem d_Tx_behindLine_23 : decode prog_5_method_5_code 23 = .ok (.istore_n 3, 1) := by decide +kernel
theorem d_Tx_behindLine_24 : decode prog_5_method_5_code 24 = .ok (.iload_n 3, 1) := by decide +kernel
theorem d_Tx_behindLine_25 : decode prog_5_method_5_code 25 = .ok (.iload_n 2, 1) := by decide +kernel
theorem d_Tx_behindLine_26 : decode prog_5_method_5_code 26 = .ok (.if_icmp .ge 31, 3) := by decide +kernel
theorem d_Tx_behindLine_29 : decode prog_5_method_5_code 29 = .ok (.aload_n 0, 1) := by decide +kernel
theorem d_Tx_behindLine_30 : decode prog_5_method_5_code 30 = .ok (.getfield 15, 3) := by decide +kernel
theorem d_Tx_behindLine_33 : decode prog_5_method_5_code 33 = .ok (.iload_n 3, 1) := by decide +kernel
theorem d_Tx_behindLine_34 : decode prog_5_method_5_code 34 = .ok (.aload_n 0, 1) := by decide +kernel
theorem d_Tx_behindLine_35 : decode prog_5_method_5_code 35 = .ok (.invokevirtual 32, 3) := by decide +kernel
theorem d_Tx_behindLine_38 : decode prog_5_method_5_code 38 = .ok (.iastore, 1) := by decide +kernel
theorem d_Tx_behindLine_39 : decode prog_5_method_5_code 39 = .ok (.aload_n 0, 1) := by decide +kernel
theorem d_Tx_behindLine_40 : decode prog_5_method_5_code 40 = .ok (.getfield 15, 3) := by decide +kernel
theorem d_Tx_behindLine_43 : decode prog_5_method_5_code 43 = .ok (.iload_n 3, 1) := by decide +kernel
theorem d_Tx_behindLine_44 : decode prog_5_method_5_code 44 = .ok (.iaload, 1) := by decide +kernel
theorem d_Tx_behindLine_45 : decode prog_5_method_5_code 45 = .ok (.iconst (-1), 1) := by decide +kernel
theorem d_Tx_behindLine_46 : decode prog_5_method_5_code 46 = .ok (.if_icmp .ne 5, 3) := by decide +kernel
theorem d_Tx_behindLine_49 : decode prog_5_method_5_code 49 = .ok (.iconst (-1), 1) := by decide +kernel
theorem d_Tx_behindLine_50 : decode prog_5_method_5_code 50 = .ok (.ireturn, 1) := by decide +kernel
theorem d_Tx_behindLine_51 : decode prog_5_method_5_code 51 = .ok (.iinc 3 1, 3) := by decide +kernel
theorem d_Tx_behindLine_54 : decode prog_5_method_5_code 54 = .ok (.goto (-30), 3) := by decide +kernel
theorem d_Tx_behindLine_57 : decode prog_5_method_5_code 57 = .ok (.aload_n 0, 1) := by decide +kernel
theorem d_Tx_behindLine_58 : decode prog_5_method_5_code 58 = .ok (.aload_n 0, 1) := by decide +kernel
theorem d_Tx_behindLine_59 : decode prog_5_method_5_code 59 = .ok (.getfield 22, 3) := by decide +kernel
theorem d_Tx_behindLine_62 : decode prog_5_method_5_code 62 = .ok (.invokevirtual 25, 3) := by decide +kernel
theorem d_Tx_behindLine_65 : decode prog_5_method_5_code 65 = .ok (.bipush 10, 2) := by decide +kernel
theorem d_Tx_behindLine_67 : decode prog_5_method_5_code 67 = .ok (.if_icmp .ne 12, 3) := by decide +kernel
theorem d_Tx_behindLine_70 : decode prog_5_method_5_code 70 = .ok (.aload_n 0, 1) := by decide +kernel
theorem d_Tx_behindLine_71 : decode prog_5_method_5_code 71 = .ok (.getfield 22, 3) := by decide +kernel
theorem d_Tx_behindLine_74 : decode prog_5_method_5_code 74 = .ok (.iconst 1, 1) := by decide +kernel
theorem d_Tx_behindLine_75 : decode prog_5_method_5_code 75 = .ok (.iadd, 1) := by decide +kernel
theorem d_Tx_behindLine_76 : decode prog_5_method_5_code 76 = .ok (.goto 4, 3) := by decide +kernel
theorem d_Tx_behindLine_79 : decode prog_5_method_5_code 79 = .ok (.iconst (-1), 1) := by decide +kernel
theorem d_Tx_behindLine_80 : decode prog_5_method_5_code 80 = .ok (.ireturn, 1) := by decide +kernel
theorem d_Tx_at_0 : decode prog_5_method_4_code 0 = .ok (.iload_n 1, 1) := by decide +kernel
theorem d_Tx_at_1 : decode prog_5_method_4_code 1 = .ok (.ifCond .lt 20, 3) := by decide +kernel
theorem d_Tx_at_4 : decode prog_5_method_4_code 4 = .ok (.iload_n 1, 1) := by decide +kernel
theorem d_Tx_at_5 : decode prog_5_method_4_code 5 = .ok (.aload_n 0, 1) := by decide +kernel
theorem d_Tx_at_6 : decode prog_5_method_4_code 6 = .ok (.getfield 18, 3) := by decide +kernel
theorem d_Tx_at_9 : decode prog_5_method_4_code 9 = .ok (.if_icmp .ge 12, 3) := by decide +kernel
theorem d_Tx_at_12 : decode prog_5_method_4_code 12 = .ok (.aload_n 0, 1) := by decide +kernel
theorem d_Tx_at_13 : decode prog_5_method_4_code 13 = .ok (.getfield 9, 3) := by decide +kernel
theorem d_Tx_at_16 : decode prog_5_method_4_code 16 = .ok (.iload_n 1, 1) := by decide +kernel
theorem d_Tx_at_17 : decode prog_5_method_4_code 17 = .ok (.iaload, 1) := by decide +kernel
theorem d_Tx_at_18 : decode prog_5_method_4_code 18 = .ok (.goto 4, 3) := by decide +kernel
theorem d_Tx_at_21 : decode prog_5_method_4_code 21 = .ok (.iconst (-1), 1) := by decide +kernel
theorem d_Tx_at_22 : decode prog_5_method_4_code 22 = .ok (.ireturn, 1) := by decide +kernel
theorem d_Tx_numbersBehind_0 : decode prog_5_method_6_code 0 = .ok (.iload_n 0, 1) := by decide +kernel
theorem d_Tx_numbersBehind_1 : decode prog_5_method_6_code 1 = .ok (.lookupswitch 49 #[(68, 47), (70, 45), (77, 47), (82, 43)], 43) := by decide +kernel
theorem d_Tx_numbersBehind_44 : decode prog_5_method_6_code 44 = .ok (.iconst 4, 1) := by decide +kernel
theorem d_Tx_numbersBehind_45 : decode prog_5_method_6_code 45 = .ok (.ireturn, 1) := by decide +kernel
theorem d_Tx_numbersBehind_46 : decode prog_5_method_6_code 46 = .ok (.iconst 3, 1) := by decide +kernel
theorem d_Tx_numbersBehind_47 : decode prog_5_method_6_code 47 = .ok (.ireturn, 1) := by decide +kernel
theorem d_Tx_numbersBehind_48 : decode prog_5_method_6_code 48 = .ok (.iconst 2, 1) := by decide +kernel
theorem d_Tx_numbersBehind_49 : decode prog_5_method_6_code 49 = .ok (.ireturn, 1) := by decide +kernel
theorem d_Tx_numbersBehind_50 : decode prog_5_method_6_code 50 = .ok (.iconst 0, 1) := by decide +kernel
theorem d_Tx_numbersBehind_51 : decode prog_5_method_6_code 51 = .ok (.ireturn, 1) := by decide +kernel
theorem d_Tx_takeNumber_0 : decode prog_5_method_7_code 0 = .ok (.aload_n 0, 1) := by decide +kernel
theorem d_Tx_takeNumber_1 : decode prog_5_method_7_code 1 = .ok (.aload_n 0, 1) := by decide +kernel
theorem d_Tx_takeNumber_2 : decode prog_5_method_7_code 2 = .ok (.getfield 22, 3) := by decide +kernel
theorem d_Tx_takeNumber_5 : decode prog_5_method_7_code 5 = .ok (.invokevirtual 25, 3) := by decide +kernel
theorem d_Tx_takeNumber_8 : decode prog_5_method_7_code 8 = .ok (.bipush 32, 2) := by decide +kernel
theorem d_Tx_takeNumber_10 : decode prog_5_method_7_code 10 = .ok (.if_icmp .eq 5, 3) := by decide +kernel
theorem d_Tx_takeNumber_13 : decode prog_5_method_7_code 13 = .ok (.iconst (-1), 1) := by decide +kernel
theorem d_Tx_takeNumber_14 : decode prog_5_method_7_code 14 = .ok (.ireturn, 1) := by decide +kernel
theorem d_Tx_takeNumber_15 : decode prog_5_method_7_code 15 = .ok (.aload_n 0, 1) := by decide +kernel
theorem d_Tx_takeNumber_16 : decode prog_5_method_7_code 16 = .ok (.getfield 22, 3) := by decide +kernel
theorem d_Tx_takeNumber_19 : decode prog_5_method_7_code 19 = .ok (.iconst 1, 1) := by decide +kernel
theorem d_Tx_takeNumber_20 : decode prog_5_method_7_code 20 = .ok (.iadd, 1) := by decide +kernel
theorem d_Tx_takeNumber_21 : decode prog_5_method_7_code 21 = .ok (.istore_n 1, 1) := by decide +kernel
theorem d_Tx_takeNumber_22 : decode prog_5_method_7_code 22 = .ok (.iconst 0, 1) := by decide +kernel
theorem d_Tx_takeNumber_23 : decode prog_5_method_7_code 23 = .ok (.istore_n 2, 1) := by decide +kernel
theorem d_Tx_takeNumber_24 : decode prog_5_method_7_code 24 = .ok (.iconst 0, 1) := by decide +kernel
theorem d_Tx_takeNumber_25 : decode prog_5_method_7_code 25 = .ok (.istore_n 3, 1) := by decide +kernel
theorem d_Tx_takeNumber_26 : decode prog_5_method_7_code 26 = .ok (.iload_n 3, 1) := by decide +kernel
theorem d_Tx_takeNumber_27 : decode prog_5_method_7_code 27 = .ok (.bipush 9, 2) := by decide +kernel
theorem d_Tx_takeNumber_29 : decode prog_5_method_7_code 29 = .ok (.if_icmp .ge 38, 3) := by decide +kernel
theorem d_Tx_takeNumber_32 : decode prog_5_method_7_code 32 = .ok (.aload_n 0, 1) := by decide +kernel
theorem d_Tx_takeNumber_33 : decode prog_5_method_7_code 33 = .ok (.iload_n 1, 1) := by decide +kernel
theorem d_Tx_takeNumber_34 : decode prog_5_method_7_code 34 = .ok (.iload_n 3, 1) := by decide +kernel
theorem d_Tx_takeNumber_35 : decode prog_5_method_7_code 35 = .ok (.iadd, 1) := by decide +kernel
theorem d_Tx_takeNumber_36 : decode prog_5_method_7_code 36 = .ok (.invokevirtual 25, 3) := by decide +kernel
theorem d_Tx_takeNumber_39 : decode prog_5_method_7_code 39 = .ok (.invokestatic 36, 3) := by decide +kernel
theorem d_Tx_takeNumber_42 : decode prog_5_method_7_code 42 = .ok (.ifCond .eq 25, 3) := by decide +kernel
theorem d_Tx_takeNumber_45 : decode prog_5_method_7_code 45 = .ok (.iload_n 2, 1) := by decide +kernel
theorem d_Tx_takeNumber_46 : decode prog_5_method_7_code 46 = .ok (.bipush 10, 2) := by decide +kernel
theorem d_Tx_takeNumber_48 : decode prog_5_method_7_code 48 = .ok (.imul, 1) := by decide +kernel
theorem d_Tx_takeNumber_49 : decode prog_5_method_7_code 49 = .ok (.aload_n 0, 1) := by decide +kernel
theorem d_Tx_takeNumber_50 : decode prog_5_method_7_code 50 = .ok (.iload_n 1, 1) := by decide +kernel
theorem d_Tx_takeNumber_51 : decode prog_5_method_7_code 51 = .ok (.iload_n 3, 1) := by decide +kernel
theorem d_Tx_takeNumber_52 : decode prog_5_method_7_code 52 = .ok (.iadd, 1) := by decide +kernel
theorem d_Tx_takeNumber_53 : decode prog_5_method_7_code 53 = .ok (.invokevirtual 25, 3) := by decide +kernel
theorem d_Tx_takeNumber_56 : decode prog_5_method_7_code 56 = .ok (.bipush 48, 2) := by decide +kernel
theorem d_Tx_takeNumber_58 : decode prog_5_method_7_code 58 = .ok (.isub, 1) := by decide +kernel
theorem d_Tx_takeNumber_59 : decode prog_5_method_7_code 59 = .ok (.iadd, 1) := by decide +kernel
theorem d_Tx_takeNumber_60 : decode prog_5_method_7_code 60 = .ok (.istore_n 2, 1) := by decide +kernel
theorem d_Tx_takeNumber_61 : decode prog_5_method_7_code 61 = .ok (.iinc 3 1, 3) := by decide +kernel
theorem d_Tx_takeNumber_64 : decode prog_5_method_7_code 64 = .ok (.goto (-38), 3) := by decide +kernel
theorem d_Tx_takeNumber_67 : decode prog_5_method_7_code 67 = .ok (.aload_n 0, 1) := by decide +kernel
theorem d_Tx_takeNumber_68 : decode prog_5_method_7_code 68 = .ok (.iload_n 1, 1) := by decide +kernel
theorem d_Tx_takeNumber_69 : decode prog_5_method_7_code 69 = .ok (.iload_n 3, 1) := by decide +kernel
theorem d_Tx_takeNumber_70 : decode prog_5_method_7_code 70 = .ok (.iadd, 1) := by decide +kernel
theorem d_Tx_takeNumber_71 : decode prog_5_method_7_code 71 = .ok (.putfield 22, 3) := by decide +kernel
theorem d_Tx_takeNumber_74 : decode prog_5_method_7_code 74 = .ok (.iload_n 3, 1) := by decide +kernel
theorem d_Tx_takeNumber_75 : decode prog_5_method_7_code 75 = .ok (.iconst 1, 1) := by decide +kernel
theorem d_Tx_takeNumber_76 : decode prog_5_method_7_code 76 = .ok (.if_icmp .le 17, 3) := by decide +kernel
theorem d_Tx_takeNumber_79 : decode prog_5_method_7_code 79 = .ok (.aload_n 0, 1) := by decide +kernel
theorem d_Tx_takeNumber_80 : decode prog_5_method_7_code 80 = .ok (.iload_n 1, 1) := by decide +kernel
theorem d_Tx_takeNumber_81 : decode prog_5_method_7_code 81 = .ok (.invokevirtual 25, 3) := by decide +kernel
theorem d_Tx_takeNumber_84 : decode prog_5_method_7_code 84 = .ok (.bipush 48, 2) := by decide +kernel
theorem d_Tx_takeNumber_86 : decode prog_5_method_7_code 86 = .ok (.if_icmp .ne 7, 3) := by decide +kernel
theorem d_Tx_takeNumber_89 : decode prog_5_method_7_code 89 = .ok (.iconst 1, 1) := by decide +kernel
theorem d_Tx_takeNumber_90 : decode prog_5_method_7_code 90 = .ok (.goto 4, 3) := by decide +kernel
theorem d_Tx_takeNumber_93 : decode prog_5_method_7_code 93 = .ok (.iconst 0, 1) := by decide +kernel
theorem d_Tx_takeNumber_94 : decode prog_5_method_7_code 94 = .ok (.istore 4, 2) := by decide +kernel
theorem d_Tx_takeNumber_96 : decode prog_5_method_7_code 96 = .ok (.iload_n 3, 1) := by decide +kernel
theorem d_Tx_takeNumber_97 : decode prog_5_method_7_code 97 = .ok (.ifCond .eq 8, 3) := by decide +kernel
theorem d_Tx_takeNumber_100 : decode prog_5_method_7_code 100 = .ok (.iload 4, 2) := by decide +kernel
theorem d_Tx_takeNumber_102 : decode prog_5_method_7_code 102 = .ok (.ifCond .eq 7, 3) := by decide +kernel
theorem d_Tx_takeNumber_105 : decode prog_5_method_7_code 105 = .ok (.iconst (-1), 1) := by decide +kernel
theorem d_Tx_takeNumber_106 : decode prog_5_method_7_code 106 = .ok (.goto 4, 3) := by decide +kernel
theorem d_Tx_takeNumber_109 : decode prog_5_method_7_code 109 = .ok (.iload_n 2, 1) := by decide +kernel
theorem d_Tx_takeNumber_110 : decode prog_5_method_7_code 110 = .ok (.ireturn, 1) := by decide +kernel
theorem d_Tx_isDigit_0 : decode prog_5_method_8_code 0 = .ok (.iload_n 0, 1) := by decide +kernel
theorem d_Tx_isDigit_1 : decode prog_5_method_8_code 1 = .ok (.bipush 48, 2) := by decide +kernel
theorem d_Tx_isDigit_3 : decode prog_5_method_8_code 3 = .ok (.if_icmp .lt 13, 3) := by decide +kernel
theorem d_Tx_isDigit_6 : decode prog_5_method_8_code 6 = .ok (.iload_n 0, 1) := by decide +kernel
theorem d_Tx_isDigit_7 : decode prog_5_method_8_code 7 = .ok (.bipush 57, 2) := by decide +kernel
theorem d_Tx_isDigit_9 : decode prog_5_method_8_code 9 = .ok (.if_icmp .gt 7, 3) := by decide +kernel
theorem d_Tx_isDigit_12 : decode prog_5_method_8_code 12 = .ok (.iconst 1, 1) := by decide +kernel
theorem d_Tx_isDigit_13 : decode prog_5_method_8_code 13 = .ok (.goto 4, 3) := by decide +kernel
theorem d_Tx_isDigit_16 : decode prog_5_method_8_code 16 = .ok (.iconst 0, 1) := by decide +kernel
theorem d_Tx_isDigit_17 : decode prog_5_method_8_code 17 = .ok (.ireturn, 1) := by decide +kernel
theorem d_Tx_clear_0 : decode prog_5_method_2_code 0 = .ok (.aload_n 0, 1) := by decide +kernel
theorem d_Tx_clear_1 : decode prog_5_method_2_code 1 = .ok (.iconst 0, 1) := by decide +kernel
theorem d_Tx_clear_2 : decode prog_5_method_2_code 2 = .ok (.putfield 18, 3) := by decide +kernel
theorem d_Tx_clear_5 : decode prog_5_method_2_code 5 = .ok (.return_, 1) := by decide +kernel
theorem d_Tx_append_0 : decode prog_5_method_3_code 0 = .ok (.aload_n 0, 1) := by decide +kernel
theorem d_Tx_append_1 : decode prog_5_method_3_code 1 = .ok (.getfield 18, 3) := by decide +kernel
theorem d_Tx_append_4 : decode prog_5_method_3_code 4 = .ok (.sipush 600, 3) := by decide +kernel
theorem d_Tx_append_7 : decode prog_5_method_3_code 7 = .ok (.if_icmp .ge 23, 3) := by decide +kernel
theorem d_Tx_append_10 : decode prog_5_method_3_code 10 = .ok (.aload_n 0, 1) := by decide +kernel
theorem d_Tx_append_11 : decode prog_5_method_3_code 11 = .ok (.getfield 9, 3) := by decide +kernel
theorem d_Tx_append_14 : decode prog_5_method_3_code 14 = .ok (.aload_n 0, 1) := by decide +kernel
theorem d_Tx_append_15 : decode prog_5_method_3_code 15 = .ok (.getfield 18, 3) := by decide +kernel
theorem d_Tx_append_18 : decode prog_5_method_3_code 18 = .ok (.iload_n 1, 1) := by decide +kernel
theorem d_Tx_append_19 : decode prog_5_method_3_code 19 = .ok (.iastore, 1) := by decide +kernel
theorem d_Tx_append_20 : decode prog_5_method_3_code 20 = .ok (.aload_n 0, 1) := by decide +kernel
theorem d_Tx_append_21 : decode prog_5_method_3_code 21 = .ok (.dup, 1) := by decide +kernel
theorem d_Tx_append_22 : decode prog_5_method_3_code 22 = .ok (.getfield 18, 3) := by decide +kernel
theorem d_Tx_append_25 : decode prog_5_method_3_code 25 = .ok (.iconst 1, 1) := by decide +kernel
theorem d_Tx_append_26 : decode prog_5_method_3_code 26 = .ok (.iadd, 1) := by decide +kernel
theorem d_Tx_append_27 : decode prog_5_method_3_code 27 = .ok (.putfield 18, 3) := by decide +kernel
theorem d_Tx_append_30 : decode prog_5_method_3_code 30 = .ok (.return_, 1) := by decide +kernel
