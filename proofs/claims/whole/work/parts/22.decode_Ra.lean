theorem d_Ra_init_0 : decode prog_2_method_1_code 0 = .ok (.aload_n 0, 1) := by decide +kernel
theorem d_Ra_init_1 : decode prog_2_method_1_code 1 = .ok (.invokespecial 3, 3) := by decide +kernel
theorem d_Ra_init_4 : decode prog_2_method_1_code 4 = .ok (.aload_n 0, 1) := by decide +kernel
theorem d_Ra_init_5 : decode prog_2_method_1_code 5 = .ok (.bipush 60, 2) := by decide +kernel
theorem d_Ra_init_7 : decode prog_2_method_1_code 7 = .ok (.newarray .int, 2) := by decide +kernel
theorem d_Ra_init_9 : decode prog_2_method_1_code 9 = .ok (.putfield 9, 3) := by decide +kernel
theorem d_Ra_init_12 : decode prog_2_method_1_code 12 = .ok (.aload_n 0, 1) := by decide +kernel
theorem d_Ra_init_13 : decode prog_2_method_1_code 13 = .ok (.bipush 60, 2) := by decide +kernel
theorem d_Ra_init_15 : decode prog_2_method_1_code 15 = .ok (.newarray .int, 2) := by decide +kernel
theorem d_Ra_init_17 : decode prog_2_method_1_code 17 = .ok (.putfield 15, 3) := by decide +kernel
theorem d_Ra_init_20 : decode prog_2_method_1_code 20 = .ok (.aload_n 0, 1) := by decide +kernel
theorem d_Ra_init_21 : decode prog_2_method_1_code 21 = .ok (.bipush 60, 2) := by decide +kernel
theorem d_Ra_init_23 : decode prog_2_method_1_code 23 = .ok (.newarray .int, 2) := by decide +kernel
theorem d_Ra_init_25 : decode prog_2_method_1_code 25 = .ok (.putfield 18, 3) := by decide +kernel
theorem d_Ra_init_28 : decode prog_2_method_1_code 28 = .ok (.aload_n 0, 1) := by decide +kernel
theorem d_Ra_init_29 : decode prog_2_method_1_code 29 = .ok (.bipush 60, 2) := by decide +kernel
theorem d_Ra_init_31 : decode prog_2_method_1_code 31 = .ok (.newarray .int, 2) := by decide +kernel
theorem d_Ra_init_33 : decode prog_2_method_1_code 33 = .ok (.putfield 21, 3) := by decide +kernel
theorem d_Ra_init_36 : decode prog_2_method_1_code 36 = .ok (.aload_n 0, 1) := by decide +kernel
theorem d_Ra_init_37 : decode prog_2_method_1_code 37 = .ok (.bipush 10, 2) := by decide +kernel
theorem d_Ra_init_39 : decode prog_2_method_1_code 39 = .ok (.newarray .int, 2) := by decide +kernel
theorem d_Ra_init_41 : decode prog_2_method_1_code 41 = .ok (.putfield 24, 3) := by decide +kernel
theorem d_Ra_init_44 : decode prog_2_method_1_code 44 = .ok (.aload_n 0, 1) := by decide +kernel
theorem d_Ra_init_45 : decode prog_2_method_1_code 45 = .ok (.bipush 10, 2) := by decide +kernel
theorem d_Ra_init_47 : decode prog_2_method_1_code 47 = .ok (.newarray .int, 2) := by decide +kernel
theorem d_Ra_init_49 : decode prog_2_method_1_code 49 = .ok (.putfield 27, 3) := by decide +kernel
theorem d_Ra_init_52 : decode prog_2_method_1_code 52 = .ok (.aload_n 0, 1) := by decide +kernel
theorem d_Ra_init_53 : decode prog_2_method_1_code 53 = .ok (.bipush 10, 2) := by decide +kernel
theorem d_Ra_init_55 : decode prog_2_method_1_code 55 = .ok (.newarray .int, 2) := by decide +kernel
theorem d_Ra_init_57 : decode prog_2_method_1_code 57 = .ok (.putfield 30, 3) := by decide +kernel
theorem d_Ra_init_60 : decode prog_2_method_1_code 60 = .ok (.aload_n 0, 1) := by decide +kernel
theorem d_Ra_init_61 : decode prog_2_method_1_code 61 = .ok (.bipush 10, 2) := by decide +kernel
theorem d_Ra_init_63 : decode prog_2_method_1_code 63 = .ok (.newarray .int, 2) := by decide +kernel
theorem d_Ra_init_65 : decode prog_2_method_1_code 65 = .ok (.putfield 33, 3) := by decide +kernel
theorem d_Ra_init_68 : decode prog_2_method_1_code 68 = .ok (.aload_n 0, 1) := by decide +kernel
theorem d_Ra_init_69 : decode prog_2_method_1_code 69 = .ok (.invokevirtual 36, 3) := by decide +kernel
theorem d_Ra_init_72 : decode prog_2_method_1_code 72 = .ok (.return_, 1) := by decide +kernel
theorem d_Ra_clear_0 : decode prog_2_method_2_code 0 = .ok (.aload_n 0, 1) := by decide +kernel
theorem d_Ra_clear_1 : decode prog_2_method_2_code 1 = .ok (.iconst 0, 1) := by decide +kernel
theorem d_Ra_clear_2 : decode prog_2_method_2_code 2 = .ok (.putfield 39, 3) := by decide +kernel
theorem d_Ra_clear_5 : decode prog_2_method_2_code 5 = .ok (.aload_n 0, 1) := by decide +kernel
theorem d_Ra_clear_6 : decode prog_2_method_2_code 6 = .ok (.iconst 0, 1) := by decide +kernel
theorem d_Ra_clear_7 : decode prog_2_method_2_code 7 = .ok (.putfield 43, 3) := by decide +kernel
theorem d_Ra_clear_10 : decode prog_2_method_2_code 10 = .ok (.iconst 0, 1) := by decide +kernel
theorem d_Ra_clear_11 : decode prog_2_method_2_code 11 = .ok (.istore_n 1, 1) := by decide +kernel
theorem d_Ra_clear_12 : decode prog_2_method_2_code 12 = .ok (.iload_n 1, 1) := by decide +kernel
theorem d_Ra_clear_13 : decode prog_2_method_2_code 13 = .ok (.bipush 10, 2) := by decide +kernel
theorem d_Ra_clear_15 : decode prog_2_method_2_code 15 = .ok (.if_icmp .ge 37, 3) := by decide +kernel
theorem d_Ra_clear_18 : decode prog_2_method_2_code 18 = .ok (.aload_n 0, 1) := by decide +kernel
theorem d_Ra_clear_19 : decode prog_2_method_2_code 19 = .ok (.getfield 24, 3) := by decide +kernel
theorem d_Ra_clear_22 : decode prog_2_method_2_code 22 = .ok (.iload_n 1, 1) := by decide +kernel
theorem d_Ra_clear_23 : decode prog_2_method_2_code 23 = .ok (.iconst (-1), 1) := by decide +kernel
theorem d_Ra_clear_24 : decode prog_2_method_2_code 24 = .ok (.iastore, 1) := by decide +kernel
theorem d_Ra_clear_25 : decode prog_2_method_2_code 25 = .ok (.aload_n 0, 1) := by decide +kernel
theorem d_Ra_clear_26 : decode prog_2_method_2_code 26 = .ok (.getfield 27, 3) := by decide +kernel
theorem d_Ra_clear_29 : decode prog_2_method_2_code 29 = .ok (.iload_n 1, 1) := by decide +kernel
theorem d_Ra_clear_30 : decode prog_2_method_2_code 30 = .ok (.iconst (-1), 1) := by decide +kernel
theorem d_Ra_clear_31 : decode prog_2_method_2_code 31 = .ok (.iastore, 1) := by decide +kernel
theorem d_Ra_clear_32 : decode prog_2_method_2_code 32 = .ok (.aload_n 0, 1) := by decide +kernel
theorem d_Ra_clear_33 : decode prog_2_method_2_code 33 = .ok (.getfield 30, 3) := by decide +kernel
theorem d_Ra_clear_36 : decode prog_2_method_2_code 36 = .ok (.iload_n 1, 1) := by decide +kernel
theorem d_Ra_clear_37 : decode prog_2_method_2_code 37 = .ok (.iconst (-1), 1) := by decide +kernel
theorem d_Ra_clear_38 : decode prog_2_method_2_code 38 = .ok (.iastore, 1) := by decide +kernel
theorem d_Ra_clear_39 : decode prog_2_method_2_code 39 = .ok (.aload_n 0, 1) := by decide +kernel
theorem d_Ra_clear_40 : decode prog_2_method_2_code 40 = .ok (.getfield 33, 3) := by decide +kernel
theorem d_Ra_clear_43 : decode prog_2_method_2_code 43 = .ok (.iload_n 1, 1) := by decide +kernel
theorem d_Ra_clear_44 : decode prog_2_method_2_code 44 = .ok (.iconst (-1), 1) := by decide +kernel
theorem d_Ra_clear_45 : decode prog_2_method_2_code 45 = .ok (.iastore, 1) := by decide +kernel
theorem d_Ra_clear_46 : decode prog_2_method_2_code 46 = .ok (.iinc 1 1, 3) := by decide +kernel
theorem d_Ra_clear_49 : decode prog_2_method_2_code 49 = .ok (.goto (-37), 3) := by decide +kernel
theorem d_Ra_clear_52 : decode prog_2_method_2_code 52 = .ok (.return_, 1) := by decide +kernel
theorem d_Ra_take_0 : decode prog_2_method_3_code 0 = .ok (.aload_n 2, 1) := by decide +kernel
theorem d_Ra_take_1 : decode prog_2_method_3_code 1 = .ok (.arraylength, 1) := by decide +kernel
theorem d_Ra_take_2 : decode prog_2_method_3_code 2 = .ok (.iconst 4, 1) := by decide +kernel
theorem d_Ra_take_3 : decode prog_2_method_3_code 3 = .ok (.if_icmp .lt 12, 3) := by decide +kernel
theorem d_Ra_take_6 : decode prog_2_method_3_code 6 = .ok (.aload_n 0, 1) := by decide +kernel
theorem d_Ra_take_7 : decode prog_2_method_3_code 7 = .ok (.iload_n 1, 1) := by decide +kernel
theorem d_Ra_take_8 : decode prog_2_method_3_code 8 = .ok (.aload_n 2, 1) := by decide +kernel
theorem d_Ra_take_9 : decode prog_2_method_3_code 9 = .ok (.invokevirtual 46, 3) := by decide +kernel
theorem d_Ra_take_12 : decode prog_2_method_3_code 12 = .ok (.ifCond .ne 5, 3) := by decide +kernel
theorem d_Ra_take_15 : decode prog_2_method_3_code 15 = .ok (.iconst 0, 1) := by decide +kernel
theorem d_Ra_take_16 : decode prog_2_method_3_code 16 = .ok (.ireturn, 1) := by decide +kernel
theorem d_Ra_take_17 : decode prog_2_method_3_code 17 = .ok (.aload_n 0, 1) := by decide +kernel
theorem d_Ra_take_18 : decode prog_2_method_3_code 18 = .ok (.dup, 1) := by decide +kernel
theorem d_Ra_take_19 : decode prog_2_method_3_code 19 = .ok (.getfield 39, 3) := by decide +kernel
theorem d_Ra_take_22 : decode prog_2_method_3_code 22 = .ok (.iconst 1, 1) := by decide +kernel
theorem d_Ra_take_23 : decode prog_2_method_3_code 23 = .ok (.iadd, 1) := by decide +kernel
theorem d_Ra_take_24 : decode prog_2_method_3_code 24 = .ok (.putfield 39, 3) := by decide +kernel
theorem d_Ra_take_27 : decode prog_2_method_3_code 27 = .ok (.iconst 1, 1) := by decide +kernel
theorem d_Ra_take_28 : decode prog_2_method_3_code 28 = .ok (.ireturn, 1) := by decide +kernel
theorem d_Ra_takeKind_0 : decode prog_2_method_4_code 0 = .ok (.aload_n 2, 1) := by decide +kernel
theorem d_Ra_takeKind_1 : decode prog_2_method_4_code 1 = .ok (.iconst 0, 1) := by decide +kernel
theorem d_Ra_takeKind_2 : decode prog_2_method_4_code 2 = .ok (.iaload, 1) := by decide +kernel
theorem d_Ra_takeKind_3 : decode prog_2_method_4_code 3 = .ok (.istore_n 3, 1) := by decide +kernel
theorem d_Ra_takeKind_4 : decode prog_2_method_4_code 4 = .ok (.iload_n 1, 1) := by decide +kernel
theorem d_Ra_takeKind_5 : decode prog_2_method_4_code 5 = .ok (.lookupswitch 133 #[(68, 58), (70, 86), (77, 72), (82, 43)], 43) := by decide +kernel
theorem d_Ra_takeKind_48 : decode prog_2_method_4_code 48 = .ok (.aload_n 0, 1) := by decide +kernel
theorem d_Ra_takeKind_49 : decode prog_2_method_4_code 49 = .ok (.iload_n 3, 1) := by decide +kernel
theorem d_Ra_takeKind_50 : decode prog_2_method_4_code 50 = .ok (.aload_n 2, 1) := by decide +kernel
theorem d_Ra_takeKind_51 : decode prog_2_method_4_code 51 = .ok (.iconst 1, 1) := by decide +kernel
theorem d_Ra_takeKind_52 : decode prog_2_method_4_code 52 = .ok (.iaload, 1) := by decide +kernel
theorem d_Ra_takeKind_53 : decode prog_2_method_4_code 53 = .ok (.aload_n 2, 1) := by decide +kernel
theorem d_Ra_takeKind_54 : decode prog_2_method_4_code 54 = .ok (.iconst 2, 1) := by decide +kernel
theorem d_Ra_takeKind_55 : decode prog_2_method_4_code 55 = .ok (.iaload, 1) := by decide +kernel
theorem d_Ra_takeKind_56 : decode prog_2_method_4_code 56 = .ok (.aload_n 2, 1) := by decide +kernel
theorem d_Ra_takeKind_57 : decode prog_2_method_4_code 57 = .ok (.iconst 3, 1) := by decide +kernel
theorem d_Ra_takeKind_58 : decode prog_2_method_4_code 58 = .ok (.iaload, 1) := by decide +kernel
theorem d_Ra_takeKind_59 : decode prog_2_method_4_code 59 = .ok (.invokevirtual 50, 3) := by decide +kernel
theorem d_Ra_takeKind_62 : decode prog_2_method_4_code 62 = .ok (.ireturn, 1) := by decide +kernel
theorem d_Ra_takeKind_63 : decode prog_2_method_4_code 63 = .ok (.aload_n 0, 1) := by decide +kernel
theorem d_Ra_takeKind_64 : decode prog_2_method_4_code 64 = .ok (.getfield 24, 3) := by decide +kernel
theorem d_Ra_takeKind_67 : decode prog_2_method_4_code 67 = .ok (.iload_n 3, 1) := by decide +kernel
theorem d_Ra_takeKind_68 : decode prog_2_method_4_code 68 = .ok (.aload_n 2, 1) := by decide +kernel
theorem d_Ra_takeKind_69 : decode prog_2_method_4_code 69 = .ok (.iconst 1, 1) := by decide +kernel
theorem d_Ra_takeKind_70 : decode prog_2_method_4_code 70 = .ok (.iaload, 1) := by decide +kernel
theorem d_Ra_takeKind_71 : decode prog_2_method_4_code 71 = .ok (.ldc 54, 2) := by decide +kernel
theorem d_Ra_takeKind_73 : decode prog_2_method_4_code 73 = .ok (.invokestatic 55, 3) := by decide +kernel
theorem d_Ra_takeKind_76 : decode prog_2_method_4_code 76 = .ok (.ireturn, 1) := by decide +kernel
theorem d_Ra_takeKind_77 : decode prog_2_method_4_code 77 = .ok (.aload_n 0, 1) := by decide +kernel
theorem d_Ra_takeKind_78 : decode prog_2_method_4_code 78 = .ok (.getfield 27, 3) := by decide +kernel
theorem d_Ra_takeKind_81 : decode prog_2_method_4_code 81 = .ok (.iload_n 3, 1) := by decide +kernel
theorem d_Ra_takeKind_82 : decode prog_2_method_4_code 82 = .ok (.aload_n 2, 1) := by decide +kernel
theorem d_Ra_takeKind_83 : decode prog_2_method_4_code 83 = .ok (.iconst 1, 1) := by decide +kernel
theorem d_Ra_takeKind_84 : decode prog_2_method_4_code 84 = .ok (.iaload, 1) := by decide +kernel
theorem d_Ra_takeKind_85 : decode prog_2_method_4_code 85 = .ok (.ldc 59, 2) := by decide +kernel
theorem d_Ra_takeKind_87 : decode prog_2_method_4_code 87 = .ok (.invokestatic 55, 3) := by decide +kernel
theorem d_Ra_takeKind_90 : decode prog_2_method_4_code 90 = .ok (.ireturn, 1) := by decide +kernel
theorem d_Ra_takeKind_91 : decode prog_2_method_4_code 91 = .ok (.aload_n 2, 1) := by decide +kernel
theorem d_Ra_takeKind_92 : decode prog_2_method_4_code 92 = .ok (.iconst 2, 1) := by decide +kernel
theorem d_Ra_takeKind_93 : decode prog_2_method_4_code 93 = .ok (.iaload, 1) := by decide +kernel
theorem d_Ra_takeKind_94 : decode prog_2_method_4_code 94 = .ok (.iconst 1, 1) := by decide +kernel
theorem d_Ra_takeKind_95 : decode prog_2_method_4_code 95 = .ok (.if_icmp .lt 41, 3) := by decide +kernel
theorem d_Ra_takeKind_98 : decode prog_2_method_4_code 98 = .ok (.aload_n 0, 1) := by decide +kernel
theorem d_Ra_takeKind_99 : decode prog_2_method_4_code 99 = .ok (.getfield 33, 3) := by decide +kernel
theorem d_Ra_takeKind_102 : decode prog_2_method_4_code 102 = .ok (.iload_n 3, 1) := by decide +kernel
theorem d_Ra_takeKind_103 : decode prog_2_method_4_code 103 = .ok (.aload_n 2, 1) := by decide +kernel
theorem d_Ra_takeKind_104 : decode prog_2_method_4_code 104 = .ok (.iconst 2, 1) := by decide +kernel
theorem d_Ra_takeKind_105 : decode prog_2_method_4_code 105 = .ok (.iaload, 1) := by decide +kernel
theorem d_Ra_takeKind_106 : decode prog_2_method_4_code 106 = .ok (.sipush 1000, 3) := by decide +kernel
theorem d_Ra_takeKind_109 : decode prog_2_method_4_code 109 = .ok (.invokestatic 55, 3) := by decide +kernel
theorem d_Ra_takeKind_112 : decode prog_2_method_4_code 112 = .ok (.ifCond .eq 24, 3) := by decide +kernel
theorem d_Ra_takeKind_115 : decode prog_2_method_4_code 115 = .ok (.aload_n 0, 1) := by decide +kernel
theorem d_Ra_takeKind_116 : decode prog_2_method_4_code 116 = .ok (.getfield 30, 3) := by decide +kernel
theorem d_Ra_takeKind_119 : decode prog_2_method_4_code 119 = .ok (.iload_n 3, 1) := by decide +kernel
theorem d_Ra_takeKind_120 : decode prog_2_method_4_code 120 = .ok (.aload_n 2, 1) := by decide +kernel
theorem d_Ra_takeKind_121 : decode prog_2_method_4_code 121 = .ok (.iconst 1, 1) := by decide +kernel
theorem d_Ra_takeKind_122 : decode prog_2_method_4_code 122 = .ok (.iaload, 1) := by decide +kernel
theorem d_Ra_takeKind_123 : decode prog_2_method_4_code 123 = .ok (.aload_n 2, 1) := by decide +kernel
theorem d_Ra_takeKind_124 : decode prog_2_method_4_code 124 = .ok (.iconst 2, 1) := by decide +kernel
theorem d_Ra_takeKind_125 : decode prog_2_method_4_code 125 = .ok (.iaload, 1) := by decide +kernel
theorem d_Ra_takeKind_126 : decode prog_2_method_4_code 126 = .ok (.invokestatic 55, 3) := by decide +kernel
theorem d_Ra_takeKind_129 : decode prog_2_method_4_code 129 = .ok (.ifCond .eq 7, 3) := by decide +kernel
theorem d_Ra_takeKind_132 : decode prog_2_method_4_code 132 = .ok (.iconst 1, 1) := by decide +kernel
theorem d_Ra_takeKind_133 : decode prog_2_method_4_code 133 = .ok (.goto 4, 3) := by decide +kernel
theorem d_Ra_takeKind_136 : decode prog_2_method_4_code 136 = .ok (.iconst 0, 1) := by decide +kernel
theorem d_Ra_takeKind_137 : decode prog_2_method_4_code 137 = .ok (.ireturn, 1) := by decide +kernel
theorem d_Ra_takeKind_138 : decode prog_2_method_4_code 138 = .ok (.iconst 0, 1) := by decide +kernel
theorem d_Ra_takeKind_139 : decode prog_2_method_4_code 139 = .ok (.ireturn, 1) := by decide +kernel
theorem d_Ra_takeStep_0 : decode prog_2_method_6_code 0 = .ok (.iload_n 1, 1) := by decide +kernel
theorem d_Ra_takeStep_1 : decode prog_2_method_6_code 1 = .ok (.bipush 10, 2) := by decide +kernel
theorem d_Ra_takeStep_3 : decode prog_2_method_6_code 3 = .ok (.if_icmp .ge 22, 3) := by decide +kernel
theorem d_Ra_takeStep_6 : decode prog_2_method_6_code 6 = .ok (.iload_n 2, 1) := by decide +kernel
theorem d_Ra_takeStep_7 : decode prog_2_method_6_code 7 = .ok (.bipush 10, 2) := by decide +kernel
theorem d_Ra_takeStep_9 : decode prog_2_method_6_code 9 = .ok (.if_icmp .ge 16, 3) := by decide +kernel
theorem d_Ra_takeStep_12 : decode prog_2_method_6_code 12 = .ok (.iload_n 3, 1) := by decide +kernel
theorem d_Ra_takeStep_13 : decode prog_2_method_6_code 13 = .ok (.ldc 54, 2) := by decide +kernel
theorem d_Ra_takeStep_15 : decode prog_2_method_6_code 15 = .ok (.if_icmp .gt 10, 3) := by decide +kernel
theorem d_Ra_takeStep_18 : decode prog_2_method_6_code 18 = .ok (.iload 4, 2) := by decide +kernel
theorem d_Ra_takeStep_20 : decode prog_2_method_6_code 20 = .ok (.ldc 59, 2) := by decide +kernel
theorem d_Ra_takeStep_22 : decode prog_2_method_6_code 22 = .ok (.if_icmp .le 5, 3) := by decide +kernel
theorem d_Ra_takeStep_25 : decode prog_2_method_6_code 25 = .ok (.iconst 0, 1) := by decide +kernel
theorem d_Ra_takeStep_26 : decode prog_2_method_6_code 26 = .ok (.ireturn, 1) := by decide +kernel
theorem d_Ra_takeStep_27 : decode prog_2_method_6_code 27 = .ok (.iload_n 1, 1) := by decide +kernel
theorem d_Ra_takeStep_28 : decode prog_2_method_6_code 28 = .ok (.iload_n 2, 1) := by decide +kernel
theorem d_Ra_takeStep_29 : decode prog_2_method_6_code 29 = .ok (.invokestatic 60, 3) := by decide +kernel
theorem d_Ra_takeStep_32 : decode prog_2_method_6_code 32 = .ok (.istore 5, 2) := by decide +kernel
theorem d_Ra_takeStep_34 : decode prog_2_method_6_code 34 = .ok (.aload_n 0, 1) := by decide +kernel
theorem d_Ra_takeStep_35 : decode prog_2_method_6_code 35 = .ok (.iload 5, 2) := by decide +kernel
theorem d_Ra_takeStep_37 : decode prog_2_method_6_code 37 = .ok (.invokevirtual 64, 3) := by decide +kernel
theorem d_Ra_takeStep_40 : decode prog_2_method_6_code 40 = .ok (.istore 6, 2) := by decide +kernel
theorem d_Ra_takeStep_42 : decode prog_2_method_6_code 42 = .ok (.iload_n 3, 1) := by decide +kernel
theorem d_Ra_takeStep_43 : decode prog_2_method_6_code 43 = .ok (.iload 6, 2) := by decide +kernel
theorem d_Ra_takeStep_45 : decode prog_2_method_6_code 45 = .ok (.if_icmp .le 12, 3) := by decide +kernel
theorem d_Ra_takeStep_48 : decode prog_2_method_6_code 48 = .ok (.aload_n 0, 1) := by decide +kernel
theorem d_Ra_takeStep_49 : decode prog_2_method_6_code 49 = .ok (.getfield 43, 3) := by decide +kernel
theorem d_Ra_takeStep_52 : decode prog_2_method_6_code 52 = .ok (.bipush 60, 2) := by decide +kernel
theorem d_Ra_takeStep_54 : decode prog_2_method_6_code 54 = .ok (.if_icmp .lt 5, 3) := by decide +kernel
theorem d_Ra_takeStep_57 : decode prog_2_method_6_code 57 = .ok (.iconst 0, 1) := by decide +kernel
theorem d_Ra_takeStep_58 : decode prog_2_method_6_code 58 = .ok (.ireturn, 1) := by decide +kernel
theorem d_Ra_takeStep_59 : decode prog_2_method_6_code 59 = .ok (.aload_n 0, 1) := by decide +kernel
theorem d_Ra_takeStep_60 : decode prog_2_method_6_code 60 = .ok (.getfield 9, 3) := by decide +kernel
theorem d_Ra_takeStep_63 : decode prog_2_method_6_code 63 = .ok (.aload_n 0, 1) := by decide +kernel
theorem d_Ra_takeStep_64 : decode prog_2_method_6_code 64 = .ok (.getfield 43, 3) := by decide +kernel
theorem d_Ra_takeStep_67 : decode prog_2_method_6_code 67 = .ok (.iload 5, 2) := by decide +kernel
theorem d_Ra_takeStep_69 : decode prog_2_method_6_code 69 = .ok (.iastore, 1) := by decide +kernel
theorem d_Ra_takeStep_70 : decode prog_2_method_6_code 70 = .ok (.aload_n 0, 1) := by decide +kernel
theorem d_Ra_takeStep_71 : decode prog_2_method_6_code 71 = .ok (.getfield 15, 3) := by decide +kernel
theorem d_Ra_takeStep_74 : decode prog_2_method_6_code 74 = .ok (.aload_n 0, 1) := by decide +kernel
theorem d_Ra_takeStep_75 : decode prog_2_method_6_code 75 = .ok (.getfield 43, 3) := by decide +kernel
theorem d_Ra_takeStep_78 : decode prog_2_method_6_code 78 = .ok (.iload 6, 2) := by decide +kernel
theorem d_Ra_takeStep_80 : decode prog_2_method_6_code 80 = .ok (.iastore, 1) := by decide +kernel
theorem d_Ra_takeStep_81 : decode prog_2_method_6_code 81 = .ok (.aload_n 0, 1) := by decide +kernel
theorem d_Ra_takeStep_82 : decode prog_2_method_6_code 82 = .ok (.getfield 18, 3) := by decide +kernel
theorem d_Ra_takeStep_85 : decode prog_2_method_6_code 85 = .ok (.aload_n 0, 1) := by decide +kernel
theorem d_Ra_takeStep_86 : decode prog_2_method_6_code 86 = .ok (.getfield 43, 3) := by decide +kernel
theorem d_Ra_takeStep_89 : decode prog_2_method_6_code 89 = .ok (.iload_n 3, 1) := by decide +kernel
theorem d_Ra_takeStep_90 : decode prog_2_method_6_code 90 = .ok (.iastore, 1) := by decide +kernel
theorem d_Ra_takeStep_91 : decode prog_2_method_6_code 91 = .ok (.aload_n 0, 1) := by decide +kernel
theorem d_Ra_takeStep_92 : decode prog_2_method_6_code 92 = .ok (.getfield 21, 3) := by decide +kernel
theorem d_Ra_takeStep_95 : decode prog_2_method_6_code 95 = .ok (.aload_n 0, 1) := by decide +kernel
theorem d_Ra_takeStep_96 : decode prog_2_method_6_code 96 = .ok (.getfield 43, 3) := by decide +kernel
theorem d_Ra_takeStep_99 : decode prog_2_method_6_code 99 = .ok (.iload 4, 2) := by decide +kernel
theorem d_Ra_takeStep_101 : decode prog_2_method_6_code 101 = .ok (.iastore, 1) := by decide +kernel
theorem d_Ra_takeStep_102 : decode prog_2_method_6_code 102 = .ok (.aload_n 0, 1) := by decide +kernel
theorem d_Ra_takeStep_103 : decode prog_2_method_6_code 103 = .ok (.dup, 1) := by decide +kernel
theorem d_Ra_takeStep_104 : decode prog_2_method_6_code 104 = .ok (.getfield 43, 3) := by decide +kernel
theorem d_Ra_takeStep_107 : decode prog_2_method_6_code 107 = .ok (.iconst 1, 1) := by decide +kernel
theorem d_Ra_takeStep_108 : decode prog_2_method_6_code 108 = .ok (.iadd, 1) := by decide +kernel
theorem d_Ra_takeStep_109 : decode prog_2_method_6_code 109 = .ok (.putfield 43, 3) := by decide +kernel
theorem d_Ra_takeStep_112 : decode prog_2_method_6_code 112 = .ok (.iconst 1, 1) := by decide +kernel
theorem d_Ra_takeStep_113 : decode prog_2_method_6_code 113 = .ok (.ireturn, 1) := by decide +kernel
theorem d_Ra_heaviest_0 : decode prog_2_method_7_code 0 = .ok (.iconst 0, 1) := by decide +kernel
theorem d_Ra_heaviest_1 : decode prog_2_method_7_code 1 = .ok (.istore_n 2, 1) := by decide +kernel
theorem d_Ra_heaviest_2 : decode prog_2_method_7_code 2 = .ok (.iconst 0, 1) := by decide +kernel
theorem d_Ra_heaviest_3 : decode prog_2_method_7_code 3 = .ok (.istore_n 3, 1) := by decide +kernel
theorem d_Ra_heaviest_4 : decode prog_2_method_7_code 4 = .ok (.iload_n 3, 1) := by decide +kernel
theorem d_Ra_heaviest_5 : decode prog_2_method_7_code 5 = .ok (.aload_n 0, 1) := by decide +kernel
theorem d_Ra_heaviest_6 : decode prog_2_method_7_code 6 = .ok (.getfield 43, 3) := by decide +kernel
theorem d_Ra_heaviest_9 : decode prog_2_method_7_code 9 = .ok (.if_icmp .ge 26, 3) := by decide +kernel
theorem d_Ra_heaviest_12 : decode prog_2_method_7_code 12 = .ok (.aload_n 0, 1) := by decide +kernel
theorem d_Ra_heaviest_13 : decode prog_2_method_7_code 13 = .ok (.getfield 9, 3) := by decide +kernel
theorem d_Ra_heaviest_16 : decode prog_2_method_7_code 16 = .ok (.iload_n 3, 1) := by decide +kernel
theorem d_Ra_heaviest_17 : decode prog_2_method_7_code 17 = .ok (.iaload, 1) := by decide +kernel
theorem d_Ra_heaviest_18 : decode prog_2_method_7_code 18 = .ok (.iload_n 1, 1) := by decide +kernel
theorem d_Ra_heaviest_19 : decode prog_2_method_7_code 19 = .ok (.if_icmp .ne 10, 3) := by decide +kernel
theorem d_Ra_heaviest_22 : decode prog_2_method_7_code 22 = .ok (.aload_n 0, 1) := by decide +kernel
theorem d_Ra_heaviest_23 : decode prog_2_method_7_code 23 = .ok (.getfield 18, 3) := by decide +kernel
theorem d_Ra_heaviest_26 : decode prog_2_method_7_code 26 = .ok (.iload_n 3, 1) := by decide +kernel
theorem d_Ra_heaviest_27 : decode prog_2_method_7_code 27 = .ok (.iaload, 1) := by decide +kernel
theorem d_Ra_heaviest_28 : decode prog_2_method_7_code 28 = .ok (.istore_n 2, 1) := by decide +kernel
theorem d_Ra_heaviest_29 : decode prog_2_method_7_code 29 = .ok (.iinc 3 1, 3) := by decide +kernel
theorem d_Ra_heaviest_32 : decode prog_2_method_7_code 32 = .ok (.goto (-28), 3) := by decide +kernel
theorem d_Ra_heaviest_35 : decode prog_2_method_7_code 35 = .ok (.iload_n 2, 1) := by decide +kernel
theorem d_Ra_heaviest_36 : decode prog_2_method_7_code 36 = .ok (.ireturn, 1) := by decide +kernel
theorem d_Ra_takeOnce_0 : decode prog_2_method_5_code 0 = .ok (.iload_n 1, 1) := by decide +kernel
theorem d_Ra_takeOnce_1 : decode prog_2_method_5_code 1 = .ok (.ifCond .lt 21, 3) := by decide +kernel
theorem d_Ra_takeOnce_4 : decode prog_2_method_5_code 4 = .ok (.iload_n 1, 1) := by decide +kernel
theorem d_Ra_takeOnce_5 : decode prog_2_method_5_code 5 = .ok (.aload_n 0, 1) := by decide +kernel
theorem d_Ra_takeOnce_6 : decode prog_2_method_5_code 6 = .ok (.arraylength, 1) := by decide +kernel
theorem d_Ra_takeOnce_7 : decode prog_2_method_5_code 7 = .ok (.if_icmp .ge 15, 3) := by decide +kernel
theorem d_Ra_takeOnce_10 : decode prog_2_method_5_code 10 = .ok (.aload_n 0, 1) := by decide +kernel
theorem d_Ra_takeOnce_11 : decode prog_2_method_5_code 11 = .ok (.iload_n 1, 1) := by decide +kernel
theorem d_Ra_takeOnce_12 : decode prog_2_method_5_code 12 = .ok (.iaload, 1) := by decide +kernel
theorem d_Ra_takeOnce_13 : decode prog_2_method_5_code 13 = .ok (.iconst (-1), 1) := by decide +kernel
theorem d_Ra_takeOnce_14 : decode prog_2_method_5_code 14 = .ok (.if_icmp .ne 8, 3) := by decide +kernel
theorem d_Ra_takeOnce_17 : decode prog_2_method_5_code 17 = .ok (.iload_n 2, 1) := by decide +kernel
theorem d_Ra_takeOnce_18 : decode prog_2_method_5_code 18 = .ok (.iload_n 3, 1) := by decide +kernel
theorem d_Ra_takeOnce_19 : decode prog_2_method_5_code 19 = .ok (.if_icmp .le 5, 3) := by decide +kernel
theorem d_Ra_takeOnce_22 : decode prog_2_method_5_code 22 = .ok (.iconst 0, 1) := by decide +kernel
theorem d_Ra_takeOnce_23 : decode prog_2_method_5_code 23 = .ok (.ireturn, 1) := by decide +kernel
theorem d_Ra_takeOnce_24 : decode prog_2_method_5_code 24 = .ok (.aload_n 0, 1) := by decide +kernel
theorem d_Ra_takeOnce_25 : decode prog_2_method_5_code 25 = .ok (.iload_n 1, 1) := by decide +kernel
theorem d_Ra_takeOnce_26 : decode prog_2_method_5_code 26 = .ok (.iload_n 2, 1) := by decide +kernel
theorem d_Ra_takeOnce_27 : decode prog_2_method_5_code 27 = .ok (.iastore, 1) := by decide +kernel
theorem d_Ra_takeOnce_28 : decode prog_2_method_5_code 28 = .ok (.iconst 1, 1) := by decide +kernel
theorem d_Ra_takeOnce_29 : decode prog_2_method_5_code 29 = .ok (.ireturn, 1) := by decide +kernel
theorem d_Ra_weightToPay_0 : decode prog_2_method_8_code 0 = .ok (.aload_n 0, 1) := by decide +kernel
theorem d_Ra_weightToPay_1 : decode prog_2_method_8_code 1 = .ok (.getfield 24, 3) := by decide +kernel
theorem d_Ra_weightToPay_4 : decode prog_2_method_8_code 4 = .ok (.iload_n 2, 1) := by decide +kernel
theorem d_Ra_weightToPay_5 : decode prog_2_method_8_code 5 = .ok (.iaload, 1) := by decide +kernel
theorem d_Ra_weightToPay_6 : decode prog_2_method_8_code 6 = .ok (.istore_n 3, 1) := by decide +kernel
theorem d_Ra_weightToPay_7 : decode prog_2_method_8_code 7 = .ok (.iload_n 3, 1) := by decide +kernel
theorem d_Ra_weightToPay_8 : decode prog_2_method_8_code 8 = .ok (.iconst (-1), 1) := by decide +kernel
theorem d_Ra_weightToPay_9 : decode prog_2_method_8_code 9 = .ok (.if_icmp .ne 8, 3) := by decide +kernel
theorem d_Ra_weightToPay_12 : decode prog_2_method_8_code 12 = .ok (.aload_n 1, 1) := by decide +kernel
theorem d_Ra_weightToPay_13 : decode prog_2_method_8_code 13 = .ok (.getfield 68, 3) := by decide +kernel
theorem d_Ra_weightToPay_16 : decode prog_2_method_8_code 16 = .ok (.ireturn, 1) := by decide +kernel
theorem d_Ra_weightToPay_17 : decode prog_2_method_8_code 17 = .ok (.aload_n 1, 1) := by decide +kernel
theorem d_Ra_weightToPay_18 : decode prog_2_method_8_code 18 = .ok (.getfield 73, 3) := by decide +kernel
theorem d_Ra_weightToPay_21 : decode prog_2_method_8_code 21 = .ok (.i2l, 1) := by decide +kernel
theorem d_Ra_weightToPay_22 : decode prog_2_method_8_code 22 = .ok (.iload_n 3, 1) := by decide +kernel
theorem d_Ra_weightToPay_23 : decode prog_2_method_8_code 23 = .ok (.i2l, 1) := by decide +kernel
theorem d_Ra_weightToPay_24 : decode prog_2_method_8_code 24 = .ok (.invokestatic 76, 3) := by decide +kernel
theorem d_Ra_weightToPay_27 : decode prog_2_method_8_code 27 = .ok (.l2i, 1) := by decide +kernel
theorem d_Ra_weightToPay_28 : decode prog_2_method_8_code 28 = .ok (.istore 4, 2) := by decide +kernel
theorem d_Ra_weightToPay_30 : decode prog_2_method_8_code 30 = .ok (.aload_n 1, 1) := by decide +kernel
theorem d_Ra_weightToPay_31 : decode prog_2_method_8_code 31 = .ok (.getfield 68, 3) := by decide +kernel
theorem d_Ra_weightToPay_34 : decode prog_2_method_8_code 34 = .ok (.iload 4, 2) := by decide +kernel
theorem d_Ra_weightToPay_36 : decode prog_2_method_8_code 36 = .ok (.invokestatic 80, 3) := by decide +kernel
theorem d_Ra_weightToPay_39 : decode prog_2_method_8_code 39 = .ok (.ireturn, 1) := by decide +kernel
theorem d_Ra_stepFor_0 : decode prog_2_method_9_code 0 = .ok (.iconst 0, 1) := by decide +kernel
theorem d_Ra_stepFor_1 : decode prog_2_method_9_code 1 = .ok (.istore_n 3, 1) := by decide +kernel
theorem d_Ra_stepFor_2 : decode prog_2_method_9_code 2 = .ok (.iload_n 3, 1) := by decide +kernel
theorem d_Ra_stepFor_3 : decode prog_2_method_9_code 3 = .ok (.aload_n 0, 1) := by decide +kernel
theorem d_Ra_stepFor_4 : decode prog_2_method_9_code 4 = .ok (.getfield 43, 3) := by decide +kernel
theorem d_Ra_stepFor_7 : decode prog_2_method_9_code 7 = .ok (.if_icmp .ge 31, 3) := by decide +kernel
theorem d_Ra_stepFor_10 : decode prog_2_method_9_code 10 = .ok (.aload_n 0, 1) := by decide +kernel
theorem d_Ra_stepFor_11 : decode prog_2_method_9_code 11 = .ok (.getfield 9, 3) := by decide +kernel
theorem d_Ra_stepFor_14 : decode prog_2_method_9_code 14 = .ok (.iload_n 3, 1) := by decide +kernel
theorem d_Ra_stepFor_15 : decode prog_2_method_9_code 15 = .ok (.iaload, 1) := by decide +kernel
theorem d_Ra_stepFor_16 : decode prog_2_method_9_code 16 = .ok (.iload_n 1, 1) := by decide +kernel
theorem d_Ra_stepFor_17 : decode prog_2_method_9_code 17 = .ok (.if_icmp .ne 15, 3) := by decide +kernel
theorem d_Ra_stepFor_20 : decode prog_2_method_9_code 20 = .ok (.aload_n 0, 1) := by decide +kernel
theorem d_Ra_stepFor_21 : decode prog_2_method_9_code 21 = .ok (.getfield 18, 3) := by decide +kernel
theorem d_Ra_stepFor_24 : decode prog_2_method_9_code 24 = .ok (.iload_n 3, 1) := by decide +kernel
theorem d_Ra_stepFor_25 : decode prog_2_method_9_code 25 = .ok (.iaload, 1) := by decide +kernel
theorem d_Ra_stepFor_26 : decode prog_2_method_9_code 26 = .ok (.iload_n 2, 1) := by decide +kernel
theorem d_Ra_stepFor_27 : decode prog_2_method_9_code 27 = .ok (.if_icmp .lt 5, 3) := by decide +kernel
theorem d_Ra_stepFor_30 : decode prog_2_method_9_code 30 = .ok (.iload_n 3, 1) := by decide +kernel
theorem d_Ra_stepFor_31 : decode prog_2_method_9_code 31 = .ok (.ireturn, 1) := by decide +kernel
theorem d_Ra_stepFor_32 : decode prog_2_method_9_code 32 = .ok (.iinc 3 1, 3) := by decide +kernel
theorem d_Ra_stepFor_35 : decode prog_2_method_9_code 35 = .ok (.goto (-33), 3) := by decide +kernel
theorem d_Ra_stepFor_38 : decode prog_2_method_9_code 38 = .ok (.iconst (-1), 1) := by decide +kernel
theorem d_Ra_stepFor_39 : decode prog_2_method_9_code 39 = .ok (.ireturn, 1) := by decide +kernel
theorem d_Ra_charged_0 : decode prog_2_method_10_code 0 = .ok (.aload_n 0, 1) := by decide +kernel
theorem d_Ra_charged_1 : decode prog_2_method_10_code 1 = .ok (.getfield 21, 3) := by decide +kernel
theorem d_Ra_charged_4 : decode prog_2_method_10_code 4 = .ok (.iload_n 1, 1) := by decide +kernel
theorem d_Ra_charged_5 : decode prog_2_method_10_code 5 = .ok (.iaload, 1) := by decide +kernel
theorem d_Ra_charged_6 : decode prog_2_method_10_code 6 = .ok (.i2l, 1) := by decide +kernel
theorem d_Ra_charged_7 : decode prog_2_method_10_code 7 = .ok (.lstore_n 3, 1) := by decide +kernel
theorem d_Ra_charged_8 : decode prog_2_method_10_code 8 = .ok (.aload_n 0, 1) := by decide +kernel
theorem d_Ra_charged_9 : decode prog_2_method_10_code 9 = .ok (.getfield 33, 3) := by decide +kernel
theorem d_Ra_charged_12 : decode prog_2_method_10_code 12 = .ok (.iload_n 2, 1) := by decide +kernel
theorem d_Ra_charged_13 : decode prog_2_method_10_code 13 = .ok (.iaload, 1) := by decide +kernel
theorem d_Ra_charged_14 : decode prog_2_method_10_code 14 = .ok (.iconst (-1), 1) := by decide +kernel
theorem d_Ra_charged_15 : decode prog_2_method_10_code 15 = .ok (.if_icmp .eq 25, 3) := by decide +kernel
theorem d_Ra_charged_18 : decode prog_2_method_10_code 18 = .ok (.lload_n 3, 1) := by decide +kernel
theorem d_Ra_charged_19 : decode prog_2_method_10_code 19 = .ok (.lload_n 3, 1) := by decide +kernel
theorem d_Ra_charged_20 : decode prog_2_method_10_code 20 = .ok (.aload_n 0, 1) := by decide +kernel
theorem d_Ra_charged_21 : decode prog_2_method_10_code 21 = .ok (.getfield 30, 3) := by decide +kernel
theorem d_Ra_charged_24 : decode prog_2_method_10_code 24 = .ok (.iload_n 2, 1) := by decide +kernel
theorem d_Ra_charged_25 : decode prog_2_method_10_code 25 = .ok (.iaload, 1) := by decide +kernel
theorem d_Ra_charged_26 : decode prog_2_method_10_code 26 = .ok (.i2l, 1) := by decide +kernel
theorem d_Ra_charged_27 : decode prog_2_method_10_code 27 = .ok (.lmul, 1) := by decide +kernel
theorem d_Ra_charged_28 : decode prog_2_method_10_code 28 = .ok (.aload_n 0, 1) := by decide +kernel
theorem d_Ra_charged_29 : decode prog_2_method_10_code 29 = .ok (.getfield 33, 3) := by decide +kernel
theorem d_Ra_charged_32 : decode prog_2_method_10_code 32 = .ok (.iload_n 2, 1) := by decide +kernel
theorem d_Ra_charged_33 : decode prog_2_method_10_code 33 = .ok (.iaload, 1) := by decide +kernel
theorem d_Ra_charged_34 : decode prog_2_method_10_code 34 = .ok (.i2l, 1) := by decide +kernel
theorem d_Ra_charged_35 : decode prog_2_method_10_code 35 = .ok (.invokestatic 76, 3) := by decide +kernel
theorem d_Ra_charged_38 : decode prog_2_method_10_code 38 = .ok (.ladd, 1) := by decide +kernel
theorem d_Ra_charged_39 : decode prog_2_method_10_code 39 = .ok (.lstore_n 3, 1) := by decide +kernel
theorem d_Ra_charged_40 : decode prog_2_method_10_code 40 = .ok (.lload_n 3, 1) := by decide +kernel
theorem d_Ra_charged_41 : decode prog_2_method_10_code 41 = .ok (.aload_n 0, 1) := by decide +kernel
theorem d_Ra_charged_42 : decode prog_2_method_10_code 42 = .ok (.getfield 27, 3) := by decide +kernel
theorem d_Ra_charged_45 : decode prog_2_method_10_code 45 = .ok (.iload_n 2, 1) := by decide +kernel
theorem d_Ra_charged_46 : decode prog_2_method_10_code 46 = .ok (.iaload, 1) := by decide +kernel
theorem d_Ra_charged_47 : decode prog_2_method_10_code 47 = .ok (.i2l, 1) := by decide +kernel
theorem d_Ra_charged_48 : decode prog_2_method_10_code 48 = .ok (.invokestatic 85, 3) := by decide +kernel
theorem d_Ra_charged_51 : decode prog_2_method_10_code 51 = .ok (.lreturn, 1) := by decide +kernel
theorem d_Ra_leastCents_0 : decode prog_2_method_11_code 0 = .ok (.iload 4, 2) := by decide +kernel
theorem d_Ra_leastCents_2 : decode prog_2_method_11_code 2 = .ok (.ifCond .gt 10, 3) := by decide +kernel
theorem d_Ra_leastCents_5 : decode prog_2_method_11_code 5 = .ok (.iload 5, 2) := by decide +kernel
theorem d_Ra_leastCents_7 : decode prog_2_method_11_code 7 = .ok (.ifCond .lt 5, 3) := by decide +kernel
theorem d_Ra_leastCents_10 : decode prog_2_method_11_code 10 = .ok (.iconst 0, 1) := by decide +kernel
theorem d_Ra_leastCents_11 : decode prog_2_method_11_code 11 = .ok (.ireturn, 1) := by decide +kernel
theorem d_Ra_leastCents_12 : decode prog_2_method_11_code 12 = .ok (.iload_n 2, 1) := by decide +kernel
theorem d_Ra_leastCents_13 : decode prog_2_method_11_code 13 = .ok (.ifCond .le 8, 3) := by decide +kernel
theorem d_Ra_leastCents_16 : decode prog_2_method_11_code 16 = .ok (.iload 5, 2) := by decide +kernel
theorem d_Ra_leastCents_18 : decode prog_2_method_11_code 18 = .ok (.ifCond .ge 5, 3) := by decide +kernel
theorem d_Ra_leastCents_21 : decode prog_2_method_11_code 21 = .ok (.iconst (-1), 1) := by decide +kernel
theorem d_Ra_leastCents_22 : decode prog_2_method_11_code 22 = .ok (.ireturn, 1) := by decide +kernel
theorem d_Ra_leastCents_23 : decode prog_2_method_11_code 23 = .ok (.iconst (-1), 1) := by decide +kernel
theorem d_Ra_leastCents_24 : decode prog_2_method_11_code 24 = .ok (.istore 6, 2) := by decide +kernel
theorem d_Ra_leastCents_26 : decode prog_2_method_11_code 26 = .ok (.iload_n 3, 1) := by decide +kernel
theorem d_Ra_leastCents_27 : decode prog_2_method_11_code 27 = .ok (.istore 7, 2) := by decide +kernel
theorem d_Ra_leastCents_29 : decode prog_2_method_11_code 29 = .ok (.iload 7, 2) := by decide +kernel
theorem d_Ra_leastCents_31 : decode prog_2_method_11_code 31 = .ok (.aload_n 0, 1) := by decide +kernel
theorem d_Ra_leastCents_32 : decode prog_2_method_11_code 32 = .ok (.getfield 43, 3) := by decide +kernel
theorem d_Ra_leastCents_35 : decode prog_2_method_11_code 35 = .ok (.if_icmp .ge 93, 3) := by decide +kernel
theorem d_Ra_leastCents_38 : decode prog_2_method_11_code 38 = .ok (.aload_n 0, 1) := by decide +kernel
theorem d_Ra_leastCents_39 : decode prog_2_method_11_code 39 = .ok (.getfield 9, 3) := by decide +kernel
theorem d_Ra_leastCents_42 : decode prog_2_method_11_code 42 = .ok (.iload 7, 2) := by decide +kernel
theorem d_Ra_leastCents_44 : decode prog_2_method_11_code 44 = .ok (.iaload, 1) := by decide +kernel
theorem d_Ra_leastCents_45 : decode prog_2_method_11_code 45 = .ok (.iload_n 1, 1) := by decide +kernel
theorem d_Ra_leastCents_46 : decode prog_2_method_11_code 46 = .ok (.if_icmp .ne 76, 3) := by decide +kernel
theorem d_Ra_leastCents_49 : decode prog_2_method_11_code 49 = .ok (.aload_n 0, 1) := by decide +kernel
theorem d_Ra_leastCents_50 : decode prog_2_method_11_code 50 = .ok (.iload_n 1, 1) := by decide +kernel
theorem d_Ra_leastCents_51 : decode prog_2_method_11_code 51 = .ok (.iload_n 2, 1) := by decide +kernel
theorem d_Ra_leastCents_52 : decode prog_2_method_11_code 52 = .ok (.iconst 1, 1) := by decide +kernel
theorem d_Ra_leastCents_53 : decode prog_2_method_11_code 53 = .ok (.isub, 1) := by decide +kernel
theorem d_Ra_leastCents_54 : decode prog_2_method_11_code 54 = .ok (.iload 7, 2) := by decide +kernel
theorem d_Ra_leastCents_56 : decode prog_2_method_11_code 56 = .ok (.iload 4, 2) := by decide +kernel
theorem d_Ra_leastCents_58 : decode prog_2_method_11_code 58 = .ok (.aload_n 0, 1) := by decide +kernel
theorem d_Ra_leastCents_59 : decode prog_2_method_11_code 59 = .ok (.getfield 18, 3) := by decide +kernel
theorem d_Ra_leastCents_62 : decode prog_2_method_11_code 62 = .ok (.iload 7, 2) := by decide +kernel
theorem d_Ra_leastCents_64 : decode prog_2_method_11_code 64 = .ok (.iaload, 1) := by decide +kernel
theorem d_Ra_leastCents_65 : decode prog_2_method_11_code 65 = .ok (.isub, 1) := by decide +kernel
theorem d_Ra_leastCents_66 : decode prog_2_method_11_code 66 = .ok (.iload 5, 2) := by decide +kernel
theorem d_Ra_leastCents_68 : decode prog_2_method_11_code 68 = .ok (.aload_n 0, 1) := by decide +kernel
theorem d_Ra_leastCents_69 : decode prog_2_method_11_code 69 = .ok (.getfield 15, 3) := by decide +kernel
theorem d_Ra_leastCents_72 : decode prog_2_method_11_code 72 = .ok (.iload 7, 2) := by decide +kernel
theorem d_Ra_leastCents_74 : decode prog_2_method_11_code 74 = .ok (.iaload, 1) := by decide +kernel
theorem d_Ra_leastCents_75 : decode prog_2_method_11_code 75 = .ok (.isub, 1) := by decide +kernel
theorem d_Ra_leastCents_76 : decode prog_2_method_11_code 76 = .ok (.iconst 1, 1) := by decide +kernel
theorem d_Ra_leastCents_77 : decode prog_2_method_11_code 77 = .ok (.isub, 1) := by decide +kernel
theorem d_Ra_leastCents_78 : decode prog_2_method_11_code 78 = .ok (.invokevirtual 87, 3) := by decide +kernel
theorem d_Ra_leastCents_81 : decode prog_2_method_11_code 81 = .ok (.istore 8, 2) := by decide +kernel
theorem d_Ra_leastCents_83 : decode prog_2_method_11_code 83 = .ok (.iload 8, 2) := by decide +kernel
theorem d_Ra_leastCents_85 : decode prog_2_method_11_code 85 = .ok (.iconst (-1), 1) := by decide +kernel
theorem d_Ra_leastCents_86 : decode prog_2_method_11_code 86 = .ok (.if_icmp .eq 36, 3) := by decide +kernel
theorem d_Ra_leastCents_89 : decode prog_2_method_11_code 89 = .ok (.iload 6, 2) := by decide +kernel
theorem d_Ra_leastCents_91 : decode prog_2_method_11_code 91 = .ok (.iconst (-1), 1) := by decide +kernel
theorem d_Ra_leastCents_92 : decode prog_2_method_11_code 92 = .ok (.if_icmp .eq 18, 3) := by decide +kernel
theorem d_Ra_leastCents_95 : decode prog_2_method_11_code 95 = .ok (.iload 8, 2) := by decide +kernel
theorem d_Ra_leastCents_97 : decode prog_2_method_11_code 97 = .ok (.aload_n 0, 1) := by decide +kernel
theorem d_Ra_leastCents_98 : decode prog_2_method_11_code 98 = .ok (.getfield 21, 3) := by decide +kernel
theorem d_Ra_leastCents_101 : decode prog_2_method_11_code 101 = .ok (.iload 7, 2) := by decide +kernel
theorem d_Ra_leastCents_103 : decode prog_2_method_11_code 103 = .ok (.iaload, 1) := by decide +kernel
theorem d_Ra_leastCents_104 : decode prog_2_method_11_code 104 = .ok (.iadd, 1) := by decide +kernel
theorem d_Ra_leastCents_105 : decode prog_2_method_11_code 105 = .ok (.iload 6, 2) := by decide +kernel
theorem d_Ra_leastCents_107 : decode prog_2_method_11_code 107 = .ok (.if_icmp .ge 15, 3) := by decide +kernel
theorem d_Ra_leastCents_110 : decode prog_2_method_11_code 110 = .ok (.iload 8, 2) := by decide +kernel
theorem d_Ra_leastCents_112 : decode prog_2_method_11_code 112 = .ok (.aload_n 0, 1) := by decide +kernel
theorem d_Ra_leastCents_113 : decode prog_2_method_11_code 113 = .ok (.getfield 21, 3) := by decide +kernel
theorem d_Ra_leastCents_116 : decode prog_2_method_11_code 116 = .ok (.iload 7, 2) := by decide +kernel
theorem d_Ra_leastCents_118 : decode prog_2_method_11_code 118 = .ok (.iaload, 1) := by decide +kernel
theorem d_Ra_leastCents_119 : decode prog_2_method_11_code 119 = .ok (.iadd, 1) := by decide +kernel
theorem d_Ra_leastCents_120 : decode prog_2_method_11_code 120 = .ok (.istore 6, 2) := by decide +kernel
theorem d_Ra_leastCents_122 : decode prog_2_method_11_code 122 = .ok (.iinc 7 1, 3) := by decide +kernel
theorem d_Ra_leastCents_125 : decode prog_2_method_11_code 125 = .ok (.goto (-96), 3) := by decide +kernel
theorem d_Ra_leastCents_128 : decode prog_2_method_11_code 128 = .ok (.iload 6, 2) := by decide +kernel
theorem d_Ra_leastCents_130 : decode prog_2_method_11_code 130 = .ok (.ireturn, 1) := by decide +kernel
