theorem d_RB_init_0 : decode prog_1_method_1_code 0 = .ok (.aload_n 0, 1) := by decide +kernel
theorem d_RB_init_1 : decode prog_1_method_1_code 1 = .ok (.invokespecial 1, 3) := by decide +kernel
theorem d_RB_init_4 : decode prog_1_method_1_code 4 = .ok (.aload_n 0, 1) := by decide +kernel
theorem d_RB_init_5 : decode prog_1_method_1_code 5 = .ok (.new 7, 3) := by decide +kernel
theorem d_RB_init_8 : decode prog_1_method_1_code 8 = .ok (.dup, 1) := by decide +kernel
theorem d_RB_init_9 : decode prog_1_method_1_code 9 = .ok (.invokespecial 9, 3) := by decide +kernel
theorem d_RB_init_12 : decode prog_1_method_1_code 12 = .ok (.putfield 10, 3) := by decide +kernel
theorem d_RB_init_15 : decode prog_1_method_1_code 15 = .ok (.aload_n 0, 1) := by decide +kernel
theorem d_RB_init_16 : decode prog_1_method_1_code 16 = .ok (.new 16, 3) := by decide +kernel
theorem d_RB_init_19 : decode prog_1_method_1_code 19 = .ok (.dup, 1) := by decide +kernel
theorem d_RB_init_20 : decode prog_1_method_1_code 20 = .ok (.invokespecial 18, 3) := by decide +kernel
theorem d_RB_init_23 : decode prog_1_method_1_code 23 = .ok (.putfield 19, 3) := by decide +kernel
theorem d_RB_init_26 : decode prog_1_method_1_code 26 = .ok (.aload_n 0, 1) := by decide +kernel
theorem d_RB_init_27 : decode prog_1_method_1_code 27 = .ok (.new 16, 3) := by decide +kernel
theorem d_RB_init_30 : decode prog_1_method_1_code 30 = .ok (.dup, 1) := by decide +kernel
theorem d_RB_init_31 : decode prog_1_method_1_code 31 = .ok (.invokespecial 18, 3) := by decide +kernel
theorem d_RB_init_34 : decode prog_1_method_1_code 34 = .ok (.putfield 23, 3) := by decide +kernel
theorem d_RB_init_37 : decode prog_1_method_1_code 37 = .ok (.aload_n 0, 1) := by decide +kernel
theorem d_RB_init_38 : decode prog_1_method_1_code 38 = .ok (.bipush 20, 2) := by decide +kernel
theorem d_RB_init_40 : decode prog_1_method_1_code 40 = .ok (.anewarray 26, 3) := by decide +kernel
theorem d_RB_init_43 : decode prog_1_method_1_code 43 = .ok (.putfield 28, 3) := by decide +kernel
theorem d_RB_init_46 : decode prog_1_method_1_code 46 = .ok (.aload_n 0, 1) := by decide +kernel
theorem d_RB_init_47 : decode prog_1_method_1_code 47 = .ok (.iconst 0, 1) := by decide +kernel
theorem d_RB_init_48 : decode prog_1_method_1_code 48 = .ok (.putfield 32, 3) := by decide +kernel
theorem d_RB_init_51 : decode prog_1_method_1_code 51 = .ok (.aload_n 0, 1) := by decide +kernel
theorem d_RB_init_52 : decode prog_1_method_1_code 52 = .ok (.bipush 10, 2) := by decide +kernel
theorem d_RB_init_54 : decode prog_1_method_1_code 54 = .ok (.anewarray 36, 3) := by decide +kernel
theorem d_RB_init_57 : decode prog_1_method_1_code 57 = .ok (.putfield 38, 3) := by decide +kernel
theorem d_RB_init_60 : decode prog_1_method_1_code 60 = .ok (.iconst 0, 1) := by decide +kernel
theorem d_RB_init_61 : decode prog_1_method_1_code 61 = .ok (.istore_n 1, 1) := by decide +kernel
theorem d_RB_init_62 : decode prog_1_method_1_code 62 = .ok (.iload_n 1, 1) := by decide +kernel
theorem d_RB_init_63 : decode prog_1_method_1_code 63 = .ok (.bipush 10, 2) := by decide +kernel
theorem d_RB_init_65 : decode prog_1_method_1_code 65 = .ok (.if_icmp .ge 23, 3) := by decide +kernel
theorem d_RB_init_68 : decode prog_1_method_1_code 68 = .ok (.aload_n 0, 1) := by decide +kernel
theorem d_RB_init_69 : decode prog_1_method_1_code 69 = .ok (.getfield 38, 3) := by decide +kernel
theorem d_RB_init_72 : decode prog_1_method_1_code 72 = .ok (.iload_n 1, 1) := by decide +kernel
theorem d_RB_init_73 : decode prog_1_method_1_code 73 = .ok (.new 36, 3) := by decide +kernel
theorem d_RB_init_76 : decode prog_1_method_1_code 76 = .ok (.dup, 1) := by decide +kernel
theorem d_RB_init_77 : decode prog_1_method_1_code 77 = .ok (.iconst 4, 1) := by decide +kernel
theorem d_RB_init_78 : decode prog_1_method_1_code 78 = .ok (.invokespecial 42, 3) := by decide +kernel
theorem d_RB_init_81 : decode prog_1_method_1_code 81 = .ok (.aastore, 1) := by decide +kernel
theorem d_RB_init_82 : decode prog_1_method_1_code 82 = .ok (.iinc 1 1, 3) := by decide +kernel
theorem d_RB_init_85 : decode prog_1_method_1_code 85 = .ok (.goto (-23), 3) := by decide +kernel
theorem d_RB_init_88 : decode prog_1_method_1_code 88 = .ok (.aload_n 0, 1) := by decide +kernel
theorem d_RB_init_89 : decode prog_1_method_1_code 89 = .ok (.bipush 10, 2) := by decide +kernel
theorem d_RB_init_91 : decode prog_1_method_1_code 91 = .ok (.newarray .int, 2) := by decide +kernel
theorem d_RB_init_93 : decode prog_1_method_1_code 93 = .ok (.putfield 45, 3) := by decide +kernel
theorem d_RB_init_96 : decode prog_1_method_1_code 96 = .ok (.aload_n 0, 1) := by decide +kernel
theorem d_RB_init_97 : decode prog_1_method_1_code 97 = .ok (.new 36, 3) := by decide +kernel
theorem d_RB_init_100 : decode prog_1_method_1_code 100 = .ok (.dup, 1) := by decide +kernel
theorem d_RB_init_101 : decode prog_1_method_1_code 101 = .ok (.bipush 8, 2) := by decide +kernel
theorem d_RB_init_103 : decode prog_1_method_1_code 103 = .ok (.invokespecial 42, 3) := by decide +kernel
theorem d_RB_init_106 : decode prog_1_method_1_code 106 = .ok (.putfield 49, 3) := by decide +kernel
theorem d_RB_init_109 : decode prog_1_method_1_code 109 = .ok (.return_, 1) := by decide +kernel
theorem d_RB_read_0 : decode prog_1_method_3_code 0 = .ok (.aload_n 0, 1) := by decide +kernel
theorem d_RB_read_1 : decode prog_1_method_3_code 1 = .ok (.aload_n 0, 1) := by decide +kernel
theorem d_RB_read_2 : decode prog_1_method_3_code 2 = .ok (.getfield 23, 3) := by decide +kernel
theorem d_RB_read_5 : decode prog_1_method_3_code 5 = .ok (.invokevirtual 70, 3) := by decide +kernel
theorem d_RB_read_8 : decode prog_1_method_3_code 8 = .ok (.istore_n 1, 1) := by decide +kernel
theorem d_RB_read_9 : decode prog_1_method_3_code 9 = .ok (.aload_n 0, 1) := by decide +kernel
theorem d_RB_read_10 : decode prog_1_method_3_code 10 = .ok (.getfield 10, 3) := by decide +kernel
theorem d_RB_read_13 : decode prog_1_method_3_code 13 = .ok (.invokevirtual 74, 3) := by decide +kernel
theorem d_RB_read_16 : decode prog_1_method_3_code 16 = .ok (.iload_n 1, 1) := by decide +kernel
theorem d_RB_read_17 : decode prog_1_method_3_code 17 = .ok (.iconst (-1), 1) := by decide +kernel
theorem d_RB_read_18 : decode prog_1_method_3_code 18 = .ok (.if_icmp .eq 7, 3) := by decide +kernel
theorem d_RB_read_21 : decode prog_1_method_3_code 21 = .ok (.iconst (-1), 1) := by decide +kernel
theorem d_RB_read_22 : decode prog_1_method_3_code 22 = .ok (.iload_n 1, 1) := by decide +kernel
theorem d_RB_read_23 : decode prog_1_method_3_code 23 = .ok (.isub, 1) := by decide +kernel
theorem d_RB_read_24 : decode prog_1_method_3_code 24 = .ok (.ireturn, 1) := by decide +kernel
theorem d_RB_read_25 : decode prog_1_method_3_code 25 = .ok (.aload_n 0, 1) := by decide +kernel
theorem d_RB_read_26 : decode prog_1_method_3_code 26 = .ok (.getfield 19, 3) := by decide +kernel
theorem d_RB_read_29 : decode prog_1_method_3_code 29 = .ok (.astore_n 2, 1) := by decide +kernel
theorem d_RB_read_30 : decode prog_1_method_3_code 30 = .ok (.aload_n 0, 1) := by decide +kernel
theorem d_RB_read_31 : decode prog_1_method_3_code 31 = .ok (.aload_n 0, 1) := by decide +kernel
theorem d_RB_read_32 : decode prog_1_method_3_code 32 = .ok (.getfield 23, 3) := by decide +kernel
theorem d_RB_read_35 : decode prog_1_method_3_code 35 = .ok (.putfield 19, 3) := by decide +kernel
theorem d_RB_read_38 : decode prog_1_method_3_code 38 = .ok (.aload_n 0, 1) := by decide +kernel
theorem d_RB_read_39 : decode prog_1_method_3_code 39 = .ok (.aload_n 2, 1) := by decide +kernel
theorem d_RB_read_40 : decode prog_1_method_3_code 40 = .ok (.putfield 23, 3) := by decide +kernel
theorem d_RB_read_43 : decode prog_1_method_3_code 43 = .ok (.aload_n 0, 1) := by decide +kernel
theorem d_RB_read_44 : decode prog_1_method_3_code 44 = .ok (.getfield 19, 3) := by decide +kernel
theorem d_RB_read_47 : decode prog_1_method_3_code 47 = .ok (.getfield 77, 3) := by decide +kernel
theorem d_RB_read_50 : decode prog_1_method_3_code 50 = .ok (.ireturn, 1) := by decide +kernel
theorem d_RB_readInto_0 : decode prog_1_method_24_code 0 = .ok (.aload_n 1, 1) := by decide +kernel
theorem d_RB_readInto_1 : decode prog_1_method_24_code 1 = .ok (.invokevirtual 207, 3) := by decide +kernel
theorem d_RB_readInto_4 : decode prog_1_method_24_code 4 = .ok (.iconst 0, 1) := by decide +kernel
theorem d_RB_readInto_5 : decode prog_1_method_24_code 5 = .ok (.istore_n 2, 1) := by decide +kernel
theorem d_RB_readInto_6 : decode prog_1_method_24_code 6 = .ok (.iconst 0, 1) := by decide +kernel
theorem d_RB_readInto_7 : decode prog_1_method_24_code 7 = .ok (.istore_n 3, 1) := by decide +kernel
theorem d_RB_readInto_8 : decode prog_1_method_24_code 8 = .ok (.iload_n 3, 1) := by decide +kernel
theorem d_RB_readInto_9 : decode prog_1_method_24_code 9 = .ok (.bipush 60, 2) := by decide +kernel
theorem d_RB_readInto_11 : decode prog_1_method_24_code 11 = .ok (.if_icmp .ge 63, 3) := by decide +kernel
theorem d_RB_readInto_14 : decode prog_1_method_24_code 14 = .ok (.iload_n 2, 1) := by decide +kernel
theorem d_RB_readInto_15 : decode prog_1_method_24_code 15 = .ok (.aload_n 0, 1) := by decide +kernel
theorem d_RB_readInto_16 : decode prog_1_method_24_code 16 = .ok (.getfield 10, 3) := by decide +kernel
theorem d_RB_readInto_19 : decode prog_1_method_24_code 19 = .ok (.getfield 57, 3) := by decide +kernel
theorem d_RB_readInto_22 : decode prog_1_method_24_code 22 = .ok (.if_icmp .ge 52, 3) := by decide +kernel
theorem d_RB_readInto_25 : decode prog_1_method_24_code 25 = .ok (.aload_n 0, 1) := by decide +kernel
theorem d_RB_readInto_26 : decode prog_1_method_24_code 26 = .ok (.getfield 10, 3) := by decide +kernel
theorem d_RB_readInto_29 : decode prog_1_method_24_code 29 = .ok (.iload_n 2, 1) := by decide +kernel
theorem d_RB_readInto_30 : decode prog_1_method_24_code 30 = .ok (.invokevirtual 208, 3) := by decide +kernel
theorem d_RB_readInto_33 : decode prog_1_method_24_code 33 = .ok (.istore 4, 2) := by decide +kernel
theorem d_RB_readInto_35 : decode prog_1_method_24_code 35 = .ok (.iload 4, 2) := by decide +kernel
theorem d_RB_readInto_37 : decode prog_1_method_24_code 37 = .ok (.iconst (-1), 1) := by decide +kernel
theorem d_RB_readInto_38 : decode prog_1_method_24_code 38 = .ok (.if_icmp .eq 25, 3) := by decide +kernel
theorem d_RB_readInto_41 : decode prog_1_method_24_code 41 = .ok (.aload_n 1, 1) := by decide +kernel
theorem d_RB_readInto_42 : decode prog_1_method_24_code 42 = .ok (.aload_n 0, 1) := by decide +kernel
theorem d_RB_readInto_43 : decode prog_1_method_24_code 43 = .ok (.getfield 10, 3) := by decide +kernel
theorem d_RB_readInto_46 : decode prog_1_method_24_code 46 = .ok (.iload_n 2, 1) := by decide +kernel
theorem d_RB_readInto_47 : decode prog_1_method_24_code 47 = .ok (.invokevirtual 211, 3) := by decide +kernel
theorem d_RB_readInto_50 : decode prog_1_method_24_code 50 = .ok (.aload_n 0, 1) := by decide +kernel
theorem d_RB_readInto_51 : decode prog_1_method_24_code 51 = .ok (.getfield 10, 3) := by decide +kernel
theorem d_RB_readInto_54 : decode prog_1_method_24_code 54 = .ok (.getfield 214, 3) := by decide +kernel
theorem d_RB_readInto_57 : decode prog_1_method_24_code 57 = .ok (.invokevirtual 217, 3) := by decide +kernel
theorem d_RB_readInto_60 : decode prog_1_method_24_code 60 = .ok (.ifCond .ne 5, 3) := by decide +kernel
theorem d_RB_readInto_63 : decode prog_1_method_24_code 63 = .ok (.iload_n 2, 1) := by decide +kernel
theorem d_RB_readInto_64 : decode prog_1_method_24_code 64 = .ok (.ireturn, 1) := by decide +kernel
theorem d_RB_readInto_65 : decode prog_1_method_24_code 65 = .ok (.iload 4, 2) := by decide +kernel
theorem d_RB_readInto_67 : decode prog_1_method_24_code 67 = .ok (.istore_n 2, 1) := by decide +kernel
theorem d_RB_readInto_68 : decode prog_1_method_24_code 68 = .ok (.iinc 3 1, 3) := by decide +kernel
theorem d_RB_readInto_71 : decode prog_1_method_24_code 71 = .ok (.goto (-63), 3) := by decide +kernel
theorem d_RB_readInto_74 : decode prog_1_method_24_code 74 = .ok (.iload_n 2, 1) := by decide +kernel
theorem d_RB_readInto_75 : decode prog_1_method_24_code 75 = .ok (.aload_n 0, 1) := by decide +kernel
theorem d_RB_readInto_76 : decode prog_1_method_24_code 76 = .ok (.getfield 10, 3) := by decide +kernel
theorem d_RB_readInto_79 : decode prog_1_method_24_code 79 = .ok (.getfield 57, 3) := by decide +kernel
theorem d_RB_readInto_82 : decode prog_1_method_24_code 82 = .ok (.if_icmp .ge 7, 3) := by decide +kernel
theorem d_RB_readInto_85 : decode prog_1_method_24_code 85 = .ok (.iload_n 2, 1) := by decide +kernel
theorem d_RB_readInto_86 : decode prog_1_method_24_code 86 = .ok (.goto 4, 3) := by decide +kernel
theorem d_RB_readInto_89 : decode prog_1_method_24_code 89 = .ok (.iconst (-1), 1) := by decide +kernel
theorem d_RB_readInto_90 : decode prog_1_method_24_code 90 = .ok (.ireturn, 1) := by decide +kernel
theorem d_RB_laneOf_0 : decode prog_1_method_26_code 0 = .ok (.iload_n 0, 1) := by decide +kernel
theorem d_RB_laneOf_1 : decode prog_1_method_26_code 1 = .ok (.bipush 10, 2) := by decide +kernel
theorem d_RB_laneOf_3 : decode prog_1_method_26_code 3 = .ok (.imul, 1) := by decide +kernel
theorem d_RB_laneOf_4 : decode prog_1_method_26_code 4 = .ok (.iload_n 1, 1) := by decide +kernel
theorem d_RB_laneOf_5 : decode prog_1_method_26_code 5 = .ok (.iadd, 1) := by decide +kernel
theorem d_RB_laneOf_6 : decode prog_1_method_26_code 6 = .ok (.ireturn, 1) := by decide +kernel
theorem d_RB_count_0 : decode prog_1_method_18_code 0 = .ok (.iload_n 1, 1) := by decide +kernel
theorem d_RB_count_1 : decode prog_1_method_18_code 1 = .ok (.ifCond .ne 11, 3) := by decide +kernel
theorem d_RB_count_4 : decode prog_1_method_18_code 4 = .ok (.aload_n 0, 1) := by decide +kernel
theorem d_RB_count_5 : decode prog_1_method_18_code 5 = .ok (.getfield 10, 3) := by decide +kernel
theorem d_RB_count_8 : decode prog_1_method_18_code 8 = .ok (.getfield 57, 3) := by decide +kernel
theorem d_RB_count_11 : decode prog_1_method_18_code 11 = .ok (.ireturn, 1) := by decide +kernel
theorem d_RB_count_12 : decode prog_1_method_18_code 12 = .ok (.iload_n 1, 1) := by decide +kernel
theorem d_RB_count_13 : decode prog_1_method_18_code 13 = .ok (.iconst 1, 1) := by decide +kernel
theorem d_RB_count_14 : decode prog_1_method_18_code 14 = .ok (.if_icmp .ne 11, 3) := by decide +kernel
theorem d_RB_count_17 : decode prog_1_method_18_code 17 = .ok (.aload_n 0, 1) := by decide +kernel
theorem d_RB_count_18 : decode prog_1_method_18_code 18 = .ok (.getfield 19, 3) := by decide +kernel
theorem d_RB_count_21 : decode prog_1_method_18_code 21 = .ok (.getfield 77, 3) := by decide +kernel
theorem d_RB_count_24 : decode prog_1_method_18_code 24 = .ok (.ireturn, 1) := by decide +kernel
theorem d_RB_count_25 : decode prog_1_method_18_code 25 = .ok (.iload_n 1, 1) := by decide +kernel
theorem d_RB_count_26 : decode prog_1_method_18_code 26 = .ok (.iconst 2, 1) := by decide +kernel
theorem d_RB_count_27 : decode prog_1_method_18_code 27 = .ok (.if_icmp .lt 8, 3) := by decide +kernel
theorem d_RB_count_30 : decode prog_1_method_18_code 30 = .ok (.iload_n 1, 1) := by decide +kernel
theorem d_RB_count_31 : decode prog_1_method_18_code 31 = .ok (.iconst 5, 1) := by decide +kernel
theorem d_RB_count_32 : decode prog_1_method_18_code 32 = .ok (.if_icmp .le 5, 3) := by decide +kernel
theorem d_RB_count_35 : decode prog_1_method_18_code 35 = .ok (.iconst (-1), 1) := by decide +kernel
theorem d_RB_count_36 : decode prog_1_method_18_code 36 = .ok (.ireturn, 1) := by decide +kernel
theorem d_RB_count_37 : decode prog_1_method_18_code 37 = .ok (.iconst 0, 1) := by decide +kernel
theorem d_RB_count_38 : decode prog_1_method_18_code 38 = .ok (.istore_n 2, 1) := by decide +kernel
theorem d_RB_count_39 : decode prog_1_method_18_code 39 = .ok (.iconst 0, 1) := by decide +kernel
theorem d_RB_count_40 : decode prog_1_method_18_code 40 = .ok (.istore_n 3, 1) := by decide +kernel
theorem d_RB_count_41 : decode prog_1_method_18_code 41 = .ok (.iload_n 3, 1) := by decide +kernel
theorem d_RB_count_42 : decode prog_1_method_18_code 42 = .ok (.bipush 20, 2) := by decide +kernel
theorem d_RB_count_44 : decode prog_1_method_18_code 44 = .ok (.if_icmp .ge 31, 3) := by decide +kernel
theorem d_RB_count_47 : decode prog_1_method_18_code 47 = .ok (.aload_n 0, 1) := by decide +kernel
theorem d_RB_count_48 : decode prog_1_method_18_code 48 = .ok (.getfield 28, 3) := by decide +kernel
theorem d_RB_count_51 : decode prog_1_method_18_code 51 = .ok (.iload_n 3, 1) := by decide +kernel
theorem d_RB_count_52 : decode prog_1_method_18_code 52 = .ok (.aaload, 1) := by decide +kernel
theorem d_RB_count_53 : decode prog_1_method_18_code 53 = .ok (.astore 4, 2) := by decide +kernel
theorem d_RB_count_55 : decode prog_1_method_18_code 55 = .ok (.aload 4, 2) := by decide +kernel
theorem d_RB_count_57 : decode prog_1_method_18_code 57 = .ok (.ifnull 12, 3) := by decide +kernel
theorem d_RB_count_60 : decode prog_1_method_18_code 60 = .ok (.iload_n 2, 1) := by decide +kernel
theorem d_RB_count_61 : decode prog_1_method_18_code 61 = .ok (.aload 4, 2) := by decide +kernel
theorem d_RB_count_63 : decode prog_1_method_18_code 63 = .ok (.iload_n 1, 1) := by decide +kernel
theorem d_RB_count_64 : decode prog_1_method_18_code 64 = .ok (.invokestatic 189, 3) := by decide +kernel
theorem d_RB_count_67 : decode prog_1_method_18_code 67 = .ok (.iadd, 1) := by decide +kernel
theorem d_RB_count_68 : decode prog_1_method_18_code 68 = .ok (.istore_n 2, 1) := by decide +kernel
theorem d_RB_count_69 : decode prog_1_method_18_code 69 = .ok (.iinc 3 1, 3) := by decide +kernel
theorem d_RB_count_72 : decode prog_1_method_18_code 72 = .ok (.goto (-31), 3) := by decide +kernel
theorem d_RB_count_75 : decode prog_1_method_18_code 75 = .ok (.iload_n 2, 1) := by decide +kernel
theorem d_RB_count_76 : decode prog_1_method_18_code 76 = .ok (.ireturn, 1) := by decide +kernel
theorem d_RB_addend_0 : decode prog_1_method_19_code 0 = .ok (.iload_n 1, 1) := by decide +kernel
theorem d_RB_addend_1 : decode prog_1_method_19_code 1 = .ok (.tableswitch 78 2 5 #[31, 33, 46, 62], 31) := by decide +kernel
theorem d_RB_addend_32 : decode prog_1_method_19_code 32 = .ok (.iconst 1, 1) := by decide +kernel
theorem d_RB_addend_33 : decode prog_1_method_19_code 33 = .ok (.ireturn, 1) := by decide +kernel
theorem d_RB_addend_34 : decode prog_1_method_19_code 34 = .ok (.aload_n 0, 1) := by decide +kernel
theorem d_RB_addend_35 : decode prog_1_method_19_code 35 = .ok (.invokevirtual 127, 3) := by decide +kernel
theorem d_RB_addend_38 : decode prog_1_method_19_code 38 = .ok (.ifCond .eq 7, 3) := by decide +kernel
theorem d_RB_addend_41 : decode prog_1_method_19_code 41 = .ok (.iconst 1, 1) := by decide +kernel
theorem d_RB_addend_42 : decode prog_1_method_19_code 42 = .ok (.goto 4, 3) := by decide +kernel
theorem d_RB_addend_45 : decode prog_1_method_19_code 45 = .ok (.iconst 0, 1) := by decide +kernel
theorem d_RB_addend_46 : decode prog_1_method_19_code 46 = .ok (.ireturn, 1) := by decide +kernel
theorem d_RB_addend_47 : decode prog_1_method_19_code 47 = .ok (.aload_n 0, 1) := by decide +kernel
theorem d_RB_addend_48 : decode prog_1_method_19_code 48 = .ok (.invokevirtual 127, 3) := by decide +kernel
theorem d_RB_addend_51 : decode prog_1_method_19_code 51 = .ok (.ifCond .eq 10, 3) := by decide +kernel
theorem d_RB_addend_54 : decode prog_1_method_19_code 54 = .ok (.aload_n 0, 1) := by decide +kernel
theorem d_RB_addend_55 : decode prog_1_method_19_code 55 = .ok (.getfield 141, 3) := by decide +kernel
theorem d_RB_addend_58 : decode prog_1_method_19_code 58 = .ok (.goto 4, 3) := by decide +kernel
theorem d_RB_addend_61 : decode prog_1_method_19_code 61 = .ok (.iconst 0, 1) := by decide +kernel
theorem d_RB_addend_62 : decode prog_1_method_19_code 62 = .ok (.ireturn, 1) := by decide +kernel
theorem d_RB_addend_63 : decode prog_1_method_19_code 63 = .ok (.aload_n 0, 1) := by decide +kernel
theorem d_RB_addend_64 : decode prog_1_method_19_code 64 = .ok (.invokevirtual 156, 3) := by decide +kernel
theorem d_RB_addend_67 : decode prog_1_method_19_code 67 = .ok (.ifCond .eq 10, 3) := by decide +kernel
theorem d_RB_addend_70 : decode prog_1_method_19_code 70 = .ok (.aload_n 0, 1) := by decide +kernel
theorem d_RB_addend_71 : decode prog_1_method_19_code 71 = .ok (.getfield 161, 3) := by decide +kernel
theorem d_RB_addend_74 : decode prog_1_method_19_code 74 = .ok (.goto 4, 3) := by decide +kernel
theorem d_RB_addend_77 : decode prog_1_method_19_code 77 = .ok (.iconst 0, 1) := by decide +kernel
theorem d_RB_addend_78 : decode prog_1_method_19_code 78 = .ok (.ireturn, 1) := by decide +kernel
theorem d_RB_addend_79 : decode prog_1_method_19_code 79 = .ok (.iconst 0, 1) := by decide +kernel
theorem d_RB_addend_80 : decode prog_1_method_19_code 80 = .ok (.ireturn, 1) := by decide +kernel
theorem d_RB_sign_0 : decode prog_1_method_2_code 0 = .ok (.iload_n 1, 1) := by decide +kernel
theorem d_RB_sign_1 : decode prog_1_method_2_code 1 = .ok (.iconst 0, 1) := by decide +kernel
theorem d_RB_sign_2 : decode prog_1_method_2_code 2 = .ok (.sipush 255, 3) := by decide +kernel
theorem d_RB_sign_5 : decode prog_1_method_2_code 5 = .ok (.invokestatic 53, 3) := by decide +kernel
theorem d_RB_sign_8 : decode prog_1_method_2_code 8 = .ok (.aload_n 0, 1) := by decide +kernel
theorem d_RB_sign_9 : decode prog_1_method_2_code 9 = .ok (.getfield 10, 3) := by decide +kernel
theorem d_RB_sign_12 : decode prog_1_method_2_code 12 = .ok (.getfield 57, 3) := by decide +kernel
theorem d_RB_sign_15 : decode prog_1_method_2_code 15 = .ok (.sipush 600, 3) := by decide +kernel
theorem d_RB_sign_18 : decode prog_1_method_2_code 18 = .ok (.if_icmp .lt 13, 3) := by decide +kernel
theorem d_RB_sign_21 : decode prog_1_method_2_code 21 = .ok (.new 60, 3) := by decide +kernel
theorem d_RB_sign_24 : decode prog_1_method_2_code 24 = .ok (.dup, 1) := by decide +kernel
theorem d_RB_sign_25 : decode prog_1_method_2_code 25 = .ok (.ldc 62, 2) := by decide +kernel
theorem d_RB_sign_27 : decode prog_1_method_2_code 27 = .ok (.invokespecial 64, 3) := by decide +kernel
theorem d_RB_sign_30 : decode prog_1_method_2_code 30 = .ok (.athrow, 1) := by decide +kernel
theorem d_RB_sign_31 : decode prog_1_method_2_code 31 = .ok (.aload_n 0, 1) := by decide +kernel
theorem d_RB_sign_32 : decode prog_1_method_2_code 32 = .ok (.getfield 10, 3) := by decide +kernel
theorem d_RB_sign_35 : decode prog_1_method_2_code 35 = .ok (.iload_n 1, 1) := by decide +kernel
theorem d_RB_sign_36 : decode prog_1_method_2_code 36 = .ok (.invokevirtual 67, 3) := by decide +kernel
theorem d_RB_sign_39 : decode prog_1_method_2_code 39 = .ok (.aload_n 0, 1) := by decide +kernel
theorem d_RB_sign_40 : decode prog_1_method_2_code 40 = .ok (.getfield 10, 3) := by decide +kernel
theorem d_RB_sign_43 : decode prog_1_method_2_code 43 = .ok (.getfield 57, 3) := by decide +kernel
theorem d_RB_sign_46 : decode prog_1_method_2_code 46 = .ok (.ireturn, 1) := by decide +kernel
theorem d_RB_needWithin_0 : decode prog_1_method_20_code 0 = .ok (.iload_n 0, 1) := by decide +kernel
theorem d_RB_needWithin_1 : decode prog_1_method_20_code 1 = .ok (.iload_n 1, 1) := by decide +kernel
theorem d_RB_needWithin_2 : decode prog_1_method_20_code 2 = .ok (.if_icmp .lt 8, 3) := by decide +kernel
theorem d_RB_needWithin_5 : decode prog_1_method_20_code 5 = .ok (.iload_n 0, 1) := by decide +kernel
theorem d_RB_needWithin_6 : decode prog_1_method_20_code 6 = .ok (.iload_n 2, 1) := by decide +kernel
theorem d_RB_needWithin_7 : decode prog_1_method_20_code 7 = .ok (.if_icmp .le 13, 3) := by decide +kernel
theorem d_RB_needWithin_10 : decode prog_1_method_20_code 10 = .ok (.new 166, 3) := by decide +kernel
theorem d_RB_needWithin_13 : decode prog_1_method_20_code 13 = .ok (.dup, 1) := by decide +kernel
theorem d_RB_needWithin_14 : decode prog_1_method_20_code 14 = .ok (.ldc 192, 2) := by decide +kernel
theorem d_RB_needWithin_16 : decode prog_1_method_20_code 16 = .ok (.invokespecial 170, 3) := by decide +kernel
theorem d_RB_needWithin_19 : decode prog_1_method_20_code 19 = .ok (.athrow, 1) := by decide +kernel
theorem d_RB_needWithin_20 : decode prog_1_method_20_code 20 = .ok (.return_, 1) := by decide +kernel
theorem d_RB_shipment_0 : decode prog_1_method_4_code 0 = .ok (.iload_n 1, 1) := by decide +kernel
theorem d_RB_shipment_1 : decode prog_1_method_4_code 1 = .ok (.iconst 0, 1) := by decide +kernel
theorem d_RB_shipment_2 : decode prog_1_method_4_code 2 = .ok (.bipush 9, 2) := by decide +kernel
theorem d_RB_shipment_4 : decode prog_1_method_4_code 4 = .ok (.invokestatic 53, 3) := by decide +kernel
theorem d_RB_shipment_7 : decode prog_1_method_4_code 7 = .ok (.iload_n 2, 1) := by decide +kernel
theorem d_RB_shipment_8 : decode prog_1_method_4_code 8 = .ok (.iconst 1, 1) := by decide +kernel
theorem d_RB_shipment_9 : decode prog_1_method_4_code 9 = .ok (.ldc 80, 2) := by decide +kernel
theorem d_RB_shipment_11 : decode prog_1_method_4_code 11 = .ok (.invokestatic 53, 3) := by decide +kernel
theorem d_RB_shipment_14 : decode prog_1_method_4_code 14 = .ok (.iload_n 3, 1) := by decide +kernel
theorem d_RB_shipment_15 : decode prog_1_method_4_code 15 = .ok (.iconst 0, 1) := by decide +kernel
theorem d_RB_shipment_16 : decode prog_1_method_4_code 16 = .ok (.ldc 81, 2) := by decide +kernel
theorem d_RB_shipment_18 : decode prog_1_method_4_code 18 = .ok (.invokestatic 53, 3) := by decide +kernel
theorem d_RB_shipment_21 : decode prog_1_method_4_code 21 = .ok (.aload_n 0, 1) := by decide +kernel
theorem d_RB_shipment_22 : decode prog_1_method_4_code 22 = .ok (.getfield 32, 3) := by decide +kernel
theorem d_RB_shipment_25 : decode prog_1_method_4_code 25 = .ok (.bipush 20, 2) := by decide +kernel
theorem d_RB_shipment_27 : decode prog_1_method_4_code 27 = .ok (.if_icmp .lt 13, 3) := by decide +kernel
theorem d_RB_shipment_30 : decode prog_1_method_4_code 30 = .ok (.new 60, 3) := by decide +kernel
theorem d_RB_shipment_33 : decode prog_1_method_4_code 33 = .ok (.dup, 1) := by decide +kernel
theorem d_RB_shipment_34 : decode prog_1_method_4_code 34 = .ok (.ldc 82, 2) := by decide +kernel
theorem d_RB_shipment_36 : decode prog_1_method_4_code 36 = .ok (.invokespecial 64, 3) := by decide +kernel
theorem d_RB_shipment_39 : decode prog_1_method_4_code 39 = .ok (.athrow, 1) := by decide +kernel
theorem d_RB_shipment_40 : decode prog_1_method_4_code 40 = .ok (.aload_n 0, 1) := by decide +kernel
theorem d_RB_shipment_41 : decode prog_1_method_4_code 41 = .ok (.getfield 28, 3) := by decide +kernel
theorem d_RB_shipment_44 : decode prog_1_method_4_code 44 = .ok (.aload_n 0, 1) := by decide +kernel
theorem d_RB_shipment_45 : decode prog_1_method_4_code 45 = .ok (.getfield 32, 3) := by decide +kernel
theorem d_RB_shipment_48 : decode prog_1_method_4_code 48 = .ok (.new 26, 3) := by decide +kernel
theorem d_RB_shipment_51 : decode prog_1_method_4_code 51 = .ok (.dup, 1) := by decide +kernel
theorem d_RB_shipment_52 : decode prog_1_method_4_code 52 = .ok (.iload_n 1, 1) := by decide +kernel
theorem d_RB_shipment_53 : decode prog_1_method_4_code 53 = .ok (.iload_n 2, 1) := by decide +kernel
theorem d_RB_shipment_54 : decode prog_1_method_4_code 54 = .ok (.iload_n 3, 1) := by decide +kernel
theorem d_RB_shipment_55 : decode prog_1_method_4_code 55 = .ok (.invokespecial 84, 3) := by decide +kernel
theorem d_RB_shipment_58 : decode prog_1_method_4_code 58 = .ok (.aastore, 1) := by decide +kernel
theorem d_RB_shipment_59 : decode prog_1_method_4_code 59 = .ok (.aload_n 0, 1) := by decide +kernel
theorem d_RB_shipment_60 : decode prog_1_method_4_code 60 = .ok (.dup, 1) := by decide +kernel
theorem d_RB_shipment_61 : decode prog_1_method_4_code 61 = .ok (.getfield 32, 3) := by decide +kernel
theorem d_RB_shipment_64 : decode prog_1_method_4_code 64 = .ok (.iconst 1, 1) := by decide +kernel
theorem d_RB_shipment_65 : decode prog_1_method_4_code 65 = .ok (.iadd, 1) := by decide +kernel
theorem d_RB_shipment_66 : decode prog_1_method_4_code 66 = .ok (.putfield 32, 3) := by decide +kernel
theorem d_RB_shipment_69 : decode prog_1_method_4_code 69 = .ok (.aload_n 0, 1) := by decide +kernel
theorem d_RB_shipment_70 : decode prog_1_method_4_code 70 = .ok (.getfield 32, 3) := by decide +kernel
theorem d_RB_shipment_73 : decode prog_1_method_4_code 73 = .ok (.iconst 1, 1) := by decide +kernel
theorem d_RB_shipment_74 : decode prog_1_method_4_code 74 = .ok (.isub, 1) := by decide +kernel
theorem d_RB_shipment_75 : decode prog_1_method_4_code 75 = .ok (.ireturn, 1) := by decide +kernel
theorem d_RB_weight_0 : decode prog_1_method_5_code 0 = .ok (.aload_n 0, 1) := by decide +kernel
theorem d_RB_weight_1 : decode prog_1_method_5_code 1 = .ok (.iload_n 1, 1) := by decide +kernel
theorem d_RB_weight_2 : decode prog_1_method_5_code 2 = .ok (.invokevirtual 86, 3) := by decide +kernel
theorem d_RB_weight_5 : decode prog_1_method_5_code 5 = .ok (.astore_n 3, 1) := by decide +kernel
theorem d_RB_weight_6 : decode prog_1_method_5_code 6 = .ok (.iload_n 2, 1) := by decide +kernel
theorem d_RB_weight_7 : decode prog_1_method_5_code 7 = .ok (.invokestatic 90, 3) := by decide +kernel
theorem d_RB_weight_10 : decode prog_1_method_5_code 10 = .ok (.aload_n 0, 1) := by decide +kernel
theorem d_RB_weight_11 : decode prog_1_method_5_code 11 = .ok (.getfield 19, 3) := by decide +kernel
theorem d_RB_weight_14 : decode prog_1_method_5_code 14 = .ok (.aload_n 3, 1) := by decide +kernel
theorem d_RB_weight_15 : decode prog_1_method_5_code 15 = .ok (.iload_n 2, 1) := by decide +kernel
theorem d_RB_weight_16 : decode prog_1_method_5_code 16 = .ok (.invokevirtual 93, 3) := by decide +kernel
theorem d_RB_weight_19 : decode prog_1_method_5_code 19 = .ok (.ireturn, 1) := by decide +kernel
theorem d_RB_present_0 : decode prog_1_method_23_code 0 = .ok (.iload_n 1, 1) := by decide +kernel
theorem d_RB_present_1 : decode prog_1_method_23_code 1 = .ok (.ifCond .lt 18, 3) := by decide +kernel
theorem d_RB_present_4 : decode prog_1_method_23_code 4 = .ok (.iload_n 1, 1) := by decide +kernel
theorem d_RB_present_5 : decode prog_1_method_23_code 5 = .ok (.bipush 20, 2) := by decide +kernel
theorem d_RB_present_7 : decode prog_1_method_23_code 7 = .ok (.if_icmp .ge 12, 3) := by decide +kernel
theorem d_RB_present_10 : decode prog_1_method_23_code 10 = .ok (.aload_n 0, 1) := by decide +kernel
theorem d_RB_present_11 : decode prog_1_method_23_code 11 = .ok (.getfield 28, 3) := by decide +kernel
theorem d_RB_present_14 : decode prog_1_method_23_code 14 = .ok (.iload_n 1, 1) := by decide +kernel
theorem d_RB_present_15 : decode prog_1_method_23_code 15 = .ok (.aaload, 1) := by decide +kernel
theorem d_RB_present_16 : decode prog_1_method_23_code 16 = .ok (.goto 4, 3) := by decide +kernel
theorem d_RB_present_19 : decode prog_1_method_23_code 19 = .ok (.aconst_null, 1) := by decide +kernel
theorem d_RB_present_20 : decode prog_1_method_23_code 20 = .ok (.astore_n 2, 1) := by decide +kernel
theorem d_RB_present_21 : decode prog_1_method_23_code 21 = .ok (.aload_n 2, 1) := by decide +kernel
theorem d_RB_present_22 : decode prog_1_method_23_code 22 = .ok (.ifnonnull 13, 3) := by decide +kernel
theorem d_RB_present_25 : decode prog_1_method_23_code 25 = .ok (.new 202, 3) := by decide +kernel
theorem d_RB_present_28 : decode prog_1_method_23_code 28 = .ok (.dup, 1) := by decide +kernel
theorem d_RB_present_29 : decode prog_1_method_23_code 29 = .ok (.ldc 204, 2) := by decide +kernel
theorem d_RB_present_31 : decode prog_1_method_23_code 31 = .ok (.invokespecial 206, 3) := by decide +kernel
theorem d_RB_present_34 : decode prog_1_method_23_code 34 = .ok (.athrow, 1) := by decide +kernel
theorem d_RB_present_35 : decode prog_1_method_23_code 35 = .ok (.aload_n 2, 1) := by decide +kernel
theorem d_RB_present_36 : decode prog_1_method_23_code 36 = .ok (.areturn, 1) := by decide +kernel
theorem d_RB_needService_0 : decode prog_1_method_21_code 0 = .ok (.iload_n 0, 1) := by decide +kernel
theorem d_RB_needService_1 : decode prog_1_method_21_code 1 = .ok (.ifCond .lt 9, 3) := by decide +kernel
theorem d_RB_needService_4 : decode prog_1_method_21_code 4 = .ok (.iload_n 0, 1) := by decide +kernel
theorem d_RB_needService_5 : decode prog_1_method_21_code 5 = .ok (.bipush 10, 2) := by decide +kernel
theorem d_RB_needService_7 : decode prog_1_method_21_code 7 = .ok (.if_icmp .lt 13, 3) := by decide +kernel
theorem d_RB_needService_10 : decode prog_1_method_21_code 10 = .ok (.new 166, 3) := by decide +kernel
theorem d_RB_needService_13 : decode prog_1_method_21_code 13 = .ok (.dup, 1) := by decide +kernel
theorem d_RB_needService_14 : decode prog_1_method_21_code 14 = .ok (.ldc 194, 2) := by decide +kernel
theorem d_RB_needService_16 : decode prog_1_method_21_code 16 = .ok (.invokespecial 170, 3) := by decide +kernel
theorem d_RB_needService_19 : decode prog_1_method_21_code 19 = .ok (.athrow, 1) := by decide +kernel
theorem d_RB_needService_20 : decode prog_1_method_21_code 20 = .ok (.return_, 1) := by decide +kernel
theorem d_RB_dividedUp_0 : decode prog_1_method_28_code 0 = .ok (.lload_n 0, 1) := by decide +kernel
theorem d_RB_dividedUp_1 : decode prog_1_method_28_code 1 = .ok (.lload_n 2, 1) := by decide +kernel
theorem d_RB_dividedUp_2 : decode prog_1_method_28_code 2 = .ok (.ladd, 1) := by decide +kernel
theorem d_RB_dividedUp_3 : decode prog_1_method_28_code 3 = .ok (.lconst 1, 1) := by decide +kernel
theorem d_RB_dividedUp_4 : decode prog_1_method_28_code 4 = .ok (.lsub, 1) := by decide +kernel
theorem d_RB_dividedUp_5 : decode prog_1_method_28_code 5 = .ok (.lload_n 2, 1) := by decide +kernel
theorem d_RB_dividedUp_6 : decode prog_1_method_28_code 6 = .ok (.invokestatic 183, 3) := by decide +kernel
theorem d_RB_dividedUp_9 : decode prog_1_method_28_code 9 = .ok (.lreturn, 1) := by decide +kernel
theorem d_RB_dividedDown_0 : decode prog_1_method_27_code 0 = .ok (.lload_n 2, 1) := by decide +kernel
theorem d_RB_dividedDown_1 : decode prog_1_method_27_code 1 = .ok (.lconst 0, 1) := by decide +kernel
theorem d_RB_dividedDown_2 : decode prog_1_method_27_code 2 = .ok (.lcmp, 1) := by decide +kernel
theorem d_RB_dividedDown_3 : decode prog_1_method_27_code 3 = .ok (.ifCond .ne 13, 3) := by decide +kernel
theorem d_RB_dividedDown_6 : decode prog_1_method_27_code 6 = .ok (.new 231, 3) := by decide +kernel
theorem d_RB_dividedDown_9 : decode prog_1_method_27_code 9 = .ok (.dup, 1) := by decide +kernel
theorem d_RB_dividedDown_10 : decode prog_1_method_27_code 10 = .ok (.ldc 233, 2) := by decide +kernel
theorem d_RB_dividedDown_12 : decode prog_1_method_27_code 12 = .ok (.invokespecial 235, 3) := by decide +kernel
theorem d_RB_dividedDown_15 : decode prog_1_method_27_code 15 = .ok (.athrow, 1) := by decide +kernel
theorem d_RB_dividedDown_16 : decode prog_1_method_27_code 16 = .ok (.lload_n 0, 1) := by decide +kernel
theorem d_RB_dividedDown_17 : decode prog_1_method_27_code 17 = .ok (.lload_n 2, 1) := by decide +kernel
theorem d_RB_dividedDown_18 : decode prog_1_method_27_code 18 = .ok (.ldiv, 1) := by decide +kernel
theorem d_RB_dividedDown_19 : decode prog_1_method_27_code 19 = .ok (.lreturn, 1) := by decide +kernel
theorem d_RB_price_0 : decode prog_1_method_6_code 0 = .ok (.aload_n 0, 1) := by decide +kernel
theorem d_RB_price_1 : decode prog_1_method_6_code 1 = .ok (.iload_n 1, 1) := by decide +kernel
theorem d_RB_price_2 : decode prog_1_method_6_code 2 = .ok (.invokevirtual 86, 3) := by decide +kernel
theorem d_RB_price_5 : decode prog_1_method_6_code 5 = .ok (.astore_n 3, 1) := by decide +kernel
theorem d_RB_price_6 : decode prog_1_method_6_code 6 = .ok (.iload_n 2, 1) := by decide +kernel
theorem d_RB_price_7 : decode prog_1_method_6_code 7 = .ok (.invokestatic 90, 3) := by decide +kernel
theorem d_RB_price_10 : decode prog_1_method_6_code 10 = .ok (.aload_n 0, 1) := by decide +kernel
theorem d_RB_price_11 : decode prog_1_method_6_code 11 = .ok (.aload_n 3, 1) := by decide +kernel
theorem d_RB_price_12 : decode prog_1_method_6_code 12 = .ok (.iload_n 2, 1) := by decide +kernel
theorem d_RB_price_13 : decode prog_1_method_6_code 13 = .ok (.invokevirtual 97, 3) := by decide +kernel
theorem d_RB_price_16 : decode prog_1_method_6_code 16 = .ok (.ireturn, 1) := by decide +kernel
theorem d_RB_priceNow_0 : decode prog_1_method_25_code 0 = .ok (.aload_n 0, 1) := by decide +kernel
theorem d_RB_priceNow_1 : decode prog_1_method_25_code 1 = .ok (.getfield 19, 3) := by decide +kernel
theorem d_RB_priceNow_4 : decode prog_1_method_25_code 4 = .ok (.iload_n 2, 1) := by decide +kernel
theorem d_RB_priceNow_5 : decode prog_1_method_25_code 5 = .ok (.aload_n 1, 1) := by decide +kernel
theorem d_RB_priceNow_6 : decode prog_1_method_25_code 6 = .ok (.getfield 103, 3) := by decide +kernel
theorem d_RB_priceNow_9 : decode prog_1_method_25_code 9 = .ok (.invokestatic 106, 3) := by decide +kernel
theorem d_RB_priceNow_12 : decode prog_1_method_25_code 12 = .ok (.aload_n 0, 1) := by decide +kernel
theorem d_RB_priceNow_13 : decode prog_1_method_25_code 13 = .ok (.getfield 19, 3) := by decide +kernel
theorem d_RB_priceNow_16 : decode prog_1_method_25_code 16 = .ok (.aload_n 1, 1) := by decide +kernel
theorem d_RB_priceNow_17 : decode prog_1_method_25_code 17 = .ok (.iload_n 2, 1) := by decide +kernel
theorem d_RB_priceNow_18 : decode prog_1_method_25_code 18 = .ok (.invokevirtual 93, 3) := by decide +kernel
theorem d_RB_priceNow_21 : decode prog_1_method_25_code 21 = .ok (.invokevirtual 221, 3) := by decide +kernel
theorem d_RB_priceNow_24 : decode prog_1_method_25_code 24 = .ok (.istore_n 3, 1) := by decide +kernel
theorem d_RB_priceNow_25 : decode prog_1_method_25_code 25 = .ok (.iload_n 3, 1) := by decide +kernel
theorem d_RB_priceNow_26 : decode prog_1_method_25_code 26 = .ok (.iconst (-1), 1) := by decide +kernel
theorem d_RB_priceNow_27 : decode prog_1_method_25_code 27 = .ok (.if_icmp .ne 5, 3) := by decide +kernel
theorem d_RB_priceNow_30 : decode prog_1_method_25_code 30 = .ok (.iconst (-1), 1) := by decide +kernel
theorem d_RB_priceNow_31 : decode prog_1_method_25_code 31 = .ok (.ireturn, 1) := by decide +kernel
theorem d_RB_priceNow_32 : decode prog_1_method_25_code 32 = .ok (.aload_n 0, 1) := by decide +kernel
theorem d_RB_priceNow_33 : decode prog_1_method_25_code 33 = .ok (.getfield 19, 3) := by decide +kernel
theorem d_RB_priceNow_36 : decode prog_1_method_25_code 36 = .ok (.iload_n 3, 1) := by decide +kernel
theorem d_RB_priceNow_37 : decode prog_1_method_25_code 37 = .ok (.iload_n 2, 1) := by decide +kernel
theorem d_RB_priceNow_38 : decode prog_1_method_25_code 38 = .ok (.invokevirtual 224, 3) := by decide +kernel
theorem d_RB_priceNow_41 : decode prog_1_method_25_code 41 = .ok (.lstore 4, 2) := by decide +kernel
theorem d_RB_priceNow_43 : decode prog_1_method_25_code 43 = .ok (.aload_n 0, 1) := by decide +kernel
theorem d_RB_priceNow_44 : decode prog_1_method_25_code 44 = .ok (.getfield 38, 3) := by decide +kernel
theorem d_RB_priceNow_47 : decode prog_1_method_25_code 47 = .ok (.iload_n 2, 1) := by decide +kernel
theorem d_RB_priceNow_48 : decode prog_1_method_25_code 48 = .ok (.aaload, 1) := by decide +kernel
theorem d_RB_priceNow_49 : decode prog_1_method_25_code 49 = .ok (.astore 6, 2) := by decide +kernel
theorem d_RB_priceNow_51 : decode prog_1_method_25_code 51 = .ok (.aload 6, 2) := by decide +kernel
theorem d_RB_priceNow_53 : decode prog_1_method_25_code 53 = .ok (.aload_n 0, 1) := by decide +kernel
theorem d_RB_priceNow_54 : decode prog_1_method_25_code 54 = .ok (.getfield 45, 3) := by decide +kernel
theorem d_RB_priceNow_57 : decode prog_1_method_25_code 57 = .ok (.iload_n 2, 1) := by decide +kernel
theorem d_RB_priceNow_58 : decode prog_1_method_25_code 58 = .ok (.iaload, 1) := by decide +kernel
theorem d_RB_priceNow_59 : decode prog_1_method_25_code 59 = .ok (.invokevirtual 171, 3) := by decide +kernel
theorem d_RB_priceNow_62 : decode prog_1_method_25_code 62 = .ok (.istore 7, 2) := by decide +kernel
theorem d_RB_priceNow_64 : decode prog_1_method_25_code 64 = .ok (.iload 7, 2) := by decide +kernel
theorem d_RB_priceNow_66 : decode prog_1_method_25_code 66 = .ok (.iconst (-1), 1) := by decide +kernel
theorem d_RB_priceNow_67 : decode prog_1_method_25_code 67 = .ok (.if_icmp .eq 29, 3) := by decide +kernel
theorem d_RB_priceNow_70 : decode prog_1_method_25_code 70 = .ok (.lload 4, 2) := by decide +kernel
theorem d_RB_priceNow_72 : decode prog_1_method_25_code 72 = .ok (.aload 6, 2) := by decide +kernel
theorem d_RB_priceNow_74 : decode prog_1_method_25_code 74 = .ok (.getfield 177, 3) := by decide +kernel
theorem d_RB_priceNow_77 : decode prog_1_method_25_code 77 = .ok (.iload 7, 2) := by decide +kernel
theorem d_RB_priceNow_79 : decode prog_1_method_25_code 79 = .ok (.iaload, 1) := by decide +kernel
theorem d_RB_priceNow_80 : decode prog_1_method_25_code 80 = .ok (.i2l, 1) := by decide +kernel
theorem d_RB_priceNow_81 : decode prog_1_method_25_code 81 = .ok (.lmul, 1) := by decide +kernel
theorem d_RB_priceNow_82 : decode prog_1_method_25_code 82 = .ok (.aload 6, 2) := by decide +kernel
theorem d_RB_priceNow_84 : decode prog_1_method_25_code 84 = .ok (.getfield 180, 3) := by decide +kernel
theorem d_RB_priceNow_87 : decode prog_1_method_25_code 87 = .ok (.iload 7, 2) := by decide +kernel
theorem d_RB_priceNow_89 : decode prog_1_method_25_code 89 = .ok (.iaload, 1) := by decide +kernel
theorem d_RB_priceNow_90 : decode prog_1_method_25_code 90 = .ok (.i2l, 1) := by decide +kernel
theorem d_RB_priceNow_91 : decode prog_1_method_25_code 91 = .ok (.invokestatic 228, 3) := by decide +kernel
theorem d_RB_priceNow_94 : decode prog_1_method_25_code 94 = .ok (.lstore 4, 2) := by decide +kernel
theorem d_RB_priceNow_96 : decode prog_1_method_25_code 96 = .ok (.lload 4, 2) := by decide +kernel
theorem d_RB_priceNow_98 : decode prog_1_method_25_code 98 = .ok (.l2i, 1) := by decide +kernel
theorem d_RB_priceNow_99 : decode prog_1_method_25_code 99 = .ok (.ireturn, 1) := by decide +kernel
theorem d_RB_cheapest_0 : decode prog_1_method_7_code 0 = .ok (.aload_n 0, 1) := by decide +kernel
theorem d_RB_cheapest_1 : decode prog_1_method_7_code 1 = .ok (.iload_n 1, 1) := by decide +kernel
theorem d_RB_cheapest_2 : decode prog_1_method_7_code 2 = .ok (.invokevirtual 86, 3) := by decide +kernel
theorem d_RB_cheapest_5 : decode prog_1_method_7_code 5 = .ok (.astore_n 2, 1) := by decide +kernel
theorem d_RB_cheapest_6 : decode prog_1_method_7_code 6 = .ok (.iconst (-1), 1) := by decide +kernel
theorem d_RB_cheapest_7 : decode prog_1_method_7_code 7 = .ok (.istore_n 3, 1) := by decide +kernel
theorem d_RB_cheapest_8 : decode prog_1_method_7_code 8 = .ok (.iconst (-1), 1) := by decide +kernel
theorem d_RB_cheapest_9 : decode prog_1_method_7_code 9 = .ok (.istore 4, 2) := by decide +kernel
theorem d_RB_cheapest_11 : decode prog_1_method_7_code 11 = .ok (.iconst 0, 1) := by decide +kernel
theorem d_RB_cheapest_12 : decode prog_1_method_7_code 12 = .ok (.istore 5, 2) := by decide +kernel
theorem d_RB_cheapest_14 : decode prog_1_method_7_code 14 = .ok (.iload 5, 2) := by decide +kernel
theorem d_RB_cheapest_16 : decode prog_1_method_7_code 16 = .ok (.bipush 10, 2) := by decide +kernel
theorem d_RB_cheapest_18 : decode prog_1_method_7_code 18 = .ok (.if_icmp .ge 61, 3) := by decide +kernel
theorem d_RB_cheapest_21 : decode prog_1_method_7_code 21 = .ok (.aload_n 0, 1) := by decide +kernel
theorem d_RB_cheapest_22 : decode prog_1_method_7_code 22 = .ok (.getfield 19, 3) := by decide +kernel
theorem d_RB_cheapest_25 : decode prog_1_method_7_code 25 = .ok (.getfield 100, 3) := by decide +kernel
theorem d_RB_cheapest_28 : decode prog_1_method_7_code 28 = .ok (.iload 5, 2) := by decide +kernel
theorem d_RB_cheapest_30 : decode prog_1_method_7_code 30 = .ok (.iaload, 1) := by decide +kernel
theorem d_RB_cheapest_31 : decode prog_1_method_7_code 31 = .ok (.ifCond .ne 7, 3) := by decide +kernel
theorem d_RB_cheapest_34 : decode prog_1_method_7_code 34 = .ok (.iconst (-1), 1) := by decide +kernel
theorem d_RB_cheapest_35 : decode prog_1_method_7_code 35 = .ok (.goto 10, 3) := by decide +kernel
theorem d_RB_cheapest_38 : decode prog_1_method_7_code 38 = .ok (.aload_n 0, 1) := by decide +kernel
theorem d_RB_cheapest_39 : decode prog_1_method_7_code 39 = .ok (.aload_n 2, 1) := by decide +kernel
theorem d_RB_cheapest_40 : decode prog_1_method_7_code 40 = .ok (.iload 5, 2) := by decide +kernel
theorem d_RB_cheapest_42 : decode prog_1_method_7_code 42 = .ok (.invokevirtual 97, 3) := by decide +kernel
theorem d_RB_cheapest_45 : decode prog_1_method_7_code 45 = .ok (.istore 6, 2) := by decide +kernel
theorem d_RB_cheapest_47 : decode prog_1_method_7_code 47 = .ok (.iload 6, 2) := by decide +kernel
theorem d_RB_cheapest_49 : decode prog_1_method_7_code 49 = .ok (.iconst (-1), 1) := by decide +kernel
theorem d_RB_cheapest_50 : decode prog_1_method_7_code 50 = .ok (.if_icmp .eq 23, 3) := by decide +kernel
theorem d_RB_cheapest_53 : decode prog_1_method_7_code 53 = .ok (.iload 4, 2) := by decide +kernel
theorem d_RB_cheapest_55 : decode prog_1_method_7_code 55 = .ok (.iconst (-1), 1) := by decide +kernel
