theorem d_Mo_number_76 : decode prog_7_method_4_code 76 = .ok (.iadd, 1) := by decide +kernel
theorem d_Mo_number_77 : decode prog_7_method_4_code 77 = .ok (.putfield 32, 3) := by decide +kernel
theorem d_Mo_number_80 : decode prog_7_method_4_code 80 = .ok (.goto (-50), 3) := by decide +kernel
theorem d_Mo_number_83 : decode prog_7_method_4_code 83 = .ok (.iload_n 1, 1) := by decide +kernel
theorem d_Mo_number_84 : decode prog_7_method_4_code 84 = .ok (.ifCond .eq 20, 3) := by decide +kernel
theorem d_Mo_number_87 : decode prog_7_method_4_code 87 = .ok (.iload_n 1, 1) := by decide +kernel
theorem d_Mo_number_88 : decode prog_7_method_4_code 88 = .ok (.bipush 9, 2) := by decide +kernel
theorem d_Mo_number_90 : decode prog_7_method_4_code 90 = .ok (.if_icmp .gt 14, 3) := by decide +kernel
theorem d_Mo_number_93 : decode prog_7_method_4_code 93 = .ok (.iload_n 1, 1) := by decide +kernel
theorem d_Mo_number_94 : decode prog_7_method_4_code 94 = .ok (.iconst 1, 1) := by decide +kernel
theorem d_Mo_number_95 : decode prog_7_method_4_code 95 = .ok (.if_icmp .le 13, 3) := by decide +kernel
theorem d_Mo_number_98 : decode prog_7_method_4_code 98 = .ok (.iload_n 3, 1) := by decide +kernel
theorem d_Mo_number_99 : decode prog_7_method_4_code 99 = .ok (.bipush 48, 2) := by decide +kernel
theorem d_Mo_number_101 : decode prog_7_method_4_code 101 = .ok (.if_icmp .ne 7, 3) := by decide +kernel
theorem d_Mo_number_104 : decode prog_7_method_4_code 104 = .ok (.iconst (-1), 1) := by decide +kernel
theorem d_Mo_number_105 : decode prog_7_method_4_code 105 = .ok (.goto 4, 3) := by decide +kernel
theorem d_Mo_number_108 : decode prog_7_method_4_code 108 = .ok (.iload_n 2, 1) := by decide +kernel
theorem d_Mo_number_109 : decode prog_7_method_4_code 109 = .ok (.ireturn, 1) := by decide +kernel
theorem d_Mo_heaviest_0 : decode prog_7_method_6_code 0 = .ok (.iconst 0, 1) := by decide +kernel
theorem d_Mo_heaviest_1 : decode prog_7_method_6_code 1 = .ok (.istore_n 3, 1) := by decide +kernel
theorem d_Mo_heaviest_2 : decode prog_7_method_6_code 2 = .ok (.iconst 0, 1) := by decide +kernel
theorem d_Mo_heaviest_3 : decode prog_7_method_6_code 3 = .ok (.istore 4, 2) := by decide +kernel
theorem d_Mo_heaviest_5 : decode prog_7_method_6_code 5 = .ok (.iload 4, 2) := by decide +kernel
theorem d_Mo_heaviest_7 : decode prog_7_method_6_code 7 = .ok (.aload_n 0, 1) := by decide +kernel
theorem d_Mo_heaviest_8 : decode prog_7_method_6_code 8 = .ok (.getfield 26, 3) := by decide +kernel
theorem d_Mo_heaviest_11 : decode prog_7_method_6_code 11 = .ok (.if_icmp .ge 65, 3) := by decide +kernel
theorem d_Mo_heaviest_14 : decode prog_7_method_6_code 14 = .ok (.aload_n 0, 1) := by decide +kernel
theorem d_Mo_heaviest_15 : decode prog_7_method_6_code 15 = .ok (.getfield 29, 3) := by decide +kernel
theorem d_Mo_heaviest_18 : decode prog_7_method_6_code 18 = .ok (.iconst 5, 1) := by decide +kernel
theorem d_Mo_heaviest_19 : decode prog_7_method_6_code 19 = .ok (.iload 4, 2) := by decide +kernel
theorem d_Mo_heaviest_21 : decode prog_7_method_6_code 21 = .ok (.imul, 1) := by decide +kernel
theorem d_Mo_heaviest_22 : decode prog_7_method_6_code 22 = .ok (.iaload, 1) := by decide +kernel
theorem d_Mo_heaviest_23 : decode prog_7_method_6_code 23 = .ok (.bipush 82, 2) := by decide +kernel
theorem d_Mo_heaviest_25 : decode prog_7_method_6_code 25 = .ok (.if_icmp .ne 45, 3) := by decide +kernel
theorem d_Mo_heaviest_28 : decode prog_7_method_6_code 28 = .ok (.aload_n 0, 1) := by decide +kernel
theorem d_Mo_heaviest_29 : decode prog_7_method_6_code 29 = .ok (.getfield 29, 3) := by decide +kernel
theorem d_Mo_heaviest_32 : decode prog_7_method_6_code 32 = .ok (.iconst 5, 1) := by decide +kernel
theorem d_Mo_heaviest_33 : decode prog_7_method_6_code 33 = .ok (.iload 4, 2) := by decide +kernel
theorem d_Mo_heaviest_35 : decode prog_7_method_6_code 35 = .ok (.imul, 1) := by decide +kernel
theorem d_Mo_heaviest_36 : decode prog_7_method_6_code 36 = .ok (.iconst 1, 1) := by decide +kernel
theorem d_Mo_heaviest_37 : decode prog_7_method_6_code 37 = .ok (.iadd, 1) := by decide +kernel
theorem d_Mo_heaviest_38 : decode prog_7_method_6_code 38 = .ok (.iaload, 1) := by decide +kernel
theorem d_Mo_heaviest_39 : decode prog_7_method_6_code 39 = .ok (.iload_n 1, 1) := by decide +kernel
theorem d_Mo_heaviest_40 : decode prog_7_method_6_code 40 = .ok (.if_icmp .ne 30, 3) := by decide +kernel
theorem d_Mo_heaviest_43 : decode prog_7_method_6_code 43 = .ok (.aload_n 0, 1) := by decide +kernel
theorem d_Mo_heaviest_44 : decode prog_7_method_6_code 44 = .ok (.getfield 29, 3) := by decide +kernel
theorem d_Mo_heaviest_47 : decode prog_7_method_6_code 47 = .ok (.iconst 5, 1) := by decide +kernel
theorem d_Mo_heaviest_48 : decode prog_7_method_6_code 48 = .ok (.iload 4, 2) := by decide +kernel
theorem d_Mo_heaviest_50 : decode prog_7_method_6_code 50 = .ok (.imul, 1) := by decide +kernel
theorem d_Mo_heaviest_51 : decode prog_7_method_6_code 51 = .ok (.iconst 2, 1) := by decide +kernel
theorem d_Mo_heaviest_52 : decode prog_7_method_6_code 52 = .ok (.iadd, 1) := by decide +kernel
theorem d_Mo_heaviest_53 : decode prog_7_method_6_code 53 = .ok (.iaload, 1) := by decide +kernel
theorem d_Mo_heaviest_54 : decode prog_7_method_6_code 54 = .ok (.iload_n 2, 1) := by decide +kernel
theorem d_Mo_heaviest_55 : decode prog_7_method_6_code 55 = .ok (.if_icmp .ne 15, 3) := by decide +kernel
theorem d_Mo_heaviest_58 : decode prog_7_method_6_code 58 = .ok (.aload_n 0, 1) := by decide +kernel
theorem d_Mo_heaviest_59 : decode prog_7_method_6_code 59 = .ok (.getfield 29, 3) := by decide +kernel
theorem d_Mo_heaviest_62 : decode prog_7_method_6_code 62 = .ok (.iconst 5, 1) := by decide +kernel
theorem d_Mo_heaviest_63 : decode prog_7_method_6_code 63 = .ok (.iload 4, 2) := by decide +kernel
theorem d_Mo_heaviest_65 : decode prog_7_method_6_code 65 = .ok (.imul, 1) := by decide +kernel
theorem d_Mo_heaviest_66 : decode prog_7_method_6_code 66 = .ok (.iconst 3, 1) := by decide +kernel
theorem d_Mo_heaviest_67 : decode prog_7_method_6_code 67 = .ok (.iadd, 1) := by decide +kernel
theorem d_Mo_heaviest_68 : decode prog_7_method_6_code 68 = .ok (.iaload, 1) := by decide +kernel
theorem d_Mo_heaviest_69 : decode prog_7_method_6_code 69 = .ok (.istore_n 3, 1) := by decide +kernel
theorem d_Mo_heaviest_70 : decode prog_7_method_6_code 70 = .ok (.iinc 4 1, 3) := by decide +kernel
theorem d_Mo_heaviest_73 : decode prog_7_method_6_code 73 = .ok (.goto (-68), 3) := by decide +kernel
theorem d_Mo_heaviest_76 : decode prog_7_method_6_code 76 = .ok (.iload_n 3, 1) := by decide +kernel
theorem d_Mo_heaviest_77 : decode prog_7_method_6_code 77 = .ok (.ireturn, 1) := by decide +kernel
theorem d_Mo_seen_0 : decode prog_7_method_5_code 0 = .ok (.iconst 0, 1) := by decide +kernel
theorem d_Mo_seen_1 : decode prog_7_method_5_code 1 = .ok (.istore_n 3, 1) := by decide +kernel
theorem d_Mo_seen_2 : decode prog_7_method_5_code 2 = .ok (.iload_n 3, 1) := by decide +kernel
theorem d_Mo_seen_3 : decode prog_7_method_5_code 3 = .ok (.aload_n 0, 1) := by decide +kernel
theorem d_Mo_seen_4 : decode prog_7_method_5_code 4 = .ok (.getfield 26, 3) := by decide +kernel
theorem d_Mo_seen_7 : decode prog_7_method_5_code 7 = .ok (.if_icmp .ge 37, 3) := by decide +kernel
theorem d_Mo_seen_10 : decode prog_7_method_5_code 10 = .ok (.aload_n 0, 1) := by decide +kernel
theorem d_Mo_seen_11 : decode prog_7_method_5_code 11 = .ok (.getfield 29, 3) := by decide +kernel
theorem d_Mo_seen_14 : decode prog_7_method_5_code 14 = .ok (.iconst 5, 1) := by decide +kernel
theorem d_Mo_seen_15 : decode prog_7_method_5_code 15 = .ok (.iload_n 3, 1) := by decide +kernel
theorem d_Mo_seen_16 : decode prog_7_method_5_code 16 = .ok (.imul, 1) := by decide +kernel
theorem d_Mo_seen_17 : decode prog_7_method_5_code 17 = .ok (.iaload, 1) := by decide +kernel
theorem d_Mo_seen_18 : decode prog_7_method_5_code 18 = .ok (.iload_n 1, 1) := by decide +kernel
theorem d_Mo_seen_19 : decode prog_7_method_5_code 19 = .ok (.if_icmp .ne 19, 3) := by decide +kernel
theorem d_Mo_seen_22 : decode prog_7_method_5_code 22 = .ok (.aload_n 0, 1) := by decide +kernel
theorem d_Mo_seen_23 : decode prog_7_method_5_code 23 = .ok (.getfield 29, 3) := by decide +kernel
theorem d_Mo_seen_26 : decode prog_7_method_5_code 26 = .ok (.iconst 5, 1) := by decide +kernel
theorem d_Mo_seen_27 : decode prog_7_method_5_code 27 = .ok (.iload_n 3, 1) := by decide +kernel
theorem d_Mo_seen_28 : decode prog_7_method_5_code 28 = .ok (.imul, 1) := by decide +kernel
theorem d_Mo_seen_29 : decode prog_7_method_5_code 29 = .ok (.iconst 1, 1) := by decide +kernel
theorem d_Mo_seen_30 : decode prog_7_method_5_code 30 = .ok (.iadd, 1) := by decide +kernel
theorem d_Mo_seen_31 : decode prog_7_method_5_code 31 = .ok (.iaload, 1) := by decide +kernel
theorem d_Mo_seen_32 : decode prog_7_method_5_code 32 = .ok (.iload_n 2, 1) := by decide +kernel
theorem d_Mo_seen_33 : decode prog_7_method_5_code 33 = .ok (.if_icmp .ne 5, 3) := by decide +kernel
theorem d_Mo_seen_36 : decode prog_7_method_5_code 36 = .ok (.iconst 1, 1) := by decide +kernel
theorem d_Mo_seen_37 : decode prog_7_method_5_code 37 = .ok (.ireturn, 1) := by decide +kernel
theorem d_Mo_seen_38 : decode prog_7_method_5_code 38 = .ok (.iinc 3 1, 3) := by decide +kernel
theorem d_Mo_seen_41 : decode prog_7_method_5_code 41 = .ok (.goto (-39), 3) := by decide +kernel
theorem d_Mo_seen_44 : decode prog_7_method_5_code 44 = .ok (.iconst 0, 1) := by decide +kernel
theorem d_Mo_seen_45 : decode prog_7_method_5_code 45 = .ok (.ireturn, 1) := by decide +kernel
theorem d_Mo_shipment_0 : decode prog_7_method_17_code 0 = .ok (.aload_n 0, 1) := by decide +kernel
theorem d_Mo_shipment_1 : decode prog_7_method_17_code 1 = .ok (.iload_n 1, 1) := by decide +kernel
theorem d_Mo_shipment_2 : decode prog_7_method_17_code 2 = .ok (.iconst 0, 1) := by decide +kernel
theorem d_Mo_shipment_3 : decode prog_7_method_17_code 3 = .ok (.bipush 9, 2) := by decide +kernel
theorem d_Mo_shipment_5 : decode prog_7_method_17_code 5 = .ok (.invokestatic 124, 3) := by decide +kernel
theorem d_Mo_shipment_8 : decode prog_7_method_17_code 8 = .ok (.ifCond .ne 23, 3) := by decide +kernel
theorem d_Mo_shipment_11 : decode prog_7_method_17_code 11 = .ok (.iload_n 2, 1) := by decide +kernel
theorem d_Mo_shipment_12 : decode prog_7_method_17_code 12 = .ok (.iconst 1, 1) := by decide +kernel
theorem d_Mo_shipment_13 : decode prog_7_method_17_code 13 = .ok (.ldc 100, 2) := by decide +kernel
theorem d_Mo_shipment_15 : decode prog_7_method_17_code 15 = .ok (.invokestatic 124, 3) := by decide +kernel
theorem d_Mo_shipment_18 : decode prog_7_method_17_code 18 = .ok (.ifCond .ne 13, 3) := by decide +kernel
theorem d_Mo_shipment_21 : decode prog_7_method_17_code 21 = .ok (.iload_n 3, 1) := by decide +kernel
theorem d_Mo_shipment_22 : decode prog_7_method_17_code 22 = .ok (.iconst 0, 1) := by decide +kernel
theorem d_Mo_shipment_23 : decode prog_7_method_17_code 23 = .ok (.ldc 132, 2) := by decide +kernel
theorem d_Mo_shipment_25 : decode prog_7_method_17_code 25 = .ok (.invokestatic 124, 3) := by decide +kernel
theorem d_Mo_shipment_28 : decode prog_7_method_17_code 28 = .ok (.ifCond .eq 7, 3) := by decide +kernel
theorem d_Mo_shipment_31 : decode prog_7_method_17_code 31 = .ok (.iconst 1, 1) := by decide +kernel
theorem d_Mo_shipment_32 : decode prog_7_method_17_code 32 = .ok (.goto 17, 3) := by decide +kernel
theorem d_Mo_shipment_35 : decode prog_7_method_17_code 35 = .ok (.aload_n 0, 1) := by decide +kernel
theorem d_Mo_shipment_36 : decode prog_7_method_17_code 36 = .ok (.getfield 35, 3) := by decide +kernel
theorem d_Mo_shipment_39 : decode prog_7_method_17_code 39 = .ok (.bipush 20, 2) := by decide +kernel
theorem d_Mo_shipment_41 : decode prog_7_method_17_code 41 = .ok (.if_icmp .ne 7, 3) := by decide +kernel
theorem d_Mo_shipment_44 : decode prog_7_method_17_code 44 = .ok (.iconst 2, 1) := by decide +kernel
theorem d_Mo_shipment_45 : decode prog_7_method_17_code 45 = .ok (.goto 4, 3) := by decide +kernel
theorem d_Mo_shipment_48 : decode prog_7_method_17_code 48 = .ok (.iconst 0, 1) := by decide +kernel
theorem d_Mo_shipment_49 : decode prog_7_method_17_code 49 = .ok (.putfield 7, 3) := by decide +kernel
theorem d_Mo_shipment_52 : decode prog_7_method_17_code 52 = .ok (.aload_n 0, 1) := by decide +kernel
theorem d_Mo_shipment_53 : decode prog_7_method_17_code 53 = .ok (.getfield 7, 3) := by decide +kernel
theorem d_Mo_shipment_56 : decode prog_7_method_17_code 56 = .ok (.ifCond .eq 5, 3) := by decide +kernel
theorem d_Mo_shipment_59 : decode prog_7_method_17_code 59 = .ok (.iconst 0, 1) := by decide +kernel
theorem d_Mo_shipment_60 : decode prog_7_method_17_code 60 = .ok (.ireturn, 1) := by decide +kernel
theorem d_Mo_shipment_61 : decode prog_7_method_17_code 61 = .ok (.aload_n 0, 1) := by decide +kernel
theorem d_Mo_shipment_62 : decode prog_7_method_17_code 62 = .ok (.getfield 42, 3) := by decide +kernel
theorem d_Mo_shipment_65 : decode prog_7_method_17_code 65 = .ok (.aload_n 0, 1) := by decide +kernel
theorem d_Mo_shipment_66 : decode prog_7_method_17_code 66 = .ok (.getfield 35, 3) := by decide +kernel
theorem d_Mo_shipment_69 : decode prog_7_method_17_code 69 = .ok (.iload_n 1, 1) := by decide +kernel
theorem d_Mo_shipment_70 : decode prog_7_method_17_code 70 = .ok (.iastore, 1) := by decide +kernel
theorem d_Mo_shipment_71 : decode prog_7_method_17_code 71 = .ok (.aload_n 0, 1) := by decide +kernel
theorem d_Mo_shipment_72 : decode prog_7_method_17_code 72 = .ok (.getfield 45, 3) := by decide +kernel
theorem d_Mo_shipment_75 : decode prog_7_method_17_code 75 = .ok (.aload_n 0, 1) := by decide +kernel
theorem d_Mo_shipment_76 : decode prog_7_method_17_code 76 = .ok (.getfield 35, 3) := by decide +kernel
theorem d_Mo_shipment_79 : decode prog_7_method_17_code 79 = .ok (.iload_n 2, 1) := by decide +kernel
theorem d_Mo_shipment_80 : decode prog_7_method_17_code 80 = .ok (.iastore, 1) := by decide +kernel
theorem d_Mo_shipment_81 : decode prog_7_method_17_code 81 = .ok (.aload_n 0, 1) := by decide +kernel
theorem d_Mo_shipment_82 : decode prog_7_method_17_code 82 = .ok (.getfield 48, 3) := by decide +kernel
theorem d_Mo_shipment_85 : decode prog_7_method_17_code 85 = .ok (.aload_n 0, 1) := by decide +kernel
theorem d_Mo_shipment_86 : decode prog_7_method_17_code 86 = .ok (.getfield 35, 3) := by decide +kernel
theorem d_Mo_shipment_89 : decode prog_7_method_17_code 89 = .ok (.iload_n 3, 1) := by decide +kernel
theorem d_Mo_shipment_90 : decode prog_7_method_17_code 90 = .ok (.iastore, 1) := by decide +kernel
theorem d_Mo_shipment_91 : decode prog_7_method_17_code 91 = .ok (.aload_n 0, 1) := by decide +kernel
theorem d_Mo_shipment_92 : decode prog_7_method_17_code 92 = .ok (.getfield 51, 3) := by decide +kernel
theorem d_Mo_shipment_95 : decode prog_7_method_17_code 95 = .ok (.aload_n 0, 1) := by decide +kernel
theorem d_Mo_shipment_96 : decode prog_7_method_17_code 96 = .ok (.getfield 35, 3) := by decide +kernel
theorem d_Mo_shipment_99 : decode prog_7_method_17_code 99 = .ok (.iconst (-1), 1) := by decide +kernel
theorem d_Mo_shipment_100 : decode prog_7_method_17_code 100 = .ok (.iastore, 1) := by decide +kernel
theorem d_Mo_shipment_101 : decode prog_7_method_17_code 101 = .ok (.aload_n 0, 1) := by decide +kernel
theorem d_Mo_shipment_102 : decode prog_7_method_17_code 102 = .ok (.getfield 54, 3) := by decide +kernel
theorem d_Mo_shipment_105 : decode prog_7_method_17_code 105 = .ok (.aload_n 0, 1) := by decide +kernel
theorem d_Mo_shipment_106 : decode prog_7_method_17_code 106 = .ok (.getfield 35, 3) := by decide +kernel
theorem d_Mo_shipment_109 : decode prog_7_method_17_code 109 = .ok (.iconst (-1), 1) := by decide +kernel
theorem d_Mo_shipment_110 : decode prog_7_method_17_code 110 = .ok (.iastore, 1) := by decide +kernel
theorem d_Mo_shipment_111 : decode prog_7_method_17_code 111 = .ok (.aload_n 0, 1) := by decide +kernel
theorem d_Mo_shipment_112 : decode prog_7_method_17_code 112 = .ok (.getfield 57, 3) := by decide +kernel
theorem d_Mo_shipment_115 : decode prog_7_method_17_code 115 = .ok (.aload_n 0, 1) := by decide +kernel
theorem d_Mo_shipment_116 : decode prog_7_method_17_code 116 = .ok (.getfield 35, 3) := by decide +kernel
theorem d_Mo_shipment_119 : decode prog_7_method_17_code 119 = .ok (.iconst (-1), 1) := by decide +kernel
theorem d_Mo_shipment_120 : decode prog_7_method_17_code 120 = .ok (.iastore, 1) := by decide +kernel
theorem d_Mo_shipment_121 : decode prog_7_method_17_code 121 = .ok (.aload_n 0, 1) := by decide +kernel
theorem d_Mo_shipment_122 : decode prog_7_method_17_code 122 = .ok (.dup, 1) := by decide +kernel
theorem d_Mo_shipment_123 : decode prog_7_method_17_code 123 = .ok (.getfield 35, 3) := by decide +kernel
theorem d_Mo_shipment_126 : decode prog_7_method_17_code 126 = .ok (.iconst 1, 1) := by decide +kernel
theorem d_Mo_shipment_127 : decode prog_7_method_17_code 127 = .ok (.iadd, 1) := by decide +kernel
theorem d_Mo_shipment_128 : decode prog_7_method_17_code 128 = .ok (.putfield 35, 3) := by decide +kernel
theorem d_Mo_shipment_131 : decode prog_7_method_17_code 131 = .ok (.aload_n 0, 1) := by decide +kernel
theorem d_Mo_shipment_132 : decode prog_7_method_17_code 132 = .ok (.getfield 35, 3) := by decide +kernel
theorem d_Mo_shipment_135 : decode prog_7_method_17_code 135 = .ok (.iconst 1, 1) := by decide +kernel
theorem d_Mo_shipment_136 : decode prog_7_method_17_code 136 = .ok (.isub, 1) := by decide +kernel
theorem d_Mo_shipment_137 : decode prog_7_method_17_code 137 = .ok (.ireturn, 1) := by decide +kernel
theorem d_Mo_weight_0 : decode prog_7_method_18_code 0 = .ok (.aload_n 0, 1) := by decide +kernel
theorem d_Mo_weight_1 : decode prog_7_method_18_code 1 = .ok (.aload_n 0, 1) := by decide +kernel
theorem d_Mo_weight_2 : decode prog_7_method_18_code 2 = .ok (.iload_n 1, 1) := by decide +kernel
theorem d_Mo_weight_3 : decode prog_7_method_18_code 3 = .ok (.invokevirtual 133, 3) := by decide +kernel
theorem d_Mo_weight_6 : decode prog_7_method_18_code 6 = .ok (.ifCond .eq 7, 3) := by decide +kernel
theorem d_Mo_weight_9 : decode prog_7_method_18_code 9 = .ok (.iconst 1, 1) := by decide +kernel
theorem d_Mo_weight_10 : decode prog_7_method_18_code 10 = .ok (.goto 31, 3) := by decide +kernel
theorem d_Mo_weight_13 : decode prog_7_method_18_code 13 = .ok (.iload_n 2, 1) := by decide +kernel
theorem d_Mo_weight_14 : decode prog_7_method_18_code 14 = .ok (.iconst 0, 1) := by decide +kernel
theorem d_Mo_weight_15 : decode prog_7_method_18_code 15 = .ok (.bipush 9, 2) := by decide +kernel
theorem d_Mo_weight_17 : decode prog_7_method_18_code 17 = .ok (.invokestatic 124, 3) := by decide +kernel
theorem d_Mo_weight_20 : decode prog_7_method_18_code 20 = .ok (.ifCond .eq 7, 3) := by decide +kernel
theorem d_Mo_weight_23 : decode prog_7_method_18_code 23 = .ok (.iconst 2, 1) := by decide +kernel
theorem d_Mo_weight_24 : decode prog_7_method_18_code 24 = .ok (.goto 17, 3) := by decide +kernel
theorem d_Mo_weight_27 : decode prog_7_method_18_code 27 = .ok (.aload_n 0, 1) := by decide +kernel
theorem d_Mo_weight_28 : decode prog_7_method_18_code 28 = .ok (.iload_n 1, 1) := by decide +kernel
theorem d_Mo_weight_29 : decode prog_7_method_18_code 29 = .ok (.iload_n 2, 1) := by decide +kernel
theorem d_Mo_weight_30 : decode prog_7_method_18_code 30 = .ok (.invokevirtual 113, 3) := by decide +kernel
theorem d_Mo_weight_33 : decode prog_7_method_18_code 33 = .ok (.ifCond .ge 7, 3) := by decide +kernel
theorem d_Mo_weight_36 : decode prog_7_method_18_code 36 = .ok (.iconst 3, 1) := by decide +kernel
theorem d_Mo_weight_37 : decode prog_7_method_18_code 37 = .ok (.goto 4, 3) := by decide +kernel
theorem d_Mo_weight_40 : decode prog_7_method_18_code 40 = .ok (.iconst 0, 1) := by decide +kernel
theorem d_Mo_weight_41 : decode prog_7_method_18_code 41 = .ok (.putfield 7, 3) := by decide +kernel
theorem d_Mo_weight_44 : decode prog_7_method_18_code 44 = .ok (.aload_n 0, 1) := by decide +kernel
theorem d_Mo_weight_45 : decode prog_7_method_18_code 45 = .ok (.getfield 7, 3) := by decide +kernel
theorem d_Mo_weight_48 : decode prog_7_method_18_code 48 = .ok (.ifCond .eq 7, 3) := by decide +kernel
theorem d_Mo_weight_51 : decode prog_7_method_18_code 51 = .ok (.iconst 0, 1) := by decide +kernel
theorem d_Mo_weight_52 : decode prog_7_method_18_code 52 = .ok (.goto 9, 3) := by decide +kernel
theorem d_Mo_weight_55 : decode prog_7_method_18_code 55 = .ok (.aload_n 0, 1) := by decide +kernel
theorem d_Mo_weight_56 : decode prog_7_method_18_code 56 = .ok (.iload_n 1, 1) := by decide +kernel
theorem d_Mo_weight_57 : decode prog_7_method_18_code 57 = .ok (.iload_n 2, 1) := by decide +kernel
theorem d_Mo_weight_58 : decode prog_7_method_18_code 58 = .ok (.invokevirtual 113, 3) := by decide +kernel
theorem d_Mo_weight_61 : decode prog_7_method_18_code 61 = .ok (.ireturn, 1) := by decide +kernel
theorem d_Mo_noShipment_0 : decode prog_7_method_14_code 0 = .ok (.iload_n 1, 1) := by decide +kernel
theorem d_Mo_noShipment_1 : decode prog_7_method_14_code 1 = .ok (.ifCond .lt 20, 3) := by decide +kernel
theorem d_Mo_noShipment_4 : decode prog_7_method_14_code 4 = .ok (.iload_n 1, 1) := by decide +kernel
theorem d_Mo_noShipment_5 : decode prog_7_method_14_code 5 = .ok (.aload_n 0, 1) := by decide +kernel
theorem d_Mo_noShipment_6 : decode prog_7_method_14_code 6 = .ok (.getfield 35, 3) := by decide +kernel
theorem d_Mo_noShipment_9 : decode prog_7_method_14_code 9 = .ok (.if_icmp .ge 12, 3) := by decide +kernel
theorem d_Mo_noShipment_12 : decode prog_7_method_14_code 12 = .ok (.aload_n 0, 1) := by decide +kernel
theorem d_Mo_noShipment_13 : decode prog_7_method_14_code 13 = .ok (.getfield 38, 3) := by decide +kernel
theorem d_Mo_noShipment_16 : decode prog_7_method_14_code 16 = .ok (.iload_n 1, 1) := by decide +kernel
theorem d_Mo_noShipment_17 : decode prog_7_method_14_code 17 = .ok (.baload, 1) := by decide +kernel
theorem d_Mo_noShipment_18 : decode prog_7_method_14_code 18 = .ok (.ifCond .eq 7, 3) := by decide +kernel
theorem d_Mo_noShipment_21 : decode prog_7_method_14_code 21 = .ok (.iconst 1, 1) := by decide +kernel
theorem d_Mo_noShipment_22 : decode prog_7_method_14_code 22 = .ok (.goto 4, 3) := by decide +kernel
theorem d_Mo_noShipment_25 : decode prog_7_method_14_code 25 = .ok (.iconst 0, 1) := by decide +kernel
theorem d_Mo_noShipment_26 : decode prog_7_method_14_code 26 = .ok (.ireturn, 1) := by decide +kernel
theorem d_Mo_toPay_0 : decode prog_7_method_10_code 0 = .ok (.aload_n 0, 1) := by decide +kernel
theorem d_Mo_toPay_1 : decode prog_7_method_10_code 1 = .ok (.bipush 68, 2) := by decide +kernel
theorem d_Mo_toPay_3 : decode prog_7_method_10_code 3 = .ok (.iload_n 2, 1) := by decide +kernel
theorem d_Mo_toPay_4 : decode prog_7_method_10_code 4 = .ok (.invokevirtual 110, 3) := by decide +kernel
theorem d_Mo_toPay_7 : decode prog_7_method_10_code 7 = .ok (.istore_n 3, 1) := by decide +kernel
theorem d_Mo_toPay_8 : decode prog_7_method_10_code 8 = .ok (.iload_n 3, 1) := by decide +kernel
theorem d_Mo_toPay_9 : decode prog_7_method_10_code 9 = .ok (.ifCond .ge 10, 3) := by decide +kernel
theorem d_Mo_toPay_12 : decode prog_7_method_10_code 12 = .ok (.aload_n 0, 1) := by decide +kernel
theorem d_Mo_toPay_13 : decode prog_7_method_10_code 13 = .ok (.getfield 45, 3) := by decide +kernel
theorem d_Mo_toPay_16 : decode prog_7_method_10_code 16 = .ok (.iload_n 1, 1) := by decide +kernel
theorem d_Mo_toPay_17 : decode prog_7_method_10_code 17 = .ok (.iaload, 1) := by decide +kernel
theorem d_Mo_toPay_18 : decode prog_7_method_10_code 18 = .ok (.ireturn, 1) := by decide +kernel
theorem d_Mo_toPay_19 : decode prog_7_method_10_code 19 = .ok (.aload_n 0, 1) := by decide +kernel
theorem d_Mo_toPay_20 : decode prog_7_method_10_code 20 = .ok (.getfield 23, 3) := by decide +kernel
theorem d_Mo_toPay_23 : decode prog_7_method_10_code 23 = .ok (.iload_n 3, 1) := by decide +kernel
theorem d_Mo_toPay_24 : decode prog_7_method_10_code 24 = .ok (.iconst 2, 1) := by decide +kernel
theorem d_Mo_toPay_25 : decode prog_7_method_10_code 25 = .ok (.iadd, 1) := by decide +kernel
theorem d_Mo_toPay_26 : decode prog_7_method_10_code 26 = .ok (.iaload, 1) := by decide +kernel
theorem d_Mo_toPay_27 : decode prog_7_method_10_code 27 = .ok (.istore 4, 2) := by decide +kernel
theorem d_Mo_toPay_29 : decode prog_7_method_10_code 29 = .ok (.iload 4, 2) := by decide +kernel
theorem d_Mo_toPay_31 : decode prog_7_method_10_code 31 = .ok (.ifCond .ne 5, 3) := by decide +kernel
theorem d_Mo_toPay_34 : decode prog_7_method_10_code 34 = .ok (.iconst (-1), 1) := by decide +kernel
theorem d_Mo_toPay_35 : decode prog_7_method_10_code 35 = .ok (.ireturn, 1) := by decide +kernel
theorem d_Mo_toPay_36 : decode prog_7_method_10_code 36 = .ok (.aload_n 0, 1) := by decide +kernel
theorem d_Mo_toPay_37 : decode prog_7_method_10_code 37 = .ok (.getfield 48, 3) := by decide +kernel
theorem d_Mo_toPay_40 : decode prog_7_method_10_code 40 = .ok (.iload_n 1, 1) := by decide +kernel
theorem d_Mo_toPay_41 : decode prog_7_method_10_code 41 = .ok (.iaload, 1) := by decide +kernel
theorem d_Mo_toPay_42 : decode prog_7_method_10_code 42 = .ok (.iload 4, 2) := by decide +kernel
theorem d_Mo_toPay_44 : decode prog_7_method_10_code 44 = .ok (.iadd, 1) := by decide +kernel
theorem d_Mo_toPay_45 : decode prog_7_method_10_code 45 = .ok (.iconst 1, 1) := by decide +kernel
theorem d_Mo_toPay_46 : decode prog_7_method_10_code 46 = .ok (.isub, 1) := by decide +kernel
theorem d_Mo_toPay_47 : decode prog_7_method_10_code 47 = .ok (.iload 4, 2) := by decide +kernel
theorem d_Mo_toPay_49 : decode prog_7_method_10_code 49 = .ok (.idiv, 1) := by decide +kernel
theorem d_Mo_toPay_50 : decode prog_7_method_10_code 50 = .ok (.istore 5, 2) := by decide +kernel
theorem d_Mo_toPay_52 : decode prog_7_method_10_code 52 = .ok (.iload 5, 2) := by decide +kernel
theorem d_Mo_toPay_54 : decode prog_7_method_10_code 54 = .ok (.aload_n 0, 1) := by decide +kernel
theorem d_Mo_toPay_55 : decode prog_7_method_10_code 55 = .ok (.getfield 45, 3) := by decide +kernel
theorem d_Mo_toPay_58 : decode prog_7_method_10_code 58 = .ok (.iload_n 1, 1) := by decide +kernel
theorem d_Mo_toPay_59 : decode prog_7_method_10_code 59 = .ok (.iaload, 1) := by decide +kernel
theorem d_Mo_toPay_60 : decode prog_7_method_10_code 60 = .ok (.if_icmp .le 8, 3) := by decide +kernel
theorem d_Mo_toPay_63 : decode prog_7_method_10_code 63 = .ok (.iload 5, 2) := by decide +kernel
theorem d_Mo_toPay_65 : decode prog_7_method_10_code 65 = .ok (.goto 9, 3) := by decide +kernel
theorem d_Mo_toPay_68 : decode prog_7_method_10_code 68 = .ok (.aload_n 0, 1) := by decide +kernel
theorem d_Mo_toPay_69 : decode prog_7_method_10_code 69 = .ok (.getfield 45, 3) := by decide +kernel
theorem d_Mo_toPay_72 : decode prog_7_method_10_code 72 = .ok (.iload_n 1, 1) := by decide +kernel
theorem d_Mo_toPay_73 : decode prog_7_method_10_code 73 = .ok (.iaload, 1) := by decide +kernel
theorem d_Mo_toPay_74 : decode prog_7_method_10_code 74 = .ok (.ireturn, 1) := by decide +kernel
theorem d_Mo_find_0 : decode prog_7_method_8_code 0 = .ok (.iconst 0, 1) := by decide +kernel
theorem d_Mo_find_1 : decode prog_7_method_8_code 1 = .ok (.istore_n 3, 1) := by decide +kernel
theorem d_Mo_find_2 : decode prog_7_method_8_code 2 = .ok (.iload_n 3, 1) := by decide +kernel
theorem d_Mo_find_3 : decode prog_7_method_8_code 3 = .ok (.aload_n 0, 1) := by decide +kernel
theorem d_Mo_find_4 : decode prog_7_method_8_code 4 = .ok (.getfield 20, 3) := by decide +kernel
theorem d_Mo_find_7 : decode prog_7_method_8_code 7 = .ok (.if_icmp .ge 39, 3) := by decide +kernel
theorem d_Mo_find_10 : decode prog_7_method_8_code 10 = .ok (.aload_n 0, 1) := by decide +kernel
theorem d_Mo_find_11 : decode prog_7_method_8_code 11 = .ok (.getfield 23, 3) := by decide +kernel
theorem d_Mo_find_14 : decode prog_7_method_8_code 14 = .ok (.iconst 5, 1) := by decide +kernel
theorem d_Mo_find_15 : decode prog_7_method_8_code 15 = .ok (.iload_n 3, 1) := by decide +kernel
theorem d_Mo_find_16 : decode prog_7_method_8_code 16 = .ok (.imul, 1) := by decide +kernel
theorem d_Mo_find_17 : decode prog_7_method_8_code 17 = .ok (.iaload, 1) := by decide +kernel
theorem d_Mo_find_18 : decode prog_7_method_8_code 18 = .ok (.iload_n 1, 1) := by decide +kernel
theorem d_Mo_find_19 : decode prog_7_method_8_code 19 = .ok (.if_icmp .ne 21, 3) := by decide +kernel
theorem d_Mo_find_22 : decode prog_7_method_8_code 22 = .ok (.aload_n 0, 1) := by decide +kernel
theorem d_Mo_find_23 : decode prog_7_method_8_code 23 = .ok (.getfield 23, 3) := by decide +kernel
theorem d_Mo_find_26 : decode prog_7_method_8_code 26 = .ok (.iconst 5, 1) := by decide +kernel
theorem d_Mo_find_27 : decode prog_7_method_8_code 27 = .ok (.iload_n 3, 1) := by decide +kernel
theorem d_Mo_find_28 : decode prog_7_method_8_code 28 = .ok (.imul, 1) := by decide +kernel
theorem d_Mo_find_29 : decode prog_7_method_8_code 29 = .ok (.iconst 1, 1) := by decide +kernel
theorem d_Mo_find_30 : decode prog_7_method_8_code 30 = .ok (.iadd, 1) := by decide +kernel
theorem d_Mo_find_31 : decode prog_7_method_8_code 31 = .ok (.iaload, 1) := by decide +kernel
theorem d_Mo_find_32 : decode prog_7_method_8_code 32 = .ok (.iload_n 2, 1) := by decide +kernel
theorem d_Mo_find_33 : decode prog_7_method_8_code 33 = .ok (.if_icmp .ne 7, 3) := by decide +kernel
theorem d_Mo_find_36 : decode prog_7_method_8_code 36 = .ok (.iconst 5, 1) := by decide +kernel
theorem d_Mo_find_37 : decode prog_7_method_8_code 37 = .ok (.iload_n 3, 1) := by decide +kernel
theorem d_Mo_find_38 : decode prog_7_method_8_code 38 = .ok (.imul, 1) := by decide +kernel
theorem d_Mo_find_39 : decode prog_7_method_8_code 39 = .ok (.ireturn, 1) := by decide +kernel
theorem d_Mo_find_40 : decode prog_7_method_8_code 40 = .ok (.iinc 3 1, 3) := by decide +kernel
theorem d_Mo_find_43 : decode prog_7_method_8_code 43 = .ok (.goto (-41), 3) := by decide +kernel
theorem d_Mo_find_46 : decode prog_7_method_8_code 46 = .ok (.iconst (-1), 1) := by decide +kernel
theorem d_Mo_find_47 : decode prog_7_method_8_code 47 = .ok (.ireturn, 1) := by decide +kernel
theorem d_Mo_price_0 : decode prog_7_method_19_code 0 = .ok (.aload_n 0, 1) := by decide +kernel
theorem d_Mo_price_1 : decode prog_7_method_19_code 1 = .ok (.aload_n 0, 1) := by decide +kernel
theorem d_Mo_price_2 : decode prog_7_method_19_code 2 = .ok (.iload_n 1, 1) := by decide +kernel
theorem d_Mo_price_3 : decode prog_7_method_19_code 3 = .ok (.invokevirtual 133, 3) := by decide +kernel
theorem d_Mo_price_6 : decode prog_7_method_19_code 6 = .ok (.ifCond .eq 7, 3) := by decide +kernel
theorem d_Mo_price_9 : decode prog_7_method_19_code 9 = .ok (.iconst 1, 1) := by decide +kernel
theorem d_Mo_price_10 : decode prog_7_method_19_code 10 = .ok (.goto 33, 3) := by decide +kernel
theorem d_Mo_price_13 : decode prog_7_method_19_code 13 = .ok (.iload_n 2, 1) := by decide +kernel
theorem d_Mo_price_14 : decode prog_7_method_19_code 14 = .ok (.iconst 0, 1) := by decide +kernel
theorem d_Mo_price_15 : decode prog_7_method_19_code 15 = .ok (.bipush 9, 2) := by decide +kernel
theorem d_Mo_price_17 : decode prog_7_method_19_code 17 = .ok (.invokestatic 124, 3) := by decide +kernel
theorem d_Mo_price_20 : decode prog_7_method_19_code 20 = .ok (.ifCond .eq 7, 3) := by decide +kernel
theorem d_Mo_price_23 : decode prog_7_method_19_code 23 = .ok (.iconst 2, 1) := by decide +kernel
theorem d_Mo_price_24 : decode prog_7_method_19_code 24 = .ok (.goto 19, 3) := by decide +kernel
theorem d_Mo_price_27 : decode prog_7_method_19_code 27 = .ok (.aload_n 0, 1) := by decide +kernel
theorem d_Mo_price_28 : decode prog_7_method_19_code 28 = .ok (.iload_n 1, 1) := by decide +kernel
theorem d_Mo_price_29 : decode prog_7_method_19_code 29 = .ok (.iload_n 2, 1) := by decide +kernel
theorem d_Mo_price_30 : decode prog_7_method_19_code 30 = .ok (.invokevirtual 137, 3) := by decide +kernel
theorem d_Mo_price_33 : decode prog_7_method_19_code 33 = .ok (.bipush (-2), 2) := by decide +kernel
theorem d_Mo_price_35 : decode prog_7_method_19_code 35 = .ok (.if_icmp .ne 7, 3) := by decide +kernel
theorem d_Mo_price_38 : decode prog_7_method_19_code 38 = .ok (.iconst 3, 1) := by decide +kernel
theorem d_Mo_price_39 : decode prog_7_method_19_code 39 = .ok (.goto 4, 3) := by decide +kernel
theorem d_Mo_price_42 : decode prog_7_method_19_code 42 = .ok (.iconst 0, 1) := by decide +kernel
theorem d_Mo_price_43 : decode prog_7_method_19_code 43 = .ok (.putfield 7, 3) := by decide +kernel
theorem d_Mo_price_46 : decode prog_7_method_19_code 46 = .ok (.aload_n 0, 1) := by decide +kernel
theorem d_Mo_price_47 : decode prog_7_method_19_code 47 = .ok (.getfield 7, 3) := by decide +kernel
theorem d_Mo_price_50 : decode prog_7_method_19_code 50 = .ok (.ifCond .eq 7, 3) := by decide +kernel
theorem d_Mo_price_53 : decode prog_7_method_19_code 53 = .ok (.iconst 0, 1) := by decide +kernel
theorem d_Mo_price_54 : decode prog_7_method_19_code 54 = .ok (.goto 9, 3) := by decide +kernel
theorem d_Mo_price_57 : decode prog_7_method_19_code 57 = .ok (.aload_n 0, 1) := by decide +kernel
theorem d_Mo_price_58 : decode prog_7_method_19_code 58 = .ok (.iload_n 1, 1) := by decide +kernel
theorem d_Mo_price_59 : decode prog_7_method_19_code 59 = .ok (.iload_n 2, 1) := by decide +kernel
theorem d_Mo_price_60 : decode prog_7_method_19_code 60 = .ok (.invokevirtual 137, 3) := by decide +kernel
theorem d_Mo_price_63 : decode prog_7_method_19_code 63 = .ok (.ireturn, 1) := by decide +kernel
theorem d_Mo_priceOf_0 : decode prog_7_method_12_code 0 = .ok (.aload_n 0, 1) := by decide +kernel
theorem d_Mo_priceOf_1 : decode prog_7_method_12_code 1 = .ok (.iload_n 1, 1) := by decide +kernel
theorem d_Mo_priceOf_2 : decode prog_7_method_12_code 2 = .ok (.iload_n 2, 1) := by decide +kernel
theorem d_Mo_priceOf_3 : decode prog_7_method_12_code 3 = .ok (.invokevirtual 113, 3) := by decide +kernel
theorem d_Mo_priceOf_6 : decode prog_7_method_12_code 6 = .ok (.istore_n 3, 1) := by decide +kernel
theorem d_Mo_priceOf_7 : decode prog_7_method_12_code 7 = .ok (.iload_n 3, 1) := by decide +kernel
theorem d_Mo_priceOf_8 : decode prog_7_method_12_code 8 = .ok (.ifCond .ge 6, 3) := by decide +kernel
theorem d_Mo_priceOf_11 : decode prog_7_method_12_code 11 = .ok (.bipush (-2), 2) := by decide +kernel
theorem d_Mo_priceOf_13 : decode prog_7_method_12_code 13 = .ok (.ireturn, 1) := by decide +kernel
theorem d_Mo_priceOf_14 : decode prog_7_method_12_code 14 = .ok (.iconst (-1), 1) := by decide +kernel
theorem d_Mo_priceOf_15 : decode prog_7_method_12_code 15 = .ok (.istore 4, 2) := by decide +kernel
theorem d_Mo_priceOf_17 : decode prog_7_method_12_code 17 = .ok (.iconst 0, 1) := by decide +kernel
theorem d_Mo_priceOf_18 : decode prog_7_method_12_code 18 = .ok (.istore 5, 2) := by decide +kernel
theorem d_Mo_priceOf_20 : decode prog_7_method_12_code 20 = .ok (.iload 5, 2) := by decide +kernel
theorem d_Mo_priceOf_22 : decode prog_7_method_12_code 22 = .ok (.aload_n 0, 1) := by decide +kernel
theorem d_Mo_priceOf_23 : decode prog_7_method_12_code 23 = .ok (.getfield 20, 3) := by decide +kernel
theorem d_Mo_priceOf_26 : decode prog_7_method_12_code 26 = .ok (.if_icmp .ge 91, 3) := by decide +kernel
theorem d_Mo_priceOf_29 : decode prog_7_method_12_code 29 = .ok (.iload 4, 2) := by decide +kernel
theorem d_Mo_priceOf_31 : decode prog_7_method_12_code 31 = .ok (.ifCond .ge 86, 3) := by decide +kernel
theorem d_Mo_priceOf_34 : decode prog_7_method_12_code 34 = .ok (.aload_n 0, 1) := by decide +kernel
theorem d_Mo_priceOf_35 : decode prog_7_method_12_code 35 = .ok (.getfield 23, 3) := by decide +kernel
theorem d_Mo_priceOf_38 : decode prog_7_method_12_code 38 = .ok (.iconst 5, 1) := by decide +kernel
theorem d_Mo_priceOf_39 : decode prog_7_method_12_code 39 = .ok (.iload 5, 2) := by decide +kernel
theorem d_Mo_priceOf_41 : decode prog_7_method_12_code 41 = .ok (.imul, 1) := by decide +kernel
theorem d_Mo_priceOf_42 : decode prog_7_method_12_code 42 = .ok (.iaload, 1) := by decide +kernel
theorem d_Mo_priceOf_43 : decode prog_7_method_12_code 43 = .ok (.bipush 82, 2) := by decide +kernel
theorem d_Mo_priceOf_45 : decode prog_7_method_12_code 45 = .ok (.if_icmp .ne 66, 3) := by decide +kernel
theorem d_Mo_priceOf_48 : decode prog_7_method_12_code 48 = .ok (.aload_n 0, 1) := by decide +kernel
theorem d_Mo_priceOf_49 : decode prog_7_method_12_code 49 = .ok (.getfield 23, 3) := by decide +kernel
theorem d_Mo_priceOf_52 : decode prog_7_method_12_code 52 = .ok (.iconst 5, 1) := by decide +kernel
theorem d_Mo_priceOf_53 : decode prog_7_method_12_code 53 = .ok (.iload 5, 2) := by decide +kernel
theorem d_Mo_priceOf_55 : decode prog_7_method_12_code 55 = .ok (.imul, 1) := by decide +kernel
theorem d_Mo_priceOf_56 : decode prog_7_method_12_code 56 = .ok (.iconst 1, 1) := by decide +kernel
theorem d_Mo_priceOf_57 : decode prog_7_method_12_code 57 = .ok (.iadd, 1) := by decide +kernel
theorem d_Mo_priceOf_58 : decode prog_7_method_12_code 58 = .ok (.iaload, 1) := by decide +kernel
theorem d_Mo_priceOf_59 : decode prog_7_method_12_code 59 = .ok (.iload_n 2, 1) := by decide +kernel
theorem d_Mo_priceOf_60 : decode prog_7_method_12_code 60 = .ok (.if_icmp .ne 51, 3) := by decide +kernel
theorem d_Mo_priceOf_63 : decode prog_7_method_12_code 63 = .ok (.aload_n 0, 1) := by decide +kernel
theorem d_Mo_priceOf_64 : decode prog_7_method_12_code 64 = .ok (.getfield 23, 3) := by decide +kernel
theorem d_Mo_priceOf_67 : decode prog_7_method_12_code 67 = .ok (.iconst 5, 1) := by decide +kernel
theorem d_Mo_priceOf_68 : decode prog_7_method_12_code 68 = .ok (.iload 5, 2) := by decide +kernel
theorem d_Mo_priceOf_70 : decode prog_7_method_12_code 70 = .ok (.imul, 1) := by decide +kernel
theorem d_Mo_priceOf_71 : decode prog_7_method_12_code 71 = .ok (.iconst 2, 1) := by decide +kernel
theorem d_Mo_priceOf_72 : decode prog_7_method_12_code 72 = .ok (.iadd, 1) := by decide +kernel
theorem d_Mo_priceOf_73 : decode prog_7_method_12_code 73 = .ok (.iaload, 1) := by decide +kernel
theorem d_Mo_priceOf_74 : decode prog_7_method_12_code 74 = .ok (.aload_n 0, 1) := by decide +kernel
theorem d_Mo_priceOf_75 : decode prog_7_method_12_code 75 = .ok (.getfield 42, 3) := by decide +kernel
theorem d_Mo_priceOf_78 : decode prog_7_method_12_code 78 = .ok (.iload_n 1, 1) := by decide +kernel
theorem d_Mo_priceOf_79 : decode prog_7_method_12_code 79 = .ok (.iaload, 1) := by decide +kernel
theorem d_Mo_priceOf_80 : decode prog_7_method_12_code 80 = .ok (.if_icmp .ne 31, 3) := by decide +kernel
theorem d_Mo_priceOf_83 : decode prog_7_method_12_code 83 = .ok (.aload_n 0, 1) := by decide +kernel
theorem d_Mo_priceOf_84 : decode prog_7_method_12_code 84 = .ok (.getfield 23, 3) := by decide +kernel
theorem d_Mo_priceOf_87 : decode prog_7_method_12_code 87 = .ok (.iconst 5, 1) := by decide +kernel
theorem d_Mo_priceOf_88 : decode prog_7_method_12_code 88 = .ok (.iload 5, 2) := by decide +kernel
theorem d_Mo_priceOf_90 : decode prog_7_method_12_code 90 = .ok (.imul, 1) := by decide +kernel
theorem d_Mo_priceOf_91 : decode prog_7_method_12_code 91 = .ok (.iconst 3, 1) := by decide +kernel
theorem d_Mo_priceOf_92 : decode prog_7_method_12_code 92 = .ok (.iadd, 1) := by decide +kernel
theorem d_Mo_priceOf_93 : decode prog_7_method_12_code 93 = .ok (.iaload, 1) := by decide +kernel
theorem d_Mo_priceOf_94 : decode prog_7_method_12_code 94 = .ok (.iload_n 3, 1) := by decide +kernel
theorem d_Mo_priceOf_95 : decode prog_7_method_12_code 95 = .ok (.if_icmp .lt 16, 3) := by decide +kernel
theorem d_Mo_priceOf_98 : decode prog_7_method_12_code 98 = .ok (.aload_n 0, 1) := by decide +kernel
theorem d_Mo_priceOf_99 : decode prog_7_method_12_code 99 = .ok (.getfield 23, 3) := by decide +kernel
theorem d_Mo_priceOf_102 : decode prog_7_method_12_code 102 = .ok (.iconst 5, 1) := by decide +kernel
theorem d_Mo_priceOf_103 : decode prog_7_method_12_code 103 = .ok (.iload 5, 2) := by decide +kernel
theorem d_Mo_priceOf_105 : decode prog_7_method_12_code 105 = .ok (.imul, 1) := by decide +kernel
theorem d_Mo_priceOf_106 : decode prog_7_method_12_code 106 = .ok (.iconst 4, 1) := by decide +kernel
theorem d_Mo_priceOf_107 : decode prog_7_method_12_code 107 = .ok (.iadd, 1) := by decide +kernel
theorem d_Mo_priceOf_108 : decode prog_7_method_12_code 108 = .ok (.iaload, 1) := by decide +kernel
theorem d_Mo_priceOf_109 : decode prog_7_method_12_code 109 = .ok (.istore 4, 2) := by decide +kernel
theorem d_Mo_priceOf_111 : decode prog_7_method_12_code 111 = .ok (.iinc 5 1, 3) := by decide +kernel
theorem d_Mo_priceOf_114 : decode prog_7_method_12_code 114 = .ok (.goto (-94), 3) := by decide +kernel
theorem d_Mo_priceOf_117 : decode prog_7_method_12_code 117 = .ok (.iload 4, 2) := by decide +kernel
theorem d_Mo_priceOf_119 : decode prog_7_method_12_code 119 = .ok (.ifCond .ge 5, 3) := by decide +kernel
theorem d_Mo_priceOf_122 : decode prog_7_method_12_code 122 = .ok (.iconst (-1), 1) := by decide +kernel
theorem d_Mo_priceOf_123 : decode prog_7_method_12_code 123 = .ok (.ireturn, 1) := by decide +kernel
theorem d_Mo_priceOf_124 : decode prog_7_method_12_code 124 = .ok (.aload_n 0, 1) := by decide +kernel
theorem d_Mo_priceOf_125 : decode prog_7_method_12_code 125 = .ok (.bipush 70, 2) := by decide +kernel
theorem d_Mo_priceOf_127 : decode prog_7_method_12_code 127 = .ok (.iload_n 2, 1) := by decide +kernel
theorem d_Mo_priceOf_128 : decode prog_7_method_12_code 128 = .ok (.invokevirtual 110, 3) := by decide +kernel
theorem d_Mo_priceOf_131 : decode prog_7_method_12_code 131 = .ok (.istore 5, 2) := by decide +kernel
theorem d_Mo_priceOf_133 : decode prog_7_method_12_code 133 = .ok (.iload 5, 2) := by decide +kernel
theorem d_Mo_priceOf_135 : decode prog_7_method_12_code 135 = .ok (.ifCond .lt 32, 3) := by decide +kernel
theorem d_Mo_priceOf_138 : decode prog_7_method_12_code 138 = .ok (.iload 4, 2) := by decide +kernel
theorem d_Mo_priceOf_140 : decode prog_7_method_12_code 140 = .ok (.iload 4, 2) := by decide +kernel
theorem d_Mo_priceOf_142 : decode prog_7_method_12_code 142 = .ok (.i2l, 1) := by decide +kernel
theorem d_Mo_priceOf_143 : decode prog_7_method_12_code 143 = .ok (.aload_n 0, 1) := by decide +kernel
theorem d_Mo_priceOf_144 : decode prog_7_method_12_code 144 = .ok (.getfield 23, 3) := by decide +kernel
theorem d_Mo_priceOf_147 : decode prog_7_method_12_code 147 = .ok (.iload 5, 2) := by decide +kernel
theorem d_Mo_priceOf_149 : decode prog_7_method_12_code 149 = .ok (.iconst 2, 1) := by decide +kernel
theorem d_Mo_priceOf_150 : decode prog_7_method_12_code 150 = .ok (.iadd, 1) := by decide +kernel
theorem d_Mo_priceOf_151 : decode prog_7_method_12_code 151 = .ok (.iaload, 1) := by decide +kernel
theorem d_Mo_priceOf_152 : decode prog_7_method_12_code 152 = .ok (.aload_n 0, 1) := by decide +kernel
theorem d_Mo_priceOf_153 : decode prog_7_method_12_code 153 = .ok (.getfield 23, 3) := by decide +kernel
theorem d_Mo_priceOf_156 : decode prog_7_method_12_code 156 = .ok (.iload 5, 2) := by decide +kernel
theorem d_Mo_priceOf_158 : decode prog_7_method_12_code 158 = .ok (.iconst 3, 1) := by decide +kernel
theorem d_Mo_priceOf_159 : decode prog_7_method_12_code 159 = .ok (.iadd, 1) := by decide +kernel
theorem d_Mo_priceOf_160 : decode prog_7_method_12_code 160 = .ok (.iaload, 1) := by decide +kernel
theorem d_Mo_priceOf_161 : decode prog_7_method_12_code 161 = .ok (.invokestatic 116, 3) := by decide +kernel
theorem d_Mo_priceOf_164 : decode prog_7_method_12_code 164 = .ok (.iadd, 1) := by decide +kernel
theorem d_Mo_priceOf_165 : decode prog_7_method_12_code 165 = .ok (.istore 4, 2) := by decide +kernel
theorem d_Mo_priceOf_167 : decode prog_7_method_12_code 167 = .ok (.aload_n 0, 1) := by decide +kernel
theorem d_Mo_priceOf_168 : decode prog_7_method_12_code 168 = .ok (.bipush 77, 2) := by decide +kernel
theorem d_Mo_priceOf_170 : decode prog_7_method_12_code 170 = .ok (.iload_n 2, 1) := by decide +kernel
theorem d_Mo_priceOf_171 : decode prog_7_method_12_code 171 = .ok (.invokevirtual 110, 3) := by decide +kernel
theorem d_Mo_priceOf_174 : decode prog_7_method_12_code 174 = .ok (.istore 5, 2) := by decide +kernel
theorem d_Mo_priceOf_176 : decode prog_7_method_12_code 176 = .ok (.iload 5, 2) := by decide +kernel
theorem d_Mo_priceOf_178 : decode prog_7_method_12_code 178 = .ok (.ifCond .lt 28, 3) := by decide +kernel
theorem d_Mo_priceOf_181 : decode prog_7_method_12_code 181 = .ok (.iload 4, 2) := by decide +kernel
theorem d_Mo_priceOf_183 : decode prog_7_method_12_code 183 = .ok (.aload_n 0, 1) := by decide +kernel
theorem d_Mo_priceOf_184 : decode prog_7_method_12_code 184 = .ok (.getfield 23, 3) := by decide +kernel
theorem d_Mo_priceOf_187 : decode prog_7_method_12_code 187 = .ok (.iload 5, 2) := by decide +kernel
theorem d_Mo_priceOf_189 : decode prog_7_method_12_code 189 = .ok (.iconst 2, 1) := by decide +kernel
theorem d_Mo_priceOf_190 : decode prog_7_method_12_code 190 = .ok (.iadd, 1) := by decide +kernel
theorem d_Mo_priceOf_191 : decode prog_7_method_12_code 191 = .ok (.iaload, 1) := by decide +kernel
