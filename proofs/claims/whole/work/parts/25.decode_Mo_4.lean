theorem d_Mo_converted_75 : decode prog_7_method_29_code 75 = .ok (.aload_n 0, 1) := by decide +kernel
theorem d_Mo_converted_76 : decode prog_7_method_29_code 76 = .ok (.getfield 75, 3) := by decide +kernel
theorem d_Mo_converted_79 : decode prog_7_method_29_code 79 = .ok (.iload_n 3, 1) := by decide +kernel
theorem d_Mo_converted_80 : decode prog_7_method_29_code 80 = .ok (.iaload, 1) := by decide +kernel
theorem d_Mo_converted_81 : decode prog_7_method_29_code 81 = .ok (.if_icmp .le 6, 3) := by decide +kernel
theorem d_Mo_converted_84 : decode prog_7_method_29_code 84 = .ok (.iload 4, 2) := by decide +kernel
theorem d_Mo_converted_86 : decode prog_7_method_29_code 86 = .ok (.istore_n 3, 1) := by decide +kernel
theorem d_Mo_converted_87 : decode prog_7_method_29_code 87 = .ok (.iinc 4 1, 3) := by decide +kernel
theorem d_Mo_converted_90 : decode prog_7_method_29_code 90 = .ok (.goto (-46), 3) := by decide +kernel
theorem d_Mo_converted_93 : decode prog_7_method_29_code 93 = .ok (.iload_n 3, 1) := by decide +kernel
theorem d_Mo_converted_94 : decode prog_7_method_29_code 94 = .ok (.ifCond .ge 9, 3) := by decide +kernel
theorem d_Mo_converted_97 : decode prog_7_method_29_code 97 = .ok (.ldc2_w 141, 3) := by decide +kernel
theorem d_Mo_converted_100 : decode prog_7_method_29_code 100 = .ok (.goto 21, 3) := by decide +kernel
theorem d_Mo_converted_103 : decode prog_7_method_29_code 103 = .ok (.iload_n 1, 1) := by decide +kernel
theorem d_Mo_converted_104 : decode prog_7_method_29_code 104 = .ok (.i2l, 1) := by decide +kernel
theorem d_Mo_converted_105 : decode prog_7_method_29_code 105 = .ok (.aload_n 0, 1) := by decide +kernel
theorem d_Mo_converted_106 : decode prog_7_method_29_code 106 = .ok (.getfield 78, 3) := by decide +kernel
theorem d_Mo_converted_109 : decode prog_7_method_29_code 109 = .ok (.iload_n 3, 1) := by decide +kernel
theorem d_Mo_converted_110 : decode prog_7_method_29_code 110 = .ok (.iaload, 1) := by decide +kernel
theorem d_Mo_converted_111 : decode prog_7_method_29_code 111 = .ok (.i2l, 1) := by decide +kernel
theorem d_Mo_converted_112 : decode prog_7_method_29_code 112 = .ok (.lmul, 1) := by decide +kernel
theorem d_Mo_converted_113 : decode prog_7_method_29_code 113 = .ok (.aload_n 0, 1) := by decide +kernel
theorem d_Mo_converted_114 : decode prog_7_method_29_code 114 = .ok (.getfield 81, 3) := by decide +kernel
theorem d_Mo_converted_117 : decode prog_7_method_29_code 117 = .ok (.iload_n 3, 1) := by decide +kernel
theorem d_Mo_converted_118 : decode prog_7_method_29_code 118 = .ok (.iaload, 1) := by decide +kernel
theorem d_Mo_converted_119 : decode prog_7_method_29_code 119 = .ok (.i2l, 1) := by decide +kernel
theorem d_Mo_converted_120 : decode prog_7_method_29_code 120 = .ok (.ldiv, 1) := by decide +kernel
theorem d_Mo_converted_121 : decode prog_7_method_29_code 121 = .ok (.lreturn, 1) := by decide +kernel
theorem d_Mo_told_0 : decode prog_7_method_30_code 0 = .ok (.aload_n 0, 1) := by decide +kernel
theorem d_Mo_told_1 : decode prog_7_method_30_code 1 = .ok (.aload_n 0, 1) := by decide +kernel
theorem d_Mo_told_2 : decode prog_7_method_30_code 2 = .ok (.iload_n 1, 1) := by decide +kernel
theorem d_Mo_told_3 : decode prog_7_method_30_code 3 = .ok (.invokevirtual 133, 3) := by decide +kernel
theorem d_Mo_told_6 : decode prog_7_method_30_code 6 = .ok (.ifCond .eq 7, 3) := by decide +kernel
theorem d_Mo_told_9 : decode prog_7_method_30_code 9 = .ok (.iconst 1, 1) := by decide +kernel
theorem d_Mo_told_10 : decode prog_7_method_30_code 10 = .ok (.goto 17, 3) := by decide +kernel
theorem d_Mo_told_13 : decode prog_7_method_30_code 13 = .ok (.iload_n 2, 1) := by decide +kernel
theorem d_Mo_told_14 : decode prog_7_method_30_code 14 = .ok (.iconst 0, 1) := by decide +kernel
theorem d_Mo_told_15 : decode prog_7_method_30_code 15 = .ok (.iconst 5, 1) := by decide +kernel
theorem d_Mo_told_16 : decode prog_7_method_30_code 16 = .ok (.invokestatic 124, 3) := by decide +kernel
theorem d_Mo_told_19 : decode prog_7_method_30_code 19 = .ok (.ifCond .eq 7, 3) := by decide +kernel
theorem d_Mo_told_22 : decode prog_7_method_30_code 22 = .ok (.iconst 2, 1) := by decide +kernel
theorem d_Mo_told_23 : decode prog_7_method_30_code 23 = .ok (.goto 4, 3) := by decide +kernel
theorem d_Mo_told_26 : decode prog_7_method_30_code 26 = .ok (.iconst 0, 1) := by decide +kernel
theorem d_Mo_told_27 : decode prog_7_method_30_code 27 = .ok (.putfield 7, 3) := by decide +kernel
theorem d_Mo_told_30 : decode prog_7_method_30_code 30 = .ok (.aload_n 0, 1) := by decide +kernel
theorem d_Mo_told_31 : decode prog_7_method_30_code 31 = .ok (.getfield 7, 3) := by decide +kernel
theorem d_Mo_told_34 : decode prog_7_method_30_code 34 = .ok (.ifCond .eq 5, 3) := by decide +kernel
theorem d_Mo_told_37 : decode prog_7_method_30_code 37 = .ok (.iconst 0, 1) := by decide +kernel
theorem d_Mo_told_38 : decode prog_7_method_30_code 38 = .ok (.ireturn, 1) := by decide +kernel
theorem d_Mo_told_39 : decode prog_7_method_30_code 39 = .ok (.iload_n 2, 1) := by decide +kernel
theorem d_Mo_told_40 : decode prog_7_method_30_code 40 = .ok (.tableswitch 71 0 4 #[36, 43, 50, 57, 64], 36) := by decide +kernel
theorem d_Mo_told_76 : decode prog_7_method_30_code 76 = .ok (.aload_n 0, 1) := by decide +kernel
theorem d_Mo_told_77 : decode prog_7_method_30_code 77 = .ok (.getfield 42, 3) := by decide +kernel
theorem d_Mo_told_80 : decode prog_7_method_30_code 80 = .ok (.iload_n 1, 1) := by decide +kernel
theorem d_Mo_told_81 : decode prog_7_method_30_code 81 = .ok (.iaload, 1) := by decide +kernel
theorem d_Mo_told_82 : decode prog_7_method_30_code 82 = .ok (.ireturn, 1) := by decide +kernel
theorem d_Mo_told_83 : decode prog_7_method_30_code 83 = .ok (.aload_n 0, 1) := by decide +kernel
theorem d_Mo_told_84 : decode prog_7_method_30_code 84 = .ok (.getfield 45, 3) := by decide +kernel
theorem d_Mo_told_87 : decode prog_7_method_30_code 87 = .ok (.iload_n 1, 1) := by decide +kernel
theorem d_Mo_told_88 : decode prog_7_method_30_code 88 = .ok (.iaload, 1) := by decide +kernel
theorem d_Mo_told_89 : decode prog_7_method_30_code 89 = .ok (.ireturn, 1) := by decide +kernel
theorem d_Mo_told_90 : decode prog_7_method_30_code 90 = .ok (.aload_n 0, 1) := by decide +kernel
theorem d_Mo_told_91 : decode prog_7_method_30_code 91 = .ok (.getfield 48, 3) := by decide +kernel
theorem d_Mo_told_94 : decode prog_7_method_30_code 94 = .ok (.iload_n 1, 1) := by decide +kernel
theorem d_Mo_told_95 : decode prog_7_method_30_code 95 = .ok (.iaload, 1) := by decide +kernel
theorem d_Mo_told_96 : decode prog_7_method_30_code 96 = .ok (.ireturn, 1) := by decide +kernel
theorem d_Mo_told_97 : decode prog_7_method_30_code 97 = .ok (.aload_n 0, 1) := by decide +kernel
theorem d_Mo_told_98 : decode prog_7_method_30_code 98 = .ok (.getfield 51, 3) := by decide +kernel
theorem d_Mo_told_101 : decode prog_7_method_30_code 101 = .ok (.iload_n 1, 1) := by decide +kernel
theorem d_Mo_told_102 : decode prog_7_method_30_code 102 = .ok (.iaload, 1) := by decide +kernel
theorem d_Mo_told_103 : decode prog_7_method_30_code 103 = .ok (.ireturn, 1) := by decide +kernel
theorem d_Mo_told_104 : decode prog_7_method_30_code 104 = .ok (.aload_n 0, 1) := by decide +kernel
theorem d_Mo_told_105 : decode prog_7_method_30_code 105 = .ok (.getfield 54, 3) := by decide +kernel
theorem d_Mo_told_108 : decode prog_7_method_30_code 108 = .ok (.iload_n 1, 1) := by decide +kernel
theorem d_Mo_told_109 : decode prog_7_method_30_code 109 = .ok (.iaload, 1) := by decide +kernel
theorem d_Mo_told_110 : decode prog_7_method_30_code 110 = .ok (.ireturn, 1) := by decide +kernel
theorem d_Mo_told_111 : decode prog_7_method_30_code 111 = .ok (.aload_n 0, 1) := by decide +kernel
theorem d_Mo_told_112 : decode prog_7_method_30_code 112 = .ok (.getfield 57, 3) := by decide +kernel
theorem d_Mo_told_115 : decode prog_7_method_30_code 115 = .ok (.iload_n 1, 1) := by decide +kernel
theorem d_Mo_told_116 : decode prog_7_method_30_code 116 = .ok (.iaload, 1) := by decide +kernel
theorem d_Mo_told_117 : decode prog_7_method_30_code 117 = .ok (.ireturn, 1) := by decide +kernel
theorem d_Mo_count_0 : decode prog_7_method_31_code 0 = .ok (.aload_n 0, 1) := by decide +kernel
theorem d_Mo_count_1 : decode prog_7_method_31_code 1 = .ok (.iconst 0, 1) := by decide +kernel
theorem d_Mo_count_2 : decode prog_7_method_31_code 2 = .ok (.putfield 7, 3) := by decide +kernel
theorem d_Mo_count_5 : decode prog_7_method_31_code 5 = .ok (.iconst 0, 1) := by decide +kernel
theorem d_Mo_count_6 : decode prog_7_method_31_code 6 = .ok (.istore_n 2, 1) := by decide +kernel
theorem d_Mo_count_7 : decode prog_7_method_31_code 7 = .ok (.iconst 0, 1) := by decide +kernel
theorem d_Mo_count_8 : decode prog_7_method_31_code 8 = .ok (.istore_n 3, 1) := by decide +kernel
theorem d_Mo_count_9 : decode prog_7_method_31_code 9 = .ok (.iconst 0, 1) := by decide +kernel
theorem d_Mo_count_10 : decode prog_7_method_31_code 10 = .ok (.istore 4, 2) := by decide +kernel
theorem d_Mo_count_12 : decode prog_7_method_31_code 12 = .ok (.iconst 0, 1) := by decide +kernel
theorem d_Mo_count_13 : decode prog_7_method_31_code 13 = .ok (.istore 5, 2) := by decide +kernel
theorem d_Mo_count_15 : decode prog_7_method_31_code 15 = .ok (.iconst 0, 1) := by decide +kernel
theorem d_Mo_count_16 : decode prog_7_method_31_code 16 = .ok (.istore 6, 2) := by decide +kernel
theorem d_Mo_count_18 : decode prog_7_method_31_code 18 = .ok (.iload 6, 2) := by decide +kernel
theorem d_Mo_count_20 : decode prog_7_method_31_code 20 = .ok (.aload_n 0, 1) := by decide +kernel
theorem d_Mo_count_21 : decode prog_7_method_31_code 21 = .ok (.getfield 35, 3) := by decide +kernel
theorem d_Mo_count_24 : decode prog_7_method_31_code 24 = .ok (.if_icmp .ge 127, 3) := by decide +kernel
theorem d_Mo_count_27 : decode prog_7_method_31_code 27 = .ok (.iload_n 2, 1) := by decide +kernel
theorem d_Mo_count_28 : decode prog_7_method_31_code 28 = .ok (.aload_n 0, 1) := by decide +kernel
theorem d_Mo_count_29 : decode prog_7_method_31_code 29 = .ok (.getfield 38, 3) := by decide +kernel
theorem d_Mo_count_32 : decode prog_7_method_31_code 32 = .ok (.iload 6, 2) := by decide +kernel
theorem d_Mo_count_34 : decode prog_7_method_31_code 34 = .ok (.baload, 1) := by decide +kernel
theorem d_Mo_count_35 : decode prog_7_method_31_code 35 = .ok (.ifCond .eq 7, 3) := by decide +kernel
theorem d_Mo_count_38 : decode prog_7_method_31_code 38 = .ok (.iconst 0, 1) := by decide +kernel
theorem d_Mo_count_39 : decode prog_7_method_31_code 39 = .ok (.goto 4, 3) := by decide +kernel
theorem d_Mo_count_42 : decode prog_7_method_31_code 42 = .ok (.iconst 1, 1) := by decide +kernel
theorem d_Mo_count_43 : decode prog_7_method_31_code 43 = .ok (.iadd, 1) := by decide +kernel
theorem d_Mo_count_44 : decode prog_7_method_31_code 44 = .ok (.istore_n 2, 1) := by decide +kernel
theorem d_Mo_count_45 : decode prog_7_method_31_code 45 = .ok (.iload_n 3, 1) := by decide +kernel
theorem d_Mo_count_46 : decode prog_7_method_31_code 46 = .ok (.aload_n 0, 1) := by decide +kernel
theorem d_Mo_count_47 : decode prog_7_method_31_code 47 = .ok (.getfield 38, 3) := by decide +kernel
theorem d_Mo_count_50 : decode prog_7_method_31_code 50 = .ok (.iload 6, 2) := by decide +kernel
theorem d_Mo_count_52 : decode prog_7_method_31_code 52 = .ok (.baload, 1) := by decide +kernel
theorem d_Mo_count_53 : decode prog_7_method_31_code 53 = .ok (.ifCond .ne 17, 3) := by decide +kernel
theorem d_Mo_count_56 : decode prog_7_method_31_code 56 = .ok (.aload_n 0, 1) := by decide +kernel
theorem d_Mo_count_57 : decode prog_7_method_31_code 57 = .ok (.getfield 51, 3) := by decide +kernel
theorem d_Mo_count_60 : decode prog_7_method_31_code 60 = .ok (.iload 6, 2) := by decide +kernel
theorem d_Mo_count_62 : decode prog_7_method_31_code 62 = .ok (.iaload, 1) := by decide +kernel
theorem d_Mo_count_63 : decode prog_7_method_31_code 63 = .ok (.ifCond .lt 7, 3) := by decide +kernel
theorem d_Mo_count_66 : decode prog_7_method_31_code 66 = .ok (.iconst 1, 1) := by decide +kernel
theorem d_Mo_count_67 : decode prog_7_method_31_code 67 = .ok (.goto 4, 3) := by decide +kernel
theorem d_Mo_count_70 : decode prog_7_method_31_code 70 = .ok (.iconst 0, 1) := by decide +kernel
theorem d_Mo_count_71 : decode prog_7_method_31_code 71 = .ok (.iadd, 1) := by decide +kernel
theorem d_Mo_count_72 : decode prog_7_method_31_code 72 = .ok (.istore_n 3, 1) := by decide +kernel
theorem d_Mo_count_73 : decode prog_7_method_31_code 73 = .ok (.iload 4, 2) := by decide +kernel
theorem d_Mo_count_75 : decode prog_7_method_31_code 75 = .ok (.aload_n 0, 1) := by decide +kernel
theorem d_Mo_count_76 : decode prog_7_method_31_code 76 = .ok (.getfield 38, 3) := by decide +kernel
theorem d_Mo_count_79 : decode prog_7_method_31_code 79 = .ok (.iload 6, 2) := by decide +kernel
theorem d_Mo_count_81 : decode prog_7_method_31_code 81 = .ok (.baload, 1) := by decide +kernel
theorem d_Mo_count_82 : decode prog_7_method_31_code 82 = .ok (.ifCond .ne 23, 3) := by decide +kernel
theorem d_Mo_count_85 : decode prog_7_method_31_code 85 = .ok (.aload_n 0, 1) := by decide +kernel
theorem d_Mo_count_86 : decode prog_7_method_31_code 86 = .ok (.getfield 51, 3) := by decide +kernel
theorem d_Mo_count_89 : decode prog_7_method_31_code 89 = .ok (.iload 6, 2) := by decide +kernel
theorem d_Mo_count_91 : decode prog_7_method_31_code 91 = .ok (.iaload, 1) := by decide +kernel
theorem d_Mo_count_92 : decode prog_7_method_31_code 92 = .ok (.ifCond .lt 13, 3) := by decide +kernel
theorem d_Mo_count_95 : decode prog_7_method_31_code 95 = .ok (.aload_n 0, 1) := by decide +kernel
theorem d_Mo_count_96 : decode prog_7_method_31_code 96 = .ok (.getfield 54, 3) := by decide +kernel
theorem d_Mo_count_99 : decode prog_7_method_31_code 99 = .ok (.iload 6, 2) := by decide +kernel
theorem d_Mo_count_101 : decode prog_7_method_31_code 101 = .ok (.iaload, 1) := by decide +kernel
theorem d_Mo_count_102 : decode prog_7_method_31_code 102 = .ok (.goto 4, 3) := by decide +kernel
theorem d_Mo_count_105 : decode prog_7_method_31_code 105 = .ok (.iconst 0, 1) := by decide +kernel
theorem d_Mo_count_106 : decode prog_7_method_31_code 106 = .ok (.iadd, 1) := by decide +kernel
theorem d_Mo_count_107 : decode prog_7_method_31_code 107 = .ok (.istore 4, 2) := by decide +kernel
theorem d_Mo_count_109 : decode prog_7_method_31_code 109 = .ok (.iload 5, 2) := by decide +kernel
theorem d_Mo_count_111 : decode prog_7_method_31_code 111 = .ok (.aload_n 0, 1) := by decide +kernel
theorem d_Mo_count_112 : decode prog_7_method_31_code 112 = .ok (.getfield 38, 3) := by decide +kernel
theorem d_Mo_count_115 : decode prog_7_method_31_code 115 = .ok (.iload 6, 2) := by decide +kernel
theorem d_Mo_count_117 : decode prog_7_method_31_code 117 = .ok (.baload, 1) := by decide +kernel
theorem d_Mo_count_118 : decode prog_7_method_31_code 118 = .ok (.ifCond .ne 23, 3) := by decide +kernel
theorem d_Mo_count_121 : decode prog_7_method_31_code 121 = .ok (.aload_n 0, 1) := by decide +kernel
theorem d_Mo_count_122 : decode prog_7_method_31_code 122 = .ok (.getfield 57, 3) := by decide +kernel
theorem d_Mo_count_125 : decode prog_7_method_31_code 125 = .ok (.iload 6, 2) := by decide +kernel
theorem d_Mo_count_127 : decode prog_7_method_31_code 127 = .ok (.iaload, 1) := by decide +kernel
theorem d_Mo_count_128 : decode prog_7_method_31_code 128 = .ok (.ifCond .lt 13, 3) := by decide +kernel
theorem d_Mo_count_131 : decode prog_7_method_31_code 131 = .ok (.aload_n 0, 1) := by decide +kernel
theorem d_Mo_count_132 : decode prog_7_method_31_code 132 = .ok (.getfield 57, 3) := by decide +kernel
theorem d_Mo_count_135 : decode prog_7_method_31_code 135 = .ok (.iload 6, 2) := by decide +kernel
theorem d_Mo_count_137 : decode prog_7_method_31_code 137 = .ok (.iaload, 1) := by decide +kernel
theorem d_Mo_count_138 : decode prog_7_method_31_code 138 = .ok (.goto 4, 3) := by decide +kernel
theorem d_Mo_count_141 : decode prog_7_method_31_code 141 = .ok (.iconst 0, 1) := by decide +kernel
theorem d_Mo_count_142 : decode prog_7_method_31_code 142 = .ok (.iadd, 1) := by decide +kernel
theorem d_Mo_count_143 : decode prog_7_method_31_code 143 = .ok (.istore 5, 2) := by decide +kernel
theorem d_Mo_count_145 : decode prog_7_method_31_code 145 = .ok (.iinc 6 1, 3) := by decide +kernel
theorem d_Mo_count_148 : decode prog_7_method_31_code 148 = .ok (.goto (-130), 3) := by decide +kernel
theorem d_Mo_count_151 : decode prog_7_method_31_code 151 = .ok (.iload_n 1, 1) := by decide +kernel
theorem d_Mo_count_152 : decode prog_7_method_31_code 152 = .ok (.tableswitch 60 0 5 #[40, 45, 50, 52, 54, 57], 40) := by decide +kernel
theorem d_Mo_count_192 : decode prog_7_method_31_code 192 = .ok (.aload_n 0, 1) := by decide +kernel
theorem d_Mo_count_193 : decode prog_7_method_31_code 193 = .ok (.getfield 17, 3) := by decide +kernel
theorem d_Mo_count_196 : decode prog_7_method_31_code 196 = .ok (.ireturn, 1) := by decide +kernel
theorem d_Mo_count_197 : decode prog_7_method_31_code 197 = .ok (.aload_n 0, 1) := by decide +kernel
theorem d_Mo_count_198 : decode prog_7_method_31_code 198 = .ok (.getfield 20, 3) := by decide +kernel
theorem d_Mo_count_201 : decode prog_7_method_31_code 201 = .ok (.ireturn, 1) := by decide +kernel
theorem d_Mo_count_202 : decode prog_7_method_31_code 202 = .ok (.iload_n 2, 1) := by decide +kernel
theorem d_Mo_count_203 : decode prog_7_method_31_code 203 = .ok (.ireturn, 1) := by decide +kernel
theorem d_Mo_count_204 : decode prog_7_method_31_code 204 = .ok (.iload_n 3, 1) := by decide +kernel
theorem d_Mo_count_205 : decode prog_7_method_31_code 205 = .ok (.ireturn, 1) := by decide +kernel
theorem d_Mo_count_206 : decode prog_7_method_31_code 206 = .ok (.iload 4, 2) := by decide +kernel
theorem d_Mo_count_208 : decode prog_7_method_31_code 208 = .ok (.ireturn, 1) := by decide +kernel
theorem d_Mo_count_209 : decode prog_7_method_31_code 209 = .ok (.iload 5, 2) := by decide +kernel
theorem d_Mo_count_211 : decode prog_7_method_31_code 211 = .ok (.ireturn, 1) := by decide +kernel
theorem d_Mo_count_212 : decode prog_7_method_31_code 212 = .ok (.iconst (-1), 1) := by decide +kernel
theorem d_Mo_count_213 : decode prog_7_method_31_code 213 = .ok (.ireturn, 1) := by decide +kernel
