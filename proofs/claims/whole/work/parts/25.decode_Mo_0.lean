theorem d_Mo_init_0 : decode prog_7_method_1_code 0 = .ok (.aload_n 0, 1) := by decide +kernel
theorem d_Mo_init_1 : decode prog_7_method_1_code 1 = .ok (.invokespecial 1, 3) := by decide +kernel
theorem d_Mo_init_4 : decode prog_7_method_1_code 4 = .ok (.aload_n 0, 1) := by decide +kernel
theorem d_Mo_init_5 : decode prog_7_method_1_code 5 = .ok (.iconst 0, 1) := by decide +kernel
theorem d_Mo_init_6 : decode prog_7_method_1_code 6 = .ok (.putfield 7, 3) := by decide +kernel
theorem d_Mo_init_9 : decode prog_7_method_1_code 9 = .ok (.aload_n 0, 1) := by decide +kernel
theorem d_Mo_init_10 : decode prog_7_method_1_code 10 = .ok (.sipush 600, 3) := by decide +kernel
theorem d_Mo_init_13 : decode prog_7_method_1_code 13 = .ok (.newarray .int, 2) := by decide +kernel
theorem d_Mo_init_15 : decode prog_7_method_1_code 15 = .ok (.putfield 13, 3) := by decide +kernel
theorem d_Mo_init_18 : decode prog_7_method_1_code 18 = .ok (.aload_n 0, 1) := by decide +kernel
theorem d_Mo_init_19 : decode prog_7_method_1_code 19 = .ok (.iconst 0, 1) := by decide +kernel
theorem d_Mo_init_20 : decode prog_7_method_1_code 20 = .ok (.putfield 17, 3) := by decide +kernel
theorem d_Mo_init_23 : decode prog_7_method_1_code 23 = .ok (.aload_n 0, 1) := by decide +kernel
theorem d_Mo_init_24 : decode prog_7_method_1_code 24 = .ok (.iconst 0, 1) := by decide +kernel
theorem d_Mo_init_25 : decode prog_7_method_1_code 25 = .ok (.putfield 20, 3) := by decide +kernel
theorem d_Mo_init_28 : decode prog_7_method_1_code 28 = .ok (.aload_n 0, 1) := by decide +kernel
theorem d_Mo_init_29 : decode prog_7_method_1_code 29 = .ok (.sipush 300, 3) := by decide +kernel
theorem d_Mo_init_32 : decode prog_7_method_1_code 32 = .ok (.newarray .int, 2) := by decide +kernel
theorem d_Mo_init_34 : decode prog_7_method_1_code 34 = .ok (.putfield 23, 3) := by decide +kernel
theorem d_Mo_init_37 : decode prog_7_method_1_code 37 = .ok (.aload_n 0, 1) := by decide +kernel
theorem d_Mo_init_38 : decode prog_7_method_1_code 38 = .ok (.iconst 0, 1) := by decide +kernel
theorem d_Mo_init_39 : decode prog_7_method_1_code 39 = .ok (.putfield 26, 3) := by decide +kernel
theorem d_Mo_init_42 : decode prog_7_method_1_code 42 = .ok (.aload_n 0, 1) := by decide +kernel
theorem d_Mo_init_43 : decode prog_7_method_1_code 43 = .ok (.sipush 300, 3) := by decide +kernel
theorem d_Mo_init_46 : decode prog_7_method_1_code 46 = .ok (.newarray .int, 2) := by decide +kernel
theorem d_Mo_init_48 : decode prog_7_method_1_code 48 = .ok (.putfield 29, 3) := by decide +kernel
theorem d_Mo_init_51 : decode prog_7_method_1_code 51 = .ok (.aload_n 0, 1) := by decide +kernel
theorem d_Mo_init_52 : decode prog_7_method_1_code 52 = .ok (.iconst 0, 1) := by decide +kernel
theorem d_Mo_init_53 : decode prog_7_method_1_code 53 = .ok (.putfield 32, 3) := by decide +kernel
theorem d_Mo_init_56 : decode prog_7_method_1_code 56 = .ok (.aload_n 0, 1) := by decide +kernel
theorem d_Mo_init_57 : decode prog_7_method_1_code 57 = .ok (.iconst 0, 1) := by decide +kernel
theorem d_Mo_init_58 : decode prog_7_method_1_code 58 = .ok (.putfield 35, 3) := by decide +kernel
theorem d_Mo_init_61 : decode prog_7_method_1_code 61 = .ok (.aload_n 0, 1) := by decide +kernel
theorem d_Mo_init_62 : decode prog_7_method_1_code 62 = .ok (.bipush 20, 2) := by decide +kernel
theorem d_Mo_init_64 : decode prog_7_method_1_code 64 = .ok (.newarray .boolean, 2) := by decide +kernel
theorem d_Mo_init_66 : decode prog_7_method_1_code 66 = .ok (.putfield 38, 3) := by decide +kernel
theorem d_Mo_init_69 : decode prog_7_method_1_code 69 = .ok (.aload_n 0, 1) := by decide +kernel
theorem d_Mo_init_70 : decode prog_7_method_1_code 70 = .ok (.bipush 20, 2) := by decide +kernel
theorem d_Mo_init_72 : decode prog_7_method_1_code 72 = .ok (.newarray .int, 2) := by decide +kernel
theorem d_Mo_init_74 : decode prog_7_method_1_code 74 = .ok (.putfield 42, 3) := by decide +kernel
theorem d_Mo_init_77 : decode prog_7_method_1_code 77 = .ok (.aload_n 0, 1) := by decide +kernel
theorem d_Mo_init_78 : decode prog_7_method_1_code 78 = .ok (.bipush 20, 2) := by decide +kernel
theorem d_Mo_init_80 : decode prog_7_method_1_code 80 = .ok (.newarray .int, 2) := by decide +kernel
theorem d_Mo_init_82 : decode prog_7_method_1_code 82 = .ok (.putfield 45, 3) := by decide +kernel
theorem d_Mo_init_85 : decode prog_7_method_1_code 85 = .ok (.aload_n 0, 1) := by decide +kernel
theorem d_Mo_init_86 : decode prog_7_method_1_code 86 = .ok (.bipush 20, 2) := by decide +kernel
theorem d_Mo_init_88 : decode prog_7_method_1_code 88 = .ok (.newarray .int, 2) := by decide +kernel
theorem d_Mo_init_90 : decode prog_7_method_1_code 90 = .ok (.putfield 48, 3) := by decide +kernel
theorem d_Mo_init_93 : decode prog_7_method_1_code 93 = .ok (.aload_n 0, 1) := by decide +kernel
theorem d_Mo_init_94 : decode prog_7_method_1_code 94 = .ok (.bipush 20, 2) := by decide +kernel
theorem d_Mo_init_96 : decode prog_7_method_1_code 96 = .ok (.newarray .int, 2) := by decide +kernel
theorem d_Mo_init_98 : decode prog_7_method_1_code 98 = .ok (.putfield 51, 3) := by decide +kernel
theorem d_Mo_init_101 : decode prog_7_method_1_code 101 = .ok (.aload_n 0, 1) := by decide +kernel
theorem d_Mo_init_102 : decode prog_7_method_1_code 102 = .ok (.bipush 20, 2) := by decide +kernel
theorem d_Mo_init_104 : decode prog_7_method_1_code 104 = .ok (.newarray .int, 2) := by decide +kernel
theorem d_Mo_init_106 : decode prog_7_method_1_code 106 = .ok (.putfield 54, 3) := by decide +kernel
theorem d_Mo_init_109 : decode prog_7_method_1_code 109 = .ok (.aload_n 0, 1) := by decide +kernel
theorem d_Mo_init_110 : decode prog_7_method_1_code 110 = .ok (.bipush 20, 2) := by decide +kernel
theorem d_Mo_init_112 : decode prog_7_method_1_code 112 = .ok (.newarray .int, 2) := by decide +kernel
theorem d_Mo_init_114 : decode prog_7_method_1_code 114 = .ok (.putfield 57, 3) := by decide +kernel
theorem d_Mo_init_117 : decode prog_7_method_1_code 117 = .ok (.aload_n 0, 1) := by decide +kernel
theorem d_Mo_init_118 : decode prog_7_method_1_code 118 = .ok (.bipush 10, 2) := by decide +kernel
theorem d_Mo_init_120 : decode prog_7_method_1_code 120 = .ok (.newarray .int, 2) := by decide +kernel
theorem d_Mo_init_122 : decode prog_7_method_1_code 122 = .ok (.putfield 60, 3) := by decide +kernel
theorem d_Mo_init_125 : decode prog_7_method_1_code 125 = .ok (.aload_n 0, 1) := by decide +kernel
theorem d_Mo_init_126 : decode prog_7_method_1_code 126 = .ok (.bipush 40, 2) := by decide +kernel
theorem d_Mo_init_128 : decode prog_7_method_1_code 128 = .ok (.newarray .int, 2) := by decide +kernel
theorem d_Mo_init_130 : decode prog_7_method_1_code 130 = .ok (.putfield 63, 3) := by decide +kernel
theorem d_Mo_init_133 : decode prog_7_method_1_code 133 = .ok (.aload_n 0, 1) := by decide +kernel
theorem d_Mo_init_134 : decode prog_7_method_1_code 134 = .ok (.bipush 40, 2) := by decide +kernel
theorem d_Mo_init_136 : decode prog_7_method_1_code 136 = .ok (.newarray .int, 2) := by decide +kernel
theorem d_Mo_init_138 : decode prog_7_method_1_code 138 = .ok (.putfield 66, 3) := by decide +kernel
theorem d_Mo_init_141 : decode prog_7_method_1_code 141 = .ok (.aload_n 0, 1) := by decide +kernel
theorem d_Mo_init_142 : decode prog_7_method_1_code 142 = .ok (.bipush 40, 2) := by decide +kernel
theorem d_Mo_init_144 : decode prog_7_method_1_code 144 = .ok (.newarray .int, 2) := by decide +kernel
theorem d_Mo_init_146 : decode prog_7_method_1_code 146 = .ok (.putfield 69, 3) := by decide +kernel
theorem d_Mo_init_149 : decode prog_7_method_1_code 149 = .ok (.aload_n 0, 1) := by decide +kernel
theorem d_Mo_init_150 : decode prog_7_method_1_code 150 = .ok (.iconst 0, 1) := by decide +kernel
theorem d_Mo_init_151 : decode prog_7_method_1_code 151 = .ok (.putfield 72, 3) := by decide +kernel
theorem d_Mo_init_154 : decode prog_7_method_1_code 154 = .ok (.aload_n 0, 1) := by decide +kernel
theorem d_Mo_init_155 : decode prog_7_method_1_code 155 = .ok (.bipush 8, 2) := by decide +kernel
theorem d_Mo_init_157 : decode prog_7_method_1_code 157 = .ok (.newarray .int, 2) := by decide +kernel
theorem d_Mo_init_159 : decode prog_7_method_1_code 159 = .ok (.putfield 75, 3) := by decide +kernel
theorem d_Mo_init_162 : decode prog_7_method_1_code 162 = .ok (.aload_n 0, 1) := by decide +kernel
theorem d_Mo_init_163 : decode prog_7_method_1_code 163 = .ok (.bipush 8, 2) := by decide +kernel
theorem d_Mo_init_165 : decode prog_7_method_1_code 165 = .ok (.newarray .int, 2) := by decide +kernel
theorem d_Mo_init_167 : decode prog_7_method_1_code 167 = .ok (.putfield 78, 3) := by decide +kernel
theorem d_Mo_init_170 : decode prog_7_method_1_code 170 = .ok (.aload_n 0, 1) := by decide +kernel
theorem d_Mo_init_171 : decode prog_7_method_1_code 171 = .ok (.bipush 8, 2) := by decide +kernel
theorem d_Mo_init_173 : decode prog_7_method_1_code 173 = .ok (.newarray .int, 2) := by decide +kernel
theorem d_Mo_init_175 : decode prog_7_method_1_code 175 = .ok (.putfield 81, 3) := by decide +kernel
theorem d_Mo_init_178 : decode prog_7_method_1_code 178 = .ok (.aload_n 0, 1) := by decide +kernel
theorem d_Mo_init_179 : decode prog_7_method_1_code 179 = .ok (.bipush 61, 2) := by decide +kernel
theorem d_Mo_init_181 : decode prog_7_method_1_code 181 = .ok (.newarray .int, 2) := by decide +kernel
theorem d_Mo_init_183 : decode prog_7_method_1_code 183 = .ok (.putfield 84, 3) := by decide +kernel
theorem d_Mo_init_186 : decode prog_7_method_1_code 186 = .ok (.aload_n 0, 1) := by decide +kernel
theorem d_Mo_init_187 : decode prog_7_method_1_code 187 = .ok (.bipush 61, 2) := by decide +kernel
theorem d_Mo_init_189 : decode prog_7_method_1_code 189 = .ok (.newarray .int, 2) := by decide +kernel
theorem d_Mo_init_191 : decode prog_7_method_1_code 191 = .ok (.putfield 87, 3) := by decide +kernel
theorem d_Mo_init_194 : decode prog_7_method_1_code 194 = .ok (.aload_n 0, 1) := by decide +kernel
theorem d_Mo_init_195 : decode prog_7_method_1_code 195 = .ok (.bipush 61, 2) := by decide +kernel
theorem d_Mo_init_197 : decode prog_7_method_1_code 197 = .ok (.newarray .int, 2) := by decide +kernel
theorem d_Mo_init_199 : decode prog_7_method_1_code 199 = .ok (.putfield 90, 3) := by decide +kernel
theorem d_Mo_init_202 : decode prog_7_method_1_code 202 = .ok (.return_, 1) := by decide +kernel
theorem d_Mo_thrown_0 : decode prog_7_method_13_code 0 = .ok (.aload_n 0, 1) := by decide +kernel
theorem d_Mo_thrown_1 : decode prog_7_method_13_code 1 = .ok (.getfield 7, 3) := by decide +kernel
theorem d_Mo_thrown_4 : decode prog_7_method_13_code 4 = .ok (.ireturn, 1) := by decide +kernel
theorem d_Mo_sign_0 : decode prog_7_method_15_code 0 = .ok (.aload_n 0, 1) := by decide +kernel
theorem d_Mo_sign_1 : decode prog_7_method_15_code 1 = .ok (.iload_n 1, 1) := by decide +kernel
theorem d_Mo_sign_2 : decode prog_7_method_15_code 2 = .ok (.iconst 0, 1) := by decide +kernel
theorem d_Mo_sign_3 : decode prog_7_method_15_code 3 = .ok (.sipush 255, 3) := by decide +kernel
theorem d_Mo_sign_6 : decode prog_7_method_15_code 6 = .ok (.invokestatic 124, 3) := by decide +kernel
theorem d_Mo_sign_9 : decode prog_7_method_15_code 9 = .ok (.ifCond .eq 7, 3) := by decide +kernel
theorem d_Mo_sign_12 : decode prog_7_method_15_code 12 = .ok (.iconst 1, 1) := by decide +kernel
theorem d_Mo_sign_13 : decode prog_7_method_15_code 13 = .ok (.goto 18, 3) := by decide +kernel
theorem d_Mo_sign_16 : decode prog_7_method_15_code 16 = .ok (.aload_n 0, 1) := by decide +kernel
theorem d_Mo_sign_17 : decode prog_7_method_15_code 17 = .ok (.getfield 17, 3) := by decide +kernel
theorem d_Mo_sign_20 : decode prog_7_method_15_code 20 = .ok (.sipush 600, 3) := by decide +kernel
theorem d_Mo_sign_23 : decode prog_7_method_15_code 23 = .ok (.if_icmp .ne 7, 3) := by decide +kernel
theorem d_Mo_sign_26 : decode prog_7_method_15_code 26 = .ok (.iconst 2, 1) := by decide +kernel
theorem d_Mo_sign_27 : decode prog_7_method_15_code 27 = .ok (.goto 4, 3) := by decide +kernel
theorem d_Mo_sign_30 : decode prog_7_method_15_code 30 = .ok (.iconst 0, 1) := by decide +kernel
theorem d_Mo_sign_31 : decode prog_7_method_15_code 31 = .ok (.putfield 7, 3) := by decide +kernel
theorem d_Mo_sign_34 : decode prog_7_method_15_code 34 = .ok (.aload_n 0, 1) := by decide +kernel
theorem d_Mo_sign_35 : decode prog_7_method_15_code 35 = .ok (.getfield 7, 3) := by decide +kernel
theorem d_Mo_sign_38 : decode prog_7_method_15_code 38 = .ok (.ifCond .eq 5, 3) := by decide +kernel
theorem d_Mo_sign_41 : decode prog_7_method_15_code 41 = .ok (.iconst 0, 1) := by decide +kernel
theorem d_Mo_sign_42 : decode prog_7_method_15_code 42 = .ok (.ireturn, 1) := by decide +kernel
theorem d_Mo_sign_43 : decode prog_7_method_15_code 43 = .ok (.aload_n 0, 1) := by decide +kernel
theorem d_Mo_sign_44 : decode prog_7_method_15_code 44 = .ok (.getfield 13, 3) := by decide +kernel
theorem d_Mo_sign_47 : decode prog_7_method_15_code 47 = .ok (.aload_n 0, 1) := by decide +kernel
theorem d_Mo_sign_48 : decode prog_7_method_15_code 48 = .ok (.getfield 17, 3) := by decide +kernel
theorem d_Mo_sign_51 : decode prog_7_method_15_code 51 = .ok (.iload_n 1, 1) := by decide +kernel
theorem d_Mo_sign_52 : decode prog_7_method_15_code 52 = .ok (.iastore, 1) := by decide +kernel
theorem d_Mo_sign_53 : decode prog_7_method_15_code 53 = .ok (.aload_n 0, 1) := by decide +kernel
theorem d_Mo_sign_54 : decode prog_7_method_15_code 54 = .ok (.dup, 1) := by decide +kernel
theorem d_Mo_sign_55 : decode prog_7_method_15_code 55 = .ok (.getfield 17, 3) := by decide +kernel
theorem d_Mo_sign_58 : decode prog_7_method_15_code 58 = .ok (.iconst 1, 1) := by decide +kernel
theorem d_Mo_sign_59 : decode prog_7_method_15_code 59 = .ok (.iadd, 1) := by decide +kernel
theorem d_Mo_sign_60 : decode prog_7_method_15_code 60 = .ok (.putfield 17, 3) := by decide +kernel
theorem d_Mo_sign_63 : decode prog_7_method_15_code 63 = .ok (.aload_n 0, 1) := by decide +kernel
theorem d_Mo_sign_64 : decode prog_7_method_15_code 64 = .ok (.getfield 17, 3) := by decide +kernel
theorem d_Mo_sign_67 : decode prog_7_method_15_code 67 = .ok (.ireturn, 1) := by decide +kernel
theorem d_Mo_not_0 : decode prog_7_method_2_code 0 = .ok (.iload_n 0, 1) := by decide +kernel
theorem d_Mo_not_1 : decode prog_7_method_2_code 1 = .ok (.iload_n 1, 1) := by decide +kernel
theorem d_Mo_not_2 : decode prog_7_method_2_code 2 = .ok (.if_icmp .lt 8, 3) := by decide +kernel
theorem d_Mo_not_5 : decode prog_7_method_2_code 5 = .ok (.iload_n 0, 1) := by decide +kernel
theorem d_Mo_not_6 : decode prog_7_method_2_code 6 = .ok (.iload_n 2, 1) := by decide +kernel
theorem d_Mo_not_7 : decode prog_7_method_2_code 7 = .ok (.if_icmp .le 7, 3) := by decide +kernel
theorem d_Mo_not_10 : decode prog_7_method_2_code 10 = .ok (.iconst 1, 1) := by decide +kernel
theorem d_Mo_not_11 : decode prog_7_method_2_code 11 = .ok (.goto 4, 3) := by decide +kernel
theorem d_Mo_not_14 : decode prog_7_method_2_code 14 = .ok (.iconst 0, 1) := by decide +kernel
theorem d_Mo_not_15 : decode prog_7_method_2_code 15 = .ok (.ireturn, 1) := by decide +kernel
theorem d_Mo_read_0 : decode prog_7_method_16_code 0 = .ok (.aload_n 0, 1) := by decide +kernel
theorem d_Mo_read_1 : decode prog_7_method_16_code 1 = .ok (.iconst 0, 1) := by decide +kernel
theorem d_Mo_read_2 : decode prog_7_method_16_code 2 = .ok (.putfield 7, 3) := by decide +kernel
theorem d_Mo_read_5 : decode prog_7_method_16_code 5 = .ok (.aload_n 0, 1) := by decide +kernel
theorem d_Mo_read_6 : decode prog_7_method_16_code 6 = .ok (.iconst 0, 1) := by decide +kernel
theorem d_Mo_read_7 : decode prog_7_method_16_code 7 = .ok (.putfield 26, 3) := by decide +kernel
theorem d_Mo_read_10 : decode prog_7_method_16_code 10 = .ok (.aload_n 0, 1) := by decide +kernel
theorem d_Mo_read_11 : decode prog_7_method_16_code 11 = .ok (.iconst 0, 1) := by decide +kernel
theorem d_Mo_read_12 : decode prog_7_method_16_code 12 = .ok (.putfield 32, 3) := by decide +kernel
theorem d_Mo_read_15 : decode prog_7_method_16_code 15 = .ok (.iconst 0, 1) := by decide +kernel
theorem d_Mo_read_16 : decode prog_7_method_16_code 16 = .ok (.istore_n 1, 1) := by decide +kernel
theorem d_Mo_read_17 : decode prog_7_method_16_code 17 = .ok (.iconst 1, 1) := by decide +kernel
theorem d_Mo_read_18 : decode prog_7_method_16_code 18 = .ok (.istore_n 2, 1) := by decide +kernel
theorem d_Mo_read_19 : decode prog_7_method_16_code 19 = .ok (.aload_n 0, 1) := by decide +kernel
theorem d_Mo_read_20 : decode prog_7_method_16_code 20 = .ok (.getfield 32, 3) := by decide +kernel
theorem d_Mo_read_23 : decode prog_7_method_16_code 23 = .ok (.aload_n 0, 1) := by decide +kernel
theorem d_Mo_read_24 : decode prog_7_method_16_code 24 = .ok (.getfield 17, 3) := by decide +kernel
theorem d_Mo_read_27 : decode prog_7_method_16_code 27 = .ok (.if_icmp .ge 20, 3) := by decide +kernel
theorem d_Mo_read_30 : decode prog_7_method_16_code 30 = .ok (.iload_n 2, 1) := by decide +kernel
theorem d_Mo_read_31 : decode prog_7_method_16_code 31 = .ok (.ifCond .eq 16, 3) := by decide +kernel
theorem d_Mo_read_34 : decode prog_7_method_16_code 34 = .ok (.aload_n 0, 1) := by decide +kernel
theorem d_Mo_read_35 : decode prog_7_method_16_code 35 = .ok (.getfield 32, 3) := by decide +kernel
theorem d_Mo_read_38 : decode prog_7_method_16_code 38 = .ok (.istore_n 1, 1) := by decide +kernel
theorem d_Mo_read_39 : decode prog_7_method_16_code 39 = .ok (.aload_n 0, 1) := by decide +kernel
theorem d_Mo_read_40 : decode prog_7_method_16_code 40 = .ok (.invokevirtual 128, 3) := by decide +kernel
theorem d_Mo_read_43 : decode prog_7_method_16_code 43 = .ok (.istore_n 2, 1) := by decide +kernel
theorem d_Mo_read_44 : decode prog_7_method_16_code 44 = .ok (.goto (-25), 3) := by decide +kernel
theorem d_Mo_read_47 : decode prog_7_method_16_code 47 = .ok (.aload_n 0, 1) := by decide +kernel
theorem d_Mo_read_48 : decode prog_7_method_16_code 48 = .ok (.iconst 0, 1) := by decide +kernel
theorem d_Mo_read_49 : decode prog_7_method_16_code 49 = .ok (.putfield 17, 3) := by decide +kernel
theorem d_Mo_read_52 : decode prog_7_method_16_code 52 = .ok (.iload_n 2, 1) := by decide +kernel
theorem d_Mo_read_53 : decode prog_7_method_16_code 53 = .ok (.ifCond .ne 7, 3) := by decide +kernel
theorem d_Mo_read_56 : decode prog_7_method_16_code 56 = .ok (.iconst (-1), 1) := by decide +kernel
theorem d_Mo_read_57 : decode prog_7_method_16_code 57 = .ok (.iload_n 1, 1) := by decide +kernel
theorem d_Mo_read_58 : decode prog_7_method_16_code 58 = .ok (.isub, 1) := by decide +kernel
theorem d_Mo_read_59 : decode prog_7_method_16_code 59 = .ok (.ireturn, 1) := by decide +kernel
theorem d_Mo_read_60 : decode prog_7_method_16_code 60 = .ok (.aload_n 0, 1) := by decide +kernel
theorem d_Mo_read_61 : decode prog_7_method_16_code 61 = .ok (.aload_n 0, 1) := by decide +kernel
theorem d_Mo_read_62 : decode prog_7_method_16_code 62 = .ok (.getfield 26, 3) := by decide +kernel
theorem d_Mo_read_65 : decode prog_7_method_16_code 65 = .ok (.putfield 20, 3) := by decide +kernel
theorem d_Mo_read_68 : decode prog_7_method_16_code 68 = .ok (.iconst 0, 1) := by decide +kernel
theorem d_Mo_read_69 : decode prog_7_method_16_code 69 = .ok (.istore_n 3, 1) := by decide +kernel
theorem d_Mo_read_70 : decode prog_7_method_16_code 70 = .ok (.iload_n 3, 1) := by decide +kernel
theorem d_Mo_read_71 : decode prog_7_method_16_code 71 = .ok (.iconst 5, 1) := by decide +kernel
theorem d_Mo_read_72 : decode prog_7_method_16_code 72 = .ok (.aload_n 0, 1) := by decide +kernel
theorem d_Mo_read_73 : decode prog_7_method_16_code 73 = .ok (.getfield 20, 3) := by decide +kernel
theorem d_Mo_read_76 : decode prog_7_method_16_code 76 = .ok (.imul, 1) := by decide +kernel
theorem d_Mo_read_77 : decode prog_7_method_16_code 77 = .ok (.if_icmp .ge 21, 3) := by decide +kernel
theorem d_Mo_read_80 : decode prog_7_method_16_code 80 = .ok (.aload_n 0, 1) := by decide +kernel
theorem d_Mo_read_81 : decode prog_7_method_16_code 81 = .ok (.getfield 23, 3) := by decide +kernel
theorem d_Mo_read_84 : decode prog_7_method_16_code 84 = .ok (.iload_n 3, 1) := by decide +kernel
theorem d_Mo_read_85 : decode prog_7_method_16_code 85 = .ok (.aload_n 0, 1) := by decide +kernel
theorem d_Mo_read_86 : decode prog_7_method_16_code 86 = .ok (.getfield 29, 3) := by decide +kernel
theorem d_Mo_read_89 : decode prog_7_method_16_code 89 = .ok (.iload_n 3, 1) := by decide +kernel
theorem d_Mo_read_90 : decode prog_7_method_16_code 90 = .ok (.iaload, 1) := by decide +kernel
theorem d_Mo_read_91 : decode prog_7_method_16_code 91 = .ok (.iastore, 1) := by decide +kernel
theorem d_Mo_read_92 : decode prog_7_method_16_code 92 = .ok (.iinc 3 1, 3) := by decide +kernel
theorem d_Mo_read_95 : decode prog_7_method_16_code 95 = .ok (.goto (-25), 3) := by decide +kernel
theorem d_Mo_read_98 : decode prog_7_method_16_code 98 = .ok (.aload_n 0, 1) := by decide +kernel
theorem d_Mo_read_99 : decode prog_7_method_16_code 99 = .ok (.getfield 20, 3) := by decide +kernel
theorem d_Mo_read_102 : decode prog_7_method_16_code 102 = .ok (.ireturn, 1) := by decide +kernel
theorem d_Mo_oneLine_0 : decode prog_7_method_7_code 0 = .ok (.aload_n 0, 1) := by decide +kernel
theorem d_Mo_oneLine_1 : decode prog_7_method_7_code 1 = .ok (.getfield 26, 3) := by decide +kernel
theorem d_Mo_oneLine_4 : decode prog_7_method_7_code 4 = .ok (.bipush 60, 2) := by decide +kernel
theorem d_Mo_oneLine_6 : decode prog_7_method_7_code 6 = .ok (.if_icmp .ne 5, 3) := by decide +kernel
theorem d_Mo_oneLine_9 : decode prog_7_method_7_code 9 = .ok (.iconst 0, 1) := by decide +kernel
theorem d_Mo_oneLine_10 : decode prog_7_method_7_code 10 = .ok (.ireturn, 1) := by decide +kernel
theorem d_Mo_oneLine_11 : decode prog_7_method_7_code 11 = .ok (.aload_n 0, 1) := by decide +kernel
theorem d_Mo_oneLine_12 : decode prog_7_method_7_code 12 = .ok (.invokevirtual 93, 3) := by decide +kernel
theorem d_Mo_oneLine_15 : decode prog_7_method_7_code 15 = .ok (.istore_n 1, 1) := by decide +kernel
theorem d_Mo_oneLine_16 : decode prog_7_method_7_code 16 = .ok (.iload_n 1, 1) := by decide +kernel
theorem d_Mo_oneLine_17 : decode prog_7_method_7_code 17 = .ok (.bipush 82, 2) := by decide +kernel
theorem d_Mo_oneLine_19 : decode prog_7_method_7_code 19 = .ok (.if_icmp .ne 7, 3) := by decide +kernel
theorem d_Mo_oneLine_22 : decode prog_7_method_7_code 22 = .ok (.iconst 4, 1) := by decide +kernel
theorem d_Mo_oneLine_23 : decode prog_7_method_7_code 23 = .ok (.goto 30, 3) := by decide +kernel
theorem d_Mo_oneLine_26 : decode prog_7_method_7_code 26 = .ok (.iload_n 1, 1) := by decide +kernel
theorem d_Mo_oneLine_27 : decode prog_7_method_7_code 27 = .ok (.bipush 70, 2) := by decide +kernel
theorem d_Mo_oneLine_29 : decode prog_7_method_7_code 29 = .ok (.if_icmp .ne 7, 3) := by decide +kernel
theorem d_Mo_oneLine_32 : decode prog_7_method_7_code 32 = .ok (.iconst 3, 1) := by decide +kernel
theorem d_Mo_oneLine_33 : decode prog_7_method_7_code 33 = .ok (.goto 20, 3) := by decide +kernel
theorem d_Mo_oneLine_36 : decode prog_7_method_7_code 36 = .ok (.iload_n 1, 1) := by decide +kernel
theorem d_Mo_oneLine_37 : decode prog_7_method_7_code 37 = .ok (.bipush 68, 2) := by decide +kernel
theorem d_Mo_oneLine_39 : decode prog_7_method_7_code 39 = .ok (.if_icmp .eq 9, 3) := by decide +kernel
theorem d_Mo_oneLine_42 : decode prog_7_method_7_code 42 = .ok (.iload_n 1, 1) := by decide +kernel
theorem d_Mo_oneLine_43 : decode prog_7_method_7_code 43 = .ok (.bipush 77, 2) := by decide +kernel
theorem d_Mo_oneLine_45 : decode prog_7_method_7_code 45 = .ok (.if_icmp .ne 7, 3) := by decide +kernel
theorem d_Mo_oneLine_48 : decode prog_7_method_7_code 48 = .ok (.iconst 2, 1) := by decide +kernel
theorem d_Mo_oneLine_49 : decode prog_7_method_7_code 49 = .ok (.goto 4, 3) := by decide +kernel
theorem d_Mo_oneLine_52 : decode prog_7_method_7_code 52 = .ok (.iconst 0, 1) := by decide +kernel
theorem d_Mo_oneLine_53 : decode prog_7_method_7_code 53 = .ok (.istore_n 2, 1) := by decide +kernel
theorem d_Mo_oneLine_54 : decode prog_7_method_7_code 54 = .ok (.iload_n 2, 1) := by decide +kernel
theorem d_Mo_oneLine_55 : decode prog_7_method_7_code 55 = .ok (.ifCond .ne 5, 3) := by decide +kernel
theorem d_Mo_oneLine_58 : decode prog_7_method_7_code 58 = .ok (.iconst 0, 1) := by decide +kernel
theorem d_Mo_oneLine_59 : decode prog_7_method_7_code 59 = .ok (.ireturn, 1) := by decide +kernel
theorem d_Mo_oneLine_60 : decode prog_7_method_7_code 60 = .ok (.aload_n 0, 1) := by decide +kernel
theorem d_Mo_oneLine_61 : decode prog_7_method_7_code 61 = .ok (.dup, 1) := by decide +kernel
theorem d_Mo_oneLine_62 : decode prog_7_method_7_code 62 = .ok (.getfield 32, 3) := by decide +kernel
theorem d_Mo_oneLine_65 : decode prog_7_method_7_code 65 = .ok (.iconst 1, 1) := by decide +kernel
theorem d_Mo_oneLine_66 : decode prog_7_method_7_code 66 = .ok (.iadd, 1) := by decide +kernel
theorem d_Mo_oneLine_67 : decode prog_7_method_7_code 67 = .ok (.putfield 32, 3) := by decide +kernel
theorem d_Mo_oneLine_70 : decode prog_7_method_7_code 70 = .ok (.iconst 5, 1) := by decide +kernel
theorem d_Mo_oneLine_71 : decode prog_7_method_7_code 71 = .ok (.aload_n 0, 1) := by decide +kernel
theorem d_Mo_oneLine_72 : decode prog_7_method_7_code 72 = .ok (.getfield 26, 3) := by decide +kernel
theorem d_Mo_oneLine_75 : decode prog_7_method_7_code 75 = .ok (.imul, 1) := by decide +kernel
theorem d_Mo_oneLine_76 : decode prog_7_method_7_code 76 = .ok (.istore_n 3, 1) := by decide +kernel
theorem d_Mo_oneLine_77 : decode prog_7_method_7_code 77 = .ok (.iconst 1, 1) := by decide +kernel
theorem d_Mo_oneLine_78 : decode prog_7_method_7_code 78 = .ok (.istore 4, 2) := by decide +kernel
theorem d_Mo_oneLine_80 : decode prog_7_method_7_code 80 = .ok (.iload 4, 2) := by decide +kernel
theorem d_Mo_oneLine_82 : decode prog_7_method_7_code 82 = .ok (.iload_n 2, 1) := by decide +kernel
theorem d_Mo_oneLine_83 : decode prog_7_method_7_code 83 = .ok (.if_icmp .gt 33, 3) := by decide +kernel
theorem d_Mo_oneLine_86 : decode prog_7_method_7_code 86 = .ok (.aload_n 0, 1) := by decide +kernel
theorem d_Mo_oneLine_87 : decode prog_7_method_7_code 87 = .ok (.invokevirtual 97, 3) := by decide +kernel
theorem d_Mo_oneLine_90 : decode prog_7_method_7_code 90 = .ok (.istore 5, 2) := by decide +kernel
theorem d_Mo_oneLine_92 : decode prog_7_method_7_code 92 = .ok (.iload 5, 2) := by decide +kernel
theorem d_Mo_oneLine_94 : decode prog_7_method_7_code 94 = .ok (.ifCond .ge 5, 3) := by decide +kernel
theorem d_Mo_oneLine_97 : decode prog_7_method_7_code 97 = .ok (.iconst 0, 1) := by decide +kernel
theorem d_Mo_oneLine_98 : decode prog_7_method_7_code 98 = .ok (.ireturn, 1) := by decide +kernel
theorem d_Mo_oneLine_99 : decode prog_7_method_7_code 99 = .ok (.aload_n 0, 1) := by decide +kernel
theorem d_Mo_oneLine_100 : decode prog_7_method_7_code 100 = .ok (.getfield 29, 3) := by decide +kernel
theorem d_Mo_oneLine_103 : decode prog_7_method_7_code 103 = .ok (.iload_n 3, 1) := by decide +kernel
theorem d_Mo_oneLine_104 : decode prog_7_method_7_code 104 = .ok (.iload 4, 2) := by decide +kernel
theorem d_Mo_oneLine_106 : decode prog_7_method_7_code 106 = .ok (.iadd, 1) := by decide +kernel
theorem d_Mo_oneLine_107 : decode prog_7_method_7_code 107 = .ok (.iload 5, 2) := by decide +kernel
theorem d_Mo_oneLine_109 : decode prog_7_method_7_code 109 = .ok (.iastore, 1) := by decide +kernel
theorem d_Mo_oneLine_110 : decode prog_7_method_7_code 110 = .ok (.iinc 4 1, 3) := by decide +kernel
theorem d_Mo_oneLine_113 : decode prog_7_method_7_code 113 = .ok (.goto (-33), 3) := by decide +kernel
theorem d_Mo_oneLine_116 : decode prog_7_method_7_code 116 = .ok (.aload_n 0, 1) := by decide +kernel
theorem d_Mo_oneLine_117 : decode prog_7_method_7_code 117 = .ok (.invokevirtual 93, 3) := by decide +kernel
theorem d_Mo_oneLine_120 : decode prog_7_method_7_code 120 = .ok (.bipush 10, 2) := by decide +kernel
theorem d_Mo_oneLine_122 : decode prog_7_method_7_code 122 = .ok (.if_icmp .eq 5, 3) := by decide +kernel
theorem d_Mo_oneLine_125 : decode prog_7_method_7_code 125 = .ok (.iconst 0, 1) := by decide +kernel
theorem d_Mo_oneLine_126 : decode prog_7_method_7_code 126 = .ok (.ireturn, 1) := by decide +kernel
theorem d_Mo_oneLine_127 : decode prog_7_method_7_code 127 = .ok (.aload_n 0, 1) := by decide +kernel
theorem d_Mo_oneLine_128 : decode prog_7_method_7_code 128 = .ok (.dup, 1) := by decide +kernel
theorem d_Mo_oneLine_129 : decode prog_7_method_7_code 129 = .ok (.getfield 32, 3) := by decide +kernel
theorem d_Mo_oneLine_132 : decode prog_7_method_7_code 132 = .ok (.iconst 1, 1) := by decide +kernel
theorem d_Mo_oneLine_133 : decode prog_7_method_7_code 133 = .ok (.iadd, 1) := by decide +kernel
theorem d_Mo_oneLine_134 : decode prog_7_method_7_code 134 = .ok (.putfield 32, 3) := by decide +kernel
theorem d_Mo_oneLine_137 : decode prog_7_method_7_code 137 = .ok (.aload_n 0, 1) := by decide +kernel
theorem d_Mo_oneLine_138 : decode prog_7_method_7_code 138 = .ok (.getfield 29, 3) := by decide +kernel
theorem d_Mo_oneLine_141 : decode prog_7_method_7_code 141 = .ok (.iload_n 3, 1) := by decide +kernel
theorem d_Mo_oneLine_142 : decode prog_7_method_7_code 142 = .ok (.iconst 1, 1) := by decide +kernel
theorem d_Mo_oneLine_143 : decode prog_7_method_7_code 143 = .ok (.iadd, 1) := by decide +kernel
theorem d_Mo_oneLine_144 : decode prog_7_method_7_code 144 = .ok (.iaload, 1) := by decide +kernel
theorem d_Mo_oneLine_145 : decode prog_7_method_7_code 145 = .ok (.istore 4, 2) := by decide +kernel
theorem d_Mo_oneLine_147 : decode prog_7_method_7_code 147 = .ok (.aload_n 0, 1) := by decide +kernel
theorem d_Mo_oneLine_148 : decode prog_7_method_7_code 148 = .ok (.getfield 29, 3) := by decide +kernel
theorem d_Mo_oneLine_151 : decode prog_7_method_7_code 151 = .ok (.iload_n 3, 1) := by decide +kernel
theorem d_Mo_oneLine_152 : decode prog_7_method_7_code 152 = .ok (.iconst 2, 1) := by decide +kernel
theorem d_Mo_oneLine_153 : decode prog_7_method_7_code 153 = .ok (.iadd, 1) := by decide +kernel
theorem d_Mo_oneLine_154 : decode prog_7_method_7_code 154 = .ok (.iaload, 1) := by decide +kernel
theorem d_Mo_oneLine_155 : decode prog_7_method_7_code 155 = .ok (.istore 5, 2) := by decide +kernel
theorem d_Mo_oneLine_157 : decode prog_7_method_7_code 157 = .ok (.aload_n 0, 1) := by decide +kernel
theorem d_Mo_oneLine_158 : decode prog_7_method_7_code 158 = .ok (.getfield 29, 3) := by decide +kernel
theorem d_Mo_oneLine_161 : decode prog_7_method_7_code 161 = .ok (.iload_n 3, 1) := by decide +kernel
theorem d_Mo_oneLine_162 : decode prog_7_method_7_code 162 = .ok (.iconst 3, 1) := by decide +kernel
theorem d_Mo_oneLine_163 : decode prog_7_method_7_code 163 = .ok (.iadd, 1) := by decide +kernel
theorem d_Mo_oneLine_164 : decode prog_7_method_7_code 164 = .ok (.iaload, 1) := by decide +kernel
theorem d_Mo_oneLine_165 : decode prog_7_method_7_code 165 = .ok (.istore 6, 2) := by decide +kernel
theorem d_Mo_oneLine_167 : decode prog_7_method_7_code 167 = .ok (.iload 4, 2) := by decide +kernel
theorem d_Mo_oneLine_169 : decode prog_7_method_7_code 169 = .ok (.bipush 9, 2) := by decide +kernel
theorem d_Mo_oneLine_171 : decode prog_7_method_7_code 171 = .ok (.if_icmp .le 5, 3) := by decide +kernel
theorem d_Mo_oneLine_174 : decode prog_7_method_7_code 174 = .ok (.iconst 0, 1) := by decide +kernel
theorem d_Mo_oneLine_175 : decode prog_7_method_7_code 175 = .ok (.ireturn, 1) := by decide +kernel
theorem d_Mo_oneLine_176 : decode prog_7_method_7_code 176 = .ok (.iload_n 1, 1) := by decide +kernel
theorem d_Mo_oneLine_177 : decode prog_7_method_7_code 177 = .ok (.bipush 82, 2) := by decide +kernel
theorem d_Mo_oneLine_179 : decode prog_7_method_7_code 179 = .ok (.if_icmp .ne 51, 3) := by decide +kernel
theorem d_Mo_oneLine_182 : decode prog_7_method_7_code 182 = .ok (.iload 5, 2) := by decide +kernel
theorem d_Mo_oneLine_184 : decode prog_7_method_7_code 184 = .ok (.bipush 9, 2) := by decide +kernel
theorem d_Mo_oneLine_186 : decode prog_7_method_7_code 186 = .ok (.if_icmp .gt 42, 3) := by decide +kernel
theorem d_Mo_oneLine_189 : decode prog_7_method_7_code 189 = .ok (.iload 6, 2) := by decide +kernel
theorem d_Mo_oneLine_191 : decode prog_7_method_7_code 191 = .ok (.iconst 1, 1) := by decide +kernel
theorem d_Mo_oneLine_192 : decode prog_7_method_7_code 192 = .ok (.if_icmp .lt 36, 3) := by decide +kernel
theorem d_Mo_oneLine_195 : decode prog_7_method_7_code 195 = .ok (.iload 6, 2) := by decide +kernel
theorem d_Mo_oneLine_197 : decode prog_7_method_7_code 197 = .ok (.ldc 100, 2) := by decide +kernel
theorem d_Mo_oneLine_199 : decode prog_7_method_7_code 199 = .ok (.if_icmp .gt 29, 3) := by decide +kernel
theorem d_Mo_oneLine_202 : decode prog_7_method_7_code 202 = .ok (.aload_n 0, 1) := by decide +kernel
theorem d_Mo_oneLine_203 : decode prog_7_method_7_code 203 = .ok (.getfield 29, 3) := by decide +kernel
theorem d_Mo_oneLine_206 : decode prog_7_method_7_code 206 = .ok (.iload_n 3, 1) := by decide +kernel
theorem d_Mo_oneLine_207 : decode prog_7_method_7_code 207 = .ok (.iconst 4, 1) := by decide +kernel
theorem d_Mo_oneLine_208 : decode prog_7_method_7_code 208 = .ok (.iadd, 1) := by decide +kernel
theorem d_Mo_oneLine_209 : decode prog_7_method_7_code 209 = .ok (.iaload, 1) := by decide +kernel
theorem d_Mo_oneLine_210 : decode prog_7_method_7_code 210 = .ok (.ldc 101, 2) := by decide +kernel
theorem d_Mo_oneLine_212 : decode prog_7_method_7_code 212 = .ok (.if_icmp .gt 16, 3) := by decide +kernel
theorem d_Mo_oneLine_215 : decode prog_7_method_7_code 215 = .ok (.iload 6, 2) := by decide +kernel
theorem d_Mo_oneLine_217 : decode prog_7_method_7_code 217 = .ok (.aload_n 0, 1) := by decide +kernel
theorem d_Mo_oneLine_218 : decode prog_7_method_7_code 218 = .ok (.iload 4, 2) := by decide +kernel
theorem d_Mo_oneLine_220 : decode prog_7_method_7_code 220 = .ok (.iload 5, 2) := by decide +kernel
theorem d_Mo_oneLine_222 : decode prog_7_method_7_code 222 = .ok (.invokevirtual 102, 3) := by decide +kernel
theorem d_Mo_oneLine_225 : decode prog_7_method_7_code 225 = .ok (.if_icmp .gt 74, 3) := by decide +kernel
theorem d_Mo_oneLine_228 : decode prog_7_method_7_code 228 = .ok (.iconst 0, 1) := by decide +kernel
theorem d_Mo_oneLine_229 : decode prog_7_method_7_code 229 = .ok (.ireturn, 1) := by decide +kernel
theorem d_Mo_oneLine_230 : decode prog_7_method_7_code 230 = .ok (.aload_n 0, 1) := by decide +kernel
theorem d_Mo_oneLine_231 : decode prog_7_method_7_code 231 = .ok (.iload_n 1, 1) := by decide +kernel
theorem d_Mo_oneLine_232 : decode prog_7_method_7_code 232 = .ok (.iload 4, 2) := by decide +kernel
theorem d_Mo_oneLine_234 : decode prog_7_method_7_code 234 = .ok (.invokevirtual 106, 3) := by decide +kernel
theorem d_Mo_oneLine_237 : decode prog_7_method_7_code 237 = .ok (.ifCond .eq 5, 3) := by decide +kernel
theorem d_Mo_oneLine_240 : decode prog_7_method_7_code 240 = .ok (.iconst 0, 1) := by decide +kernel
theorem d_Mo_oneLine_241 : decode prog_7_method_7_code 241 = .ok (.ireturn, 1) := by decide +kernel
theorem d_Mo_oneLine_242 : decode prog_7_method_7_code 242 = .ok (.iload_n 1, 1) := by decide +kernel
theorem d_Mo_oneLine_243 : decode prog_7_method_7_code 243 = .ok (.bipush 68, 2) := by decide +kernel
theorem d_Mo_oneLine_245 : decode prog_7_method_7_code 245 = .ok (.if_icmp .ne 10, 3) := by decide +kernel
theorem d_Mo_oneLine_248 : decode prog_7_method_7_code 248 = .ok (.iload 5, 2) := by decide +kernel
theorem d_Mo_oneLine_250 : decode prog_7_method_7_code 250 = .ok (.ldc 100, 2) := by decide +kernel
theorem d_Mo_oneLine_252 : decode prog_7_method_7_code 252 = .ok (.if_icmp .gt 16, 3) := by decide +kernel
theorem d_Mo_oneLine_255 : decode prog_7_method_7_code 255 = .ok (.iload_n 1, 1) := by decide +kernel
theorem d_Mo_oneLine_256 : decode prog_7_method_7_code 256 = .ok (.bipush 77, 2) := by decide +kernel
theorem d_Mo_oneLine_258 : decode prog_7_method_7_code 258 = .ok (.if_icmp .ne 12, 3) := by decide +kernel
theorem d_Mo_oneLine_261 : decode prog_7_method_7_code 261 = .ok (.iload 5, 2) := by decide +kernel
theorem d_Mo_oneLine_263 : decode prog_7_method_7_code 263 = .ok (.ldc 101, 2) := by decide +kernel
theorem d_Mo_oneLine_265 : decode prog_7_method_7_code 265 = .ok (.if_icmp .le 5, 3) := by decide +kernel
theorem d_Mo_oneLine_268 : decode prog_7_method_7_code 268 = .ok (.iconst 0, 1) := by decide +kernel
theorem d_Mo_oneLine_269 : decode prog_7_method_7_code 269 = .ok (.ireturn, 1) := by decide +kernel
theorem d_Mo_oneLine_270 : decode prog_7_method_7_code 270 = .ok (.iload_n 1, 1) := by decide +kernel
theorem d_Mo_oneLine_271 : decode prog_7_method_7_code 271 = .ok (.bipush 70, 2) := by decide +kernel
theorem d_Mo_oneLine_273 : decode prog_7_method_7_code 273 = .ok (.if_icmp .ne 26, 3) := by decide +kernel
theorem d_Mo_oneLine_276 : decode prog_7_method_7_code 276 = .ok (.iload 6, 2) := by decide +kernel
theorem d_Mo_oneLine_278 : decode prog_7_method_7_code 278 = .ok (.iconst 1, 1) := by decide +kernel
theorem d_Mo_oneLine_279 : decode prog_7_method_7_code 279 = .ok (.if_icmp .lt 18, 3) := by decide +kernel
theorem d_Mo_oneLine_282 : decode prog_7_method_7_code 282 = .ok (.iload 6, 2) := by decide +kernel
theorem d_Mo_oneLine_284 : decode prog_7_method_7_code 284 = .ok (.sipush 1000, 3) := by decide +kernel
theorem d_Mo_oneLine_287 : decode prog_7_method_7_code 287 = .ok (.if_icmp .gt 10, 3) := by decide +kernel
theorem d_Mo_oneLine_290 : decode prog_7_method_7_code 290 = .ok (.iload 5, 2) := by decide +kernel
theorem d_Mo_oneLine_292 : decode prog_7_method_7_code 292 = .ok (.iload 6, 2) := by decide +kernel
theorem d_Mo_oneLine_294 : decode prog_7_method_7_code 294 = .ok (.if_icmp .le 5, 3) := by decide +kernel
theorem d_Mo_oneLine_297 : decode prog_7_method_7_code 297 = .ok (.iconst 0, 1) := by decide +kernel
theorem d_Mo_oneLine_298 : decode prog_7_method_7_code 298 = .ok (.ireturn, 1) := by decide +kernel
theorem d_Mo_oneLine_299 : decode prog_7_method_7_code 299 = .ok (.aload_n 0, 1) := by decide +kernel
theorem d_Mo_oneLine_300 : decode prog_7_method_7_code 300 = .ok (.getfield 29, 3) := by decide +kernel
theorem d_Mo_oneLine_303 : decode prog_7_method_7_code 303 = .ok (.iload_n 3, 1) := by decide +kernel
theorem d_Mo_oneLine_304 : decode prog_7_method_7_code 304 = .ok (.iload_n 1, 1) := by decide +kernel
theorem d_Mo_oneLine_305 : decode prog_7_method_7_code 305 = .ok (.iastore, 1) := by decide +kernel
theorem d_Mo_oneLine_306 : decode prog_7_method_7_code 306 = .ok (.aload_n 0, 1) := by decide +kernel
theorem d_Mo_oneLine_307 : decode prog_7_method_7_code 307 = .ok (.dup, 1) := by decide +kernel
theorem d_Mo_oneLine_308 : decode prog_7_method_7_code 308 = .ok (.getfield 26, 3) := by decide +kernel
theorem d_Mo_oneLine_311 : decode prog_7_method_7_code 311 = .ok (.iconst 1, 1) := by decide +kernel
theorem d_Mo_oneLine_312 : decode prog_7_method_7_code 312 = .ok (.iadd, 1) := by decide +kernel
theorem d_Mo_oneLine_313 : decode prog_7_method_7_code 313 = .ok (.putfield 26, 3) := by decide +kernel
theorem d_Mo_oneLine_316 : decode prog_7_method_7_code 316 = .ok (.iconst 1, 1) := by decide +kernel
theorem d_Mo_oneLine_317 : decode prog_7_method_7_code 317 = .ok (.ireturn, 1) := by decide +kernel
theorem d_Mo_here_0 : decode prog_7_method_3_code 0 = .ok (.aload_n 0, 1) := by decide +kernel
theorem d_Mo_here_1 : decode prog_7_method_3_code 1 = .ok (.getfield 32, 3) := by decide +kernel
theorem d_Mo_here_4 : decode prog_7_method_3_code 4 = .ok (.aload_n 0, 1) := by decide +kernel
theorem d_Mo_here_5 : decode prog_7_method_3_code 5 = .ok (.getfield 17, 3) := by decide +kernel
theorem d_Mo_here_8 : decode prog_7_method_3_code 8 = .ok (.if_icmp .ge 15, 3) := by decide +kernel
theorem d_Mo_here_11 : decode prog_7_method_3_code 11 = .ok (.aload_n 0, 1) := by decide +kernel
theorem d_Mo_here_12 : decode prog_7_method_3_code 12 = .ok (.getfield 13, 3) := by decide +kernel
theorem d_Mo_here_15 : decode prog_7_method_3_code 15 = .ok (.aload_n 0, 1) := by decide +kernel
theorem d_Mo_here_16 : decode prog_7_method_3_code 16 = .ok (.getfield 32, 3) := by decide +kernel
theorem d_Mo_here_19 : decode prog_7_method_3_code 19 = .ok (.iaload, 1) := by decide +kernel
theorem d_Mo_here_20 : decode prog_7_method_3_code 20 = .ok (.goto 4, 3) := by decide +kernel
theorem d_Mo_here_23 : decode prog_7_method_3_code 23 = .ok (.iconst (-1), 1) := by decide +kernel
theorem d_Mo_here_24 : decode prog_7_method_3_code 24 = .ok (.ireturn, 1) := by decide +kernel
theorem d_Mo_number_0 : decode prog_7_method_4_code 0 = .ok (.aload_n 0, 1) := by decide +kernel
theorem d_Mo_number_1 : decode prog_7_method_4_code 1 = .ok (.invokevirtual 93, 3) := by decide +kernel
theorem d_Mo_number_4 : decode prog_7_method_4_code 4 = .ok (.bipush 32, 2) := by decide +kernel
theorem d_Mo_number_6 : decode prog_7_method_4_code 6 = .ok (.if_icmp .eq 5, 3) := by decide +kernel
theorem d_Mo_number_9 : decode prog_7_method_4_code 9 = .ok (.iconst (-1), 1) := by decide +kernel
theorem d_Mo_number_10 : decode prog_7_method_4_code 10 = .ok (.ireturn, 1) := by decide +kernel
theorem d_Mo_number_11 : decode prog_7_method_4_code 11 = .ok (.aload_n 0, 1) := by decide +kernel
theorem d_Mo_number_12 : decode prog_7_method_4_code 12 = .ok (.dup, 1) := by decide +kernel
theorem d_Mo_number_13 : decode prog_7_method_4_code 13 = .ok (.getfield 32, 3) := by decide +kernel
theorem d_Mo_number_16 : decode prog_7_method_4_code 16 = .ok (.iconst 1, 1) := by decide +kernel
theorem d_Mo_number_17 : decode prog_7_method_4_code 17 = .ok (.iadd, 1) := by decide +kernel
theorem d_Mo_number_18 : decode prog_7_method_4_code 18 = .ok (.putfield 32, 3) := by decide +kernel
theorem d_Mo_number_21 : decode prog_7_method_4_code 21 = .ok (.iconst 0, 1) := by decide +kernel
theorem d_Mo_number_22 : decode prog_7_method_4_code 22 = .ok (.istore_n 1, 1) := by decide +kernel
theorem d_Mo_number_23 : decode prog_7_method_4_code 23 = .ok (.iconst 0, 1) := by decide +kernel
theorem d_Mo_number_24 : decode prog_7_method_4_code 24 = .ok (.istore_n 2, 1) := by decide +kernel
theorem d_Mo_number_25 : decode prog_7_method_4_code 25 = .ok (.aload_n 0, 1) := by decide +kernel
theorem d_Mo_number_26 : decode prog_7_method_4_code 26 = .ok (.invokevirtual 93, 3) := by decide +kernel
theorem d_Mo_number_29 : decode prog_7_method_4_code 29 = .ok (.istore_n 3, 1) := by decide +kernel
theorem d_Mo_number_30 : decode prog_7_method_4_code 30 = .ok (.aload_n 0, 1) := by decide +kernel
theorem d_Mo_number_31 : decode prog_7_method_4_code 31 = .ok (.invokevirtual 93, 3) := by decide +kernel
theorem d_Mo_number_34 : decode prog_7_method_4_code 34 = .ok (.bipush 48, 2) := by decide +kernel
theorem d_Mo_number_36 : decode prog_7_method_4_code 36 = .ok (.if_icmp .lt 47, 3) := by decide +kernel
theorem d_Mo_number_39 : decode prog_7_method_4_code 39 = .ok (.aload_n 0, 1) := by decide +kernel
theorem d_Mo_number_40 : decode prog_7_method_4_code 40 = .ok (.invokevirtual 93, 3) := by decide +kernel
theorem d_Mo_number_43 : decode prog_7_method_4_code 43 = .ok (.bipush 57, 2) := by decide +kernel
theorem d_Mo_number_45 : decode prog_7_method_4_code 45 = .ok (.if_icmp .gt 38, 3) := by decide +kernel
theorem d_Mo_number_48 : decode prog_7_method_4_code 48 = .ok (.iload_n 1, 1) := by decide +kernel
theorem d_Mo_number_49 : decode prog_7_method_4_code 49 = .ok (.bipush 9, 2) := by decide +kernel
theorem d_Mo_number_51 : decode prog_7_method_4_code 51 = .ok (.if_icmp .ge 16, 3) := by decide +kernel
theorem d_Mo_number_54 : decode prog_7_method_4_code 54 = .ok (.bipush 10, 2) := by decide +kernel
theorem d_Mo_number_56 : decode prog_7_method_4_code 56 = .ok (.iload_n 2, 1) := by decide +kernel
theorem d_Mo_number_57 : decode prog_7_method_4_code 57 = .ok (.imul, 1) := by decide +kernel
theorem d_Mo_number_58 : decode prog_7_method_4_code 58 = .ok (.aload_n 0, 1) := by decide +kernel
theorem d_Mo_number_59 : decode prog_7_method_4_code 59 = .ok (.invokevirtual 93, 3) := by decide +kernel
theorem d_Mo_number_62 : decode prog_7_method_4_code 62 = .ok (.iadd, 1) := by decide +kernel
theorem d_Mo_number_63 : decode prog_7_method_4_code 63 = .ok (.bipush 48, 2) := by decide +kernel
theorem d_Mo_number_65 : decode prog_7_method_4_code 65 = .ok (.isub, 1) := by decide +kernel
theorem d_Mo_number_66 : decode prog_7_method_4_code 66 = .ok (.istore_n 2, 1) := by decide +kernel
theorem d_Mo_number_67 : decode prog_7_method_4_code 67 = .ok (.iinc 1 1, 3) := by decide +kernel
theorem d_Mo_number_70 : decode prog_7_method_4_code 70 = .ok (.aload_n 0, 1) := by decide +kernel
theorem d_Mo_number_71 : decode prog_7_method_4_code 71 = .ok (.dup, 1) := by decide +kernel
theorem d_Mo_number_72 : decode prog_7_method_4_code 72 = .ok (.getfield 32, 3) := by decide +kernel
theorem d_Mo_number_75 : decode prog_7_method_4_code 75 = .ok (.iconst 1, 1) := by decide +kernel
