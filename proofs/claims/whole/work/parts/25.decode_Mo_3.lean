theorem d_Mo_contract_161 : decode prog_7_method_22_code 161 = .ok (.iastore, 1) := by decide +kernel
theorem d_Mo_contract_162 : decode prog_7_method_22_code 162 = .ok (.aload_n 0, 1) := by decide +kernel
theorem d_Mo_contract_163 : decode prog_7_method_22_code 163 = .ok (.getfield 66, 3) := by decide +kernel
theorem d_Mo_contract_166 : decode prog_7_method_22_code 166 = .ok (.iload 5, 2) := by decide +kernel
theorem d_Mo_contract_168 : decode prog_7_method_22_code 168 = .ok (.iload_n 3, 1) := by decide +kernel
theorem d_Mo_contract_169 : decode prog_7_method_22_code 169 = .ok (.iastore, 1) := by decide +kernel
theorem d_Mo_contract_170 : decode prog_7_method_22_code 170 = .ok (.aload_n 0, 1) := by decide +kernel
theorem d_Mo_contract_171 : decode prog_7_method_22_code 171 = .ok (.getfield 69, 3) := by decide +kernel
theorem d_Mo_contract_174 : decode prog_7_method_22_code 174 = .ok (.iload 5, 2) := by decide +kernel
theorem d_Mo_contract_176 : decode prog_7_method_22_code 176 = .ok (.iload 4, 2) := by decide +kernel
theorem d_Mo_contract_178 : decode prog_7_method_22_code 178 = .ok (.iastore, 1) := by decide +kernel
theorem d_Mo_contract_179 : decode prog_7_method_22_code 179 = .ok (.aload_n 0, 1) := by decide +kernel
theorem d_Mo_contract_180 : decode prog_7_method_22_code 180 = .ok (.getfield 60, 3) := by decide +kernel
theorem d_Mo_contract_183 : decode prog_7_method_22_code 183 = .ok (.iload_n 1, 1) := by decide +kernel
theorem d_Mo_contract_184 : decode prog_7_method_22_code 184 = .ok (.iaload, 1) := by decide +kernel
theorem d_Mo_contract_185 : decode prog_7_method_22_code 185 = .ok (.ireturn, 1) := by decide +kernel
theorem d_Mo_book_0 : decode prog_7_method_23_code 0 = .ok (.aload_n 0, 1) := by decide +kernel
theorem d_Mo_book_1 : decode prog_7_method_23_code 1 = .ok (.aload_n 0, 1) := by decide +kernel
theorem d_Mo_book_2 : decode prog_7_method_23_code 2 = .ok (.iload_n 1, 1) := by decide +kernel
theorem d_Mo_book_3 : decode prog_7_method_23_code 3 = .ok (.invokevirtual 133, 3) := by decide +kernel
theorem d_Mo_book_6 : decode prog_7_method_23_code 6 = .ok (.ifCond .eq 7, 3) := by decide +kernel
theorem d_Mo_book_9 : decode prog_7_method_23_code 9 = .ok (.iconst 1, 1) := by decide +kernel
theorem d_Mo_book_10 : decode prog_7_method_23_code 10 = .ok (.goto 31, 3) := by decide +kernel
theorem d_Mo_book_13 : decode prog_7_method_23_code 13 = .ok (.iload_n 2, 1) := by decide +kernel
theorem d_Mo_book_14 : decode prog_7_method_23_code 14 = .ok (.iconst 0, 1) := by decide +kernel
theorem d_Mo_book_15 : decode prog_7_method_23_code 15 = .ok (.bipush 9, 2) := by decide +kernel
theorem d_Mo_book_17 : decode prog_7_method_23_code 17 = .ok (.invokestatic 124, 3) := by decide +kernel
theorem d_Mo_book_20 : decode prog_7_method_23_code 20 = .ok (.ifCond .eq 7, 3) := by decide +kernel
theorem d_Mo_book_23 : decode prog_7_method_23_code 23 = .ok (.iconst 2, 1) := by decide +kernel
theorem d_Mo_book_24 : decode prog_7_method_23_code 24 = .ok (.goto 17, 3) := by decide +kernel
theorem d_Mo_book_27 : decode prog_7_method_23_code 27 = .ok (.aload_n 0, 1) := by decide +kernel
theorem d_Mo_book_28 : decode prog_7_method_23_code 28 = .ok (.getfield 51, 3) := by decide +kernel
theorem d_Mo_book_31 : decode prog_7_method_23_code 31 = .ok (.iload_n 1, 1) := by decide +kernel
theorem d_Mo_book_32 : decode prog_7_method_23_code 32 = .ok (.iaload, 1) := by decide +kernel
theorem d_Mo_book_33 : decode prog_7_method_23_code 33 = .ok (.ifCond .lt 7, 3) := by decide +kernel
theorem d_Mo_book_36 : decode prog_7_method_23_code 36 = .ok (.iconst 3, 1) := by decide +kernel
theorem d_Mo_book_37 : decode prog_7_method_23_code 37 = .ok (.goto 4, 3) := by decide +kernel
theorem d_Mo_book_40 : decode prog_7_method_23_code 40 = .ok (.iconst 0, 1) := by decide +kernel
theorem d_Mo_book_41 : decode prog_7_method_23_code 41 = .ok (.putfield 7, 3) := by decide +kernel
theorem d_Mo_book_44 : decode prog_7_method_23_code 44 = .ok (.aload_n 0, 1) := by decide +kernel
theorem d_Mo_book_45 : decode prog_7_method_23_code 45 = .ok (.getfield 7, 3) := by decide +kernel
theorem d_Mo_book_48 : decode prog_7_method_23_code 48 = .ok (.ifCond .eq 5, 3) := by decide +kernel
theorem d_Mo_book_51 : decode prog_7_method_23_code 51 = .ok (.iconst 0, 1) := by decide +kernel
theorem d_Mo_book_52 : decode prog_7_method_23_code 52 = .ok (.ireturn, 1) := by decide +kernel
theorem d_Mo_book_53 : decode prog_7_method_23_code 53 = .ok (.aload_n 0, 1) := by decide +kernel
theorem d_Mo_book_54 : decode prog_7_method_23_code 54 = .ok (.iload_n 1, 1) := by decide +kernel
theorem d_Mo_book_55 : decode prog_7_method_23_code 55 = .ok (.iload_n 2, 1) := by decide +kernel
theorem d_Mo_book_56 : decode prog_7_method_23_code 56 = .ok (.invokevirtual 137, 3) := by decide +kernel
theorem d_Mo_book_59 : decode prog_7_method_23_code 59 = .ok (.istore_n 3, 1) := by decide +kernel
theorem d_Mo_book_60 : decode prog_7_method_23_code 60 = .ok (.aload_n 0, 1) := by decide +kernel
theorem d_Mo_book_61 : decode prog_7_method_23_code 61 = .ok (.iload_n 3, 1) := by decide +kernel
theorem d_Mo_book_62 : decode prog_7_method_23_code 62 = .ok (.bipush (-2), 2) := by decide +kernel
theorem d_Mo_book_64 : decode prog_7_method_23_code 64 = .ok (.if_icmp .ne 7, 3) := by decide +kernel
theorem d_Mo_book_67 : decode prog_7_method_23_code 67 = .ok (.iconst 4, 1) := by decide +kernel
theorem d_Mo_book_68 : decode prog_7_method_23_code 68 = .ok (.goto 13, 3) := by decide +kernel
theorem d_Mo_book_71 : decode prog_7_method_23_code 71 = .ok (.iload_n 3, 1) := by decide +kernel
theorem d_Mo_book_72 : decode prog_7_method_23_code 72 = .ok (.iconst (-1), 1) := by decide +kernel
theorem d_Mo_book_73 : decode prog_7_method_23_code 73 = .ok (.if_icmp .ne 7, 3) := by decide +kernel
theorem d_Mo_book_76 : decode prog_7_method_23_code 76 = .ok (.iconst 3, 1) := by decide +kernel
theorem d_Mo_book_77 : decode prog_7_method_23_code 77 = .ok (.goto 4, 3) := by decide +kernel
theorem d_Mo_book_80 : decode prog_7_method_23_code 80 = .ok (.iconst 0, 1) := by decide +kernel
theorem d_Mo_book_81 : decode prog_7_method_23_code 81 = .ok (.putfield 7, 3) := by decide +kernel
theorem d_Mo_book_84 : decode prog_7_method_23_code 84 = .ok (.aload_n 0, 1) := by decide +kernel
theorem d_Mo_book_85 : decode prog_7_method_23_code 85 = .ok (.getfield 7, 3) := by decide +kernel
theorem d_Mo_book_88 : decode prog_7_method_23_code 88 = .ok (.ifCond .eq 5, 3) := by decide +kernel
theorem d_Mo_book_91 : decode prog_7_method_23_code 91 = .ok (.iconst 0, 1) := by decide +kernel
theorem d_Mo_book_92 : decode prog_7_method_23_code 92 = .ok (.ireturn, 1) := by decide +kernel
theorem d_Mo_book_93 : decode prog_7_method_23_code 93 = .ok (.aload_n 0, 1) := by decide +kernel
theorem d_Mo_book_94 : decode prog_7_method_23_code 94 = .ok (.getfield 51, 3) := by decide +kernel
theorem d_Mo_book_97 : decode prog_7_method_23_code 97 = .ok (.iload_n 1, 1) := by decide +kernel
theorem d_Mo_book_98 : decode prog_7_method_23_code 98 = .ok (.iload_n 2, 1) := by decide +kernel
theorem d_Mo_book_99 : decode prog_7_method_23_code 99 = .ok (.iastore, 1) := by decide +kernel
theorem d_Mo_book_100 : decode prog_7_method_23_code 100 = .ok (.aload_n 0, 1) := by decide +kernel
theorem d_Mo_book_101 : decode prog_7_method_23_code 101 = .ok (.getfield 54, 3) := by decide +kernel
theorem d_Mo_book_104 : decode prog_7_method_23_code 104 = .ok (.iload_n 1, 1) := by decide +kernel
theorem d_Mo_book_105 : decode prog_7_method_23_code 105 = .ok (.iload_n 3, 1) := by decide +kernel
theorem d_Mo_book_106 : decode prog_7_method_23_code 106 = .ok (.iastore, 1) := by decide +kernel
theorem d_Mo_book_107 : decode prog_7_method_23_code 107 = .ok (.iload_n 3, 1) := by decide +kernel
theorem d_Mo_book_108 : decode prog_7_method_23_code 108 = .ok (.ireturn, 1) := by decide +kernel
theorem d_Mo_combine_0 : decode prog_7_method_24_code 0 = .ok (.aload_n 0, 1) := by decide +kernel
theorem d_Mo_combine_1 : decode prog_7_method_24_code 1 = .ok (.aload_n 0, 1) := by decide +kernel
theorem d_Mo_combine_2 : decode prog_7_method_24_code 2 = .ok (.iload_n 1, 1) := by decide +kernel
theorem d_Mo_combine_3 : decode prog_7_method_24_code 3 = .ok (.invokevirtual 133, 3) := by decide +kernel
theorem d_Mo_combine_6 : decode prog_7_method_24_code 6 = .ok (.ifCond .ne 11, 3) := by decide +kernel
theorem d_Mo_combine_9 : decode prog_7_method_24_code 9 = .ok (.aload_n 0, 1) := by decide +kernel
theorem d_Mo_combine_10 : decode prog_7_method_24_code 10 = .ok (.iload_n 2, 1) := by decide +kernel
theorem d_Mo_combine_11 : decode prog_7_method_24_code 11 = .ok (.invokevirtual 133, 3) := by decide +kernel
theorem d_Mo_combine_14 : decode prog_7_method_24_code 14 = .ok (.ifCond .eq 7, 3) := by decide +kernel
theorem d_Mo_combine_17 : decode prog_7_method_24_code 17 = .ok (.iconst 1, 1) := by decide +kernel
theorem d_Mo_combine_18 : decode prog_7_method_24_code 18 = .ok (.goto 4, 3) := by decide +kernel
theorem d_Mo_combine_21 : decode prog_7_method_24_code 21 = .ok (.iconst 0, 1) := by decide +kernel
theorem d_Mo_combine_22 : decode prog_7_method_24_code 22 = .ok (.putfield 7, 3) := by decide +kernel
theorem d_Mo_combine_25 : decode prog_7_method_24_code 25 = .ok (.aload_n 0, 1) := by decide +kernel
theorem d_Mo_combine_26 : decode prog_7_method_24_code 26 = .ok (.getfield 7, 3) := by decide +kernel
theorem d_Mo_combine_29 : decode prog_7_method_24_code 29 = .ok (.ifCond .eq 5, 3) := by decide +kernel
theorem d_Mo_combine_32 : decode prog_7_method_24_code 32 = .ok (.iconst 0, 1) := by decide +kernel
theorem d_Mo_combine_33 : decode prog_7_method_24_code 33 = .ok (.ireturn, 1) := by decide +kernel
theorem d_Mo_combine_34 : decode prog_7_method_24_code 34 = .ok (.iload_n 1, 1) := by decide +kernel
theorem d_Mo_combine_35 : decode prog_7_method_24_code 35 = .ok (.iload_n 2, 1) := by decide +kernel
theorem d_Mo_combine_36 : decode prog_7_method_24_code 36 = .ok (.if_icmp .eq 72, 3) := by decide +kernel
theorem d_Mo_combine_39 : decode prog_7_method_24_code 39 = .ok (.aload_n 0, 1) := by decide +kernel
theorem d_Mo_combine_40 : decode prog_7_method_24_code 40 = .ok (.getfield 51, 3) := by decide +kernel
theorem d_Mo_combine_43 : decode prog_7_method_24_code 43 = .ok (.iload_n 1, 1) := by decide +kernel
theorem d_Mo_combine_44 : decode prog_7_method_24_code 44 = .ok (.iaload, 1) := by decide +kernel
theorem d_Mo_combine_45 : decode prog_7_method_24_code 45 = .ok (.ifCond .ge 63, 3) := by decide +kernel
theorem d_Mo_combine_48 : decode prog_7_method_24_code 48 = .ok (.aload_n 0, 1) := by decide +kernel
theorem d_Mo_combine_49 : decode prog_7_method_24_code 49 = .ok (.getfield 51, 3) := by decide +kernel
theorem d_Mo_combine_52 : decode prog_7_method_24_code 52 = .ok (.iload_n 2, 1) := by decide +kernel
theorem d_Mo_combine_53 : decode prog_7_method_24_code 53 = .ok (.iaload, 1) := by decide +kernel
theorem d_Mo_combine_54 : decode prog_7_method_24_code 54 = .ok (.ifCond .ge 54, 3) := by decide +kernel
theorem d_Mo_combine_57 : decode prog_7_method_24_code 57 = .ok (.aload_n 0, 1) := by decide +kernel
theorem d_Mo_combine_58 : decode prog_7_method_24_code 58 = .ok (.getfield 42, 3) := by decide +kernel
theorem d_Mo_combine_61 : decode prog_7_method_24_code 61 = .ok (.iload_n 1, 1) := by decide +kernel
theorem d_Mo_combine_62 : decode prog_7_method_24_code 62 = .ok (.iaload, 1) := by decide +kernel
theorem d_Mo_combine_63 : decode prog_7_method_24_code 63 = .ok (.aload_n 0, 1) := by decide +kernel
theorem d_Mo_combine_64 : decode prog_7_method_24_code 64 = .ok (.getfield 42, 3) := by decide +kernel
theorem d_Mo_combine_67 : decode prog_7_method_24_code 67 = .ok (.iload_n 2, 1) := by decide +kernel
theorem d_Mo_combine_68 : decode prog_7_method_24_code 68 = .ok (.iaload, 1) := by decide +kernel
theorem d_Mo_combine_69 : decode prog_7_method_24_code 69 = .ok (.if_icmp .ne 39, 3) := by decide +kernel
theorem d_Mo_combine_72 : decode prog_7_method_24_code 72 = .ok (.aload_n 0, 1) := by decide +kernel
theorem d_Mo_combine_73 : decode prog_7_method_24_code 73 = .ok (.getfield 45, 3) := by decide +kernel
theorem d_Mo_combine_76 : decode prog_7_method_24_code 76 = .ok (.iload_n 1, 1) := by decide +kernel
theorem d_Mo_combine_77 : decode prog_7_method_24_code 77 = .ok (.iaload, 1) := by decide +kernel
theorem d_Mo_combine_78 : decode prog_7_method_24_code 78 = .ok (.aload_n 0, 1) := by decide +kernel
theorem d_Mo_combine_79 : decode prog_7_method_24_code 79 = .ok (.getfield 45, 3) := by decide +kernel
theorem d_Mo_combine_82 : decode prog_7_method_24_code 82 = .ok (.iload_n 2, 1) := by decide +kernel
theorem d_Mo_combine_83 : decode prog_7_method_24_code 83 = .ok (.iaload, 1) := by decide +kernel
theorem d_Mo_combine_84 : decode prog_7_method_24_code 84 = .ok (.iadd, 1) := by decide +kernel
theorem d_Mo_combine_85 : decode prog_7_method_24_code 85 = .ok (.ldc 100, 2) := by decide +kernel
theorem d_Mo_combine_87 : decode prog_7_method_24_code 87 = .ok (.if_icmp .gt 21, 3) := by decide +kernel
theorem d_Mo_combine_90 : decode prog_7_method_24_code 90 = .ok (.aload_n 0, 1) := by decide +kernel
theorem d_Mo_combine_91 : decode prog_7_method_24_code 91 = .ok (.getfield 48, 3) := by decide +kernel
theorem d_Mo_combine_94 : decode prog_7_method_24_code 94 = .ok (.iload_n 1, 1) := by decide +kernel
theorem d_Mo_combine_95 : decode prog_7_method_24_code 95 = .ok (.iaload, 1) := by decide +kernel
theorem d_Mo_combine_96 : decode prog_7_method_24_code 96 = .ok (.aload_n 0, 1) := by decide +kernel
theorem d_Mo_combine_97 : decode prog_7_method_24_code 97 = .ok (.getfield 48, 3) := by decide +kernel
theorem d_Mo_combine_100 : decode prog_7_method_24_code 100 = .ok (.iload_n 2, 1) := by decide +kernel
theorem d_Mo_combine_101 : decode prog_7_method_24_code 101 = .ok (.iaload, 1) := by decide +kernel
theorem d_Mo_combine_102 : decode prog_7_method_24_code 102 = .ok (.iadd, 1) := by decide +kernel
theorem d_Mo_combine_103 : decode prog_7_method_24_code 103 = .ok (.ldc 132, 2) := by decide +kernel
theorem d_Mo_combine_105 : decode prog_7_method_24_code 105 = .ok (.if_icmp .le 7, 3) := by decide +kernel
theorem d_Mo_combine_108 : decode prog_7_method_24_code 108 = .ok (.iconst 1, 1) := by decide +kernel
theorem d_Mo_combine_109 : decode prog_7_method_24_code 109 = .ok (.goto 4, 3) := by decide +kernel
theorem d_Mo_combine_112 : decode prog_7_method_24_code 112 = .ok (.iconst 0, 1) := by decide +kernel
theorem d_Mo_combine_113 : decode prog_7_method_24_code 113 = .ok (.istore_n 3, 1) := by decide +kernel
theorem d_Mo_combine_114 : decode prog_7_method_24_code 114 = .ok (.aload_n 0, 1) := by decide +kernel
theorem d_Mo_combine_115 : decode prog_7_method_24_code 115 = .ok (.iload_n 3, 1) := by decide +kernel
theorem d_Mo_combine_116 : decode prog_7_method_24_code 116 = .ok (.ifCond .eq 7, 3) := by decide +kernel
theorem d_Mo_combine_119 : decode prog_7_method_24_code 119 = .ok (.iconst 2, 1) := by decide +kernel
theorem d_Mo_combine_120 : decode prog_7_method_24_code 120 = .ok (.goto 4, 3) := by decide +kernel
theorem d_Mo_combine_123 : decode prog_7_method_24_code 123 = .ok (.iconst 0, 1) := by decide +kernel
theorem d_Mo_combine_124 : decode prog_7_method_24_code 124 = .ok (.putfield 7, 3) := by decide +kernel
theorem d_Mo_combine_127 : decode prog_7_method_24_code 127 = .ok (.iload_n 3, 1) := by decide +kernel
theorem d_Mo_combine_128 : decode prog_7_method_24_code 128 = .ok (.ifCond .eq 5, 3) := by decide +kernel
theorem d_Mo_combine_131 : decode prog_7_method_24_code 131 = .ok (.iconst 0, 1) := by decide +kernel
theorem d_Mo_combine_132 : decode prog_7_method_24_code 132 = .ok (.ireturn, 1) := by decide +kernel
theorem d_Mo_combine_133 : decode prog_7_method_24_code 133 = .ok (.aload_n 0, 1) := by decide +kernel
theorem d_Mo_combine_134 : decode prog_7_method_24_code 134 = .ok (.getfield 45, 3) := by decide +kernel
theorem d_Mo_combine_137 : decode prog_7_method_24_code 137 = .ok (.iload_n 1, 1) := by decide +kernel
theorem d_Mo_combine_138 : decode prog_7_method_24_code 138 = .ok (.aload_n 0, 1) := by decide +kernel
theorem d_Mo_combine_139 : decode prog_7_method_24_code 139 = .ok (.getfield 45, 3) := by decide +kernel
theorem d_Mo_combine_142 : decode prog_7_method_24_code 142 = .ok (.iload_n 1, 1) := by decide +kernel
theorem d_Mo_combine_143 : decode prog_7_method_24_code 143 = .ok (.iaload, 1) := by decide +kernel
theorem d_Mo_combine_144 : decode prog_7_method_24_code 144 = .ok (.aload_n 0, 1) := by decide +kernel
theorem d_Mo_combine_145 : decode prog_7_method_24_code 145 = .ok (.getfield 45, 3) := by decide +kernel
theorem d_Mo_combine_148 : decode prog_7_method_24_code 148 = .ok (.iload_n 2, 1) := by decide +kernel
theorem d_Mo_combine_149 : decode prog_7_method_24_code 149 = .ok (.iaload, 1) := by decide +kernel
theorem d_Mo_combine_150 : decode prog_7_method_24_code 150 = .ok (.iadd, 1) := by decide +kernel
theorem d_Mo_combine_151 : decode prog_7_method_24_code 151 = .ok (.iastore, 1) := by decide +kernel
theorem d_Mo_combine_152 : decode prog_7_method_24_code 152 = .ok (.aload_n 0, 1) := by decide +kernel
theorem d_Mo_combine_153 : decode prog_7_method_24_code 153 = .ok (.getfield 48, 3) := by decide +kernel
theorem d_Mo_combine_156 : decode prog_7_method_24_code 156 = .ok (.iload_n 1, 1) := by decide +kernel
theorem d_Mo_combine_157 : decode prog_7_method_24_code 157 = .ok (.aload_n 0, 1) := by decide +kernel
theorem d_Mo_combine_158 : decode prog_7_method_24_code 158 = .ok (.getfield 48, 3) := by decide +kernel
theorem d_Mo_combine_161 : decode prog_7_method_24_code 161 = .ok (.iload_n 1, 1) := by decide +kernel
theorem d_Mo_combine_162 : decode prog_7_method_24_code 162 = .ok (.iaload, 1) := by decide +kernel
theorem d_Mo_combine_163 : decode prog_7_method_24_code 163 = .ok (.aload_n 0, 1) := by decide +kernel
theorem d_Mo_combine_164 : decode prog_7_method_24_code 164 = .ok (.getfield 48, 3) := by decide +kernel
theorem d_Mo_combine_167 : decode prog_7_method_24_code 167 = .ok (.iload_n 2, 1) := by decide +kernel
theorem d_Mo_combine_168 : decode prog_7_method_24_code 168 = .ok (.iaload, 1) := by decide +kernel
theorem d_Mo_combine_169 : decode prog_7_method_24_code 169 = .ok (.iadd, 1) := by decide +kernel
theorem d_Mo_combine_170 : decode prog_7_method_24_code 170 = .ok (.iastore, 1) := by decide +kernel
theorem d_Mo_combine_171 : decode prog_7_method_24_code 171 = .ok (.aload_n 0, 1) := by decide +kernel
theorem d_Mo_combine_172 : decode prog_7_method_24_code 172 = .ok (.getfield 38, 3) := by decide +kernel
theorem d_Mo_combine_175 : decode prog_7_method_24_code 175 = .ok (.iload_n 2, 1) := by decide +kernel
theorem d_Mo_combine_176 : decode prog_7_method_24_code 176 = .ok (.iconst 1, 1) := by decide +kernel
theorem d_Mo_combine_177 : decode prog_7_method_24_code 177 = .ok (.bastore, 1) := by decide +kernel
theorem d_Mo_combine_178 : decode prog_7_method_24_code 178 = .ok (.aload_n 0, 1) := by decide +kernel
theorem d_Mo_combine_179 : decode prog_7_method_24_code 179 = .ok (.getfield 45, 3) := by decide +kernel
theorem d_Mo_combine_182 : decode prog_7_method_24_code 182 = .ok (.iload_n 1, 1) := by decide +kernel
theorem d_Mo_combine_183 : decode prog_7_method_24_code 183 = .ok (.iaload, 1) := by decide +kernel
theorem d_Mo_combine_184 : decode prog_7_method_24_code 184 = .ok (.ireturn, 1) := by decide +kernel
theorem d_Mo_invoice_0 : decode prog_7_method_25_code 0 = .ok (.aload_n 0, 1) := by decide +kernel
theorem d_Mo_invoice_1 : decode prog_7_method_25_code 1 = .ok (.aload_n 0, 1) := by decide +kernel
theorem d_Mo_invoice_2 : decode prog_7_method_25_code 2 = .ok (.iload_n 1, 1) := by decide +kernel
theorem d_Mo_invoice_3 : decode prog_7_method_25_code 3 = .ok (.invokevirtual 133, 3) := by decide +kernel
theorem d_Mo_invoice_6 : decode prog_7_method_25_code 6 = .ok (.ifCond .eq 7, 3) := by decide +kernel
theorem d_Mo_invoice_9 : decode prog_7_method_25_code 9 = .ok (.iconst 1, 1) := by decide +kernel
theorem d_Mo_invoice_10 : decode prog_7_method_25_code 10 = .ok (.goto 40, 3) := by decide +kernel
theorem d_Mo_invoice_13 : decode prog_7_method_25_code 13 = .ok (.iload_n 2, 1) := by decide +kernel
theorem d_Mo_invoice_14 : decode prog_7_method_25_code 14 = .ok (.iconst 0, 1) := by decide +kernel
theorem d_Mo_invoice_15 : decode prog_7_method_25_code 15 = .ok (.ldc 140, 2) := by decide +kernel
theorem d_Mo_invoice_17 : decode prog_7_method_25_code 17 = .ok (.invokestatic 124, 3) := by decide +kernel
theorem d_Mo_invoice_20 : decode prog_7_method_25_code 20 = .ok (.ifCond .eq 7, 3) := by decide +kernel
theorem d_Mo_invoice_23 : decode prog_7_method_25_code 23 = .ok (.iconst 2, 1) := by decide +kernel
theorem d_Mo_invoice_24 : decode prog_7_method_25_code 24 = .ok (.goto 26, 3) := by decide +kernel
theorem d_Mo_invoice_27 : decode prog_7_method_25_code 27 = .ok (.aload_n 0, 1) := by decide +kernel
theorem d_Mo_invoice_28 : decode prog_7_method_25_code 28 = .ok (.getfield 51, 3) := by decide +kernel
theorem d_Mo_invoice_31 : decode prog_7_method_25_code 31 = .ok (.iload_n 1, 1) := by decide +kernel
theorem d_Mo_invoice_32 : decode prog_7_method_25_code 32 = .ok (.iaload, 1) := by decide +kernel
theorem d_Mo_invoice_33 : decode prog_7_method_25_code 33 = .ok (.ifCond .lt 12, 3) := by decide +kernel
theorem d_Mo_invoice_36 : decode prog_7_method_25_code 36 = .ok (.aload_n 0, 1) := by decide +kernel
theorem d_Mo_invoice_37 : decode prog_7_method_25_code 37 = .ok (.getfield 57, 3) := by decide +kernel
theorem d_Mo_invoice_40 : decode prog_7_method_25_code 40 = .ok (.iload_n 1, 1) := by decide +kernel
theorem d_Mo_invoice_41 : decode prog_7_method_25_code 41 = .ok (.iaload, 1) := by decide +kernel
theorem d_Mo_invoice_42 : decode prog_7_method_25_code 42 = .ok (.ifCond .lt 7, 3) := by decide +kernel
theorem d_Mo_invoice_45 : decode prog_7_method_25_code 45 = .ok (.iconst 3, 1) := by decide +kernel
theorem d_Mo_invoice_46 : decode prog_7_method_25_code 46 = .ok (.goto 4, 3) := by decide +kernel
theorem d_Mo_invoice_49 : decode prog_7_method_25_code 49 = .ok (.iconst 0, 1) := by decide +kernel
theorem d_Mo_invoice_50 : decode prog_7_method_25_code 50 = .ok (.putfield 7, 3) := by decide +kernel
theorem d_Mo_invoice_53 : decode prog_7_method_25_code 53 = .ok (.aload_n 0, 1) := by decide +kernel
theorem d_Mo_invoice_54 : decode prog_7_method_25_code 54 = .ok (.getfield 7, 3) := by decide +kernel
theorem d_Mo_invoice_57 : decode prog_7_method_25_code 57 = .ok (.ifCond .eq 5, 3) := by decide +kernel
theorem d_Mo_invoice_60 : decode prog_7_method_25_code 60 = .ok (.iconst 0, 1) := by decide +kernel
theorem d_Mo_invoice_61 : decode prog_7_method_25_code 61 = .ok (.ireturn, 1) := by decide +kernel
theorem d_Mo_invoice_62 : decode prog_7_method_25_code 62 = .ok (.aload_n 0, 1) := by decide +kernel
theorem d_Mo_invoice_63 : decode prog_7_method_25_code 63 = .ok (.getfield 57, 3) := by decide +kernel
theorem d_Mo_invoice_66 : decode prog_7_method_25_code 66 = .ok (.iload_n 1, 1) := by decide +kernel
theorem d_Mo_invoice_67 : decode prog_7_method_25_code 67 = .ok (.iload_n 2, 1) := by decide +kernel
theorem d_Mo_invoice_68 : decode prog_7_method_25_code 68 = .ok (.iastore, 1) := by decide +kernel
theorem d_Mo_invoice_69 : decode prog_7_method_25_code 69 = .ok (.iload_n 2, 1) := by decide +kernel
theorem d_Mo_invoice_70 : decode prog_7_method_25_code 70 = .ok (.aload_n 0, 1) := by decide +kernel
theorem d_Mo_invoice_71 : decode prog_7_method_25_code 71 = .ok (.getfield 54, 3) := by decide +kernel
theorem d_Mo_invoice_74 : decode prog_7_method_25_code 74 = .ok (.iload_n 1, 1) := by decide +kernel
theorem d_Mo_invoice_75 : decode prog_7_method_25_code 75 = .ok (.iaload, 1) := by decide +kernel
theorem d_Mo_invoice_76 : decode prog_7_method_25_code 76 = .ok (.isub, 1) := by decide +kernel
theorem d_Mo_invoice_77 : decode prog_7_method_25_code 77 = .ok (.ireturn, 1) := by decide +kernel
theorem d_Mo_refund_0 : decode prog_7_method_26_code 0 = .ok (.aload_n 0, 1) := by decide +kernel
theorem d_Mo_refund_1 : decode prog_7_method_26_code 1 = .ok (.aload_n 0, 1) := by decide +kernel
theorem d_Mo_refund_2 : decode prog_7_method_26_code 2 = .ok (.iload_n 1, 1) := by decide +kernel
theorem d_Mo_refund_3 : decode prog_7_method_26_code 3 = .ok (.invokevirtual 133, 3) := by decide +kernel
theorem d_Mo_refund_6 : decode prog_7_method_26_code 6 = .ok (.ifCond .eq 7, 3) := by decide +kernel
theorem d_Mo_refund_9 : decode prog_7_method_26_code 9 = .ok (.iconst 1, 1) := by decide +kernel
theorem d_Mo_refund_10 : decode prog_7_method_26_code 10 = .ok (.goto 32, 3) := by decide +kernel
theorem d_Mo_refund_13 : decode prog_7_method_26_code 13 = .ok (.iload_n 2, 1) := by decide +kernel
theorem d_Mo_refund_14 : decode prog_7_method_26_code 14 = .ok (.iconst 1, 1) := by decide +kernel
theorem d_Mo_refund_15 : decode prog_7_method_26_code 15 = .ok (.ldc 140, 2) := by decide +kernel
theorem d_Mo_refund_17 : decode prog_7_method_26_code 17 = .ok (.invokestatic 124, 3) := by decide +kernel
theorem d_Mo_refund_20 : decode prog_7_method_26_code 20 = .ok (.ifCond .eq 7, 3) := by decide +kernel
theorem d_Mo_refund_23 : decode prog_7_method_26_code 23 = .ok (.iconst 2, 1) := by decide +kernel
theorem d_Mo_refund_24 : decode prog_7_method_26_code 24 = .ok (.goto 18, 3) := by decide +kernel
theorem d_Mo_refund_27 : decode prog_7_method_26_code 27 = .ok (.aload_n 0, 1) := by decide +kernel
theorem d_Mo_refund_28 : decode prog_7_method_26_code 28 = .ok (.getfield 57, 3) := by decide +kernel
theorem d_Mo_refund_31 : decode prog_7_method_26_code 31 = .ok (.iload_n 1, 1) := by decide +kernel
theorem d_Mo_refund_32 : decode prog_7_method_26_code 32 = .ok (.iaload, 1) := by decide +kernel
theorem d_Mo_refund_33 : decode prog_7_method_26_code 33 = .ok (.iload_n 2, 1) := by decide +kernel
theorem d_Mo_refund_34 : decode prog_7_method_26_code 34 = .ok (.if_icmp .ge 7, 3) := by decide +kernel
theorem d_Mo_refund_37 : decode prog_7_method_26_code 37 = .ok (.iconst 3, 1) := by decide +kernel
theorem d_Mo_refund_38 : decode prog_7_method_26_code 38 = .ok (.goto 4, 3) := by decide +kernel
theorem d_Mo_refund_41 : decode prog_7_method_26_code 41 = .ok (.iconst 0, 1) := by decide +kernel
theorem d_Mo_refund_42 : decode prog_7_method_26_code 42 = .ok (.putfield 7, 3) := by decide +kernel
theorem d_Mo_refund_45 : decode prog_7_method_26_code 45 = .ok (.aload_n 0, 1) := by decide +kernel
theorem d_Mo_refund_46 : decode prog_7_method_26_code 46 = .ok (.getfield 7, 3) := by decide +kernel
theorem d_Mo_refund_49 : decode prog_7_method_26_code 49 = .ok (.ifCond .eq 5, 3) := by decide +kernel
theorem d_Mo_refund_52 : decode prog_7_method_26_code 52 = .ok (.iconst 0, 1) := by decide +kernel
theorem d_Mo_refund_53 : decode prog_7_method_26_code 53 = .ok (.ireturn, 1) := by decide +kernel
theorem d_Mo_refund_54 : decode prog_7_method_26_code 54 = .ok (.aload_n 0, 1) := by decide +kernel
theorem d_Mo_refund_55 : decode prog_7_method_26_code 55 = .ok (.getfield 57, 3) := by decide +kernel
theorem d_Mo_refund_58 : decode prog_7_method_26_code 58 = .ok (.iload_n 1, 1) := by decide +kernel
theorem d_Mo_refund_59 : decode prog_7_method_26_code 59 = .ok (.aload_n 0, 1) := by decide +kernel
theorem d_Mo_refund_60 : decode prog_7_method_26_code 60 = .ok (.getfield 57, 3) := by decide +kernel
theorem d_Mo_refund_63 : decode prog_7_method_26_code 63 = .ok (.iload_n 1, 1) := by decide +kernel
theorem d_Mo_refund_64 : decode prog_7_method_26_code 64 = .ok (.iaload, 1) := by decide +kernel
theorem d_Mo_refund_65 : decode prog_7_method_26_code 65 = .ok (.iload_n 2, 1) := by decide +kernel
theorem d_Mo_refund_66 : decode prog_7_method_26_code 66 = .ok (.isub, 1) := by decide +kernel
theorem d_Mo_refund_67 : decode prog_7_method_26_code 67 = .ok (.iastore, 1) := by decide +kernel
theorem d_Mo_refund_68 : decode prog_7_method_26_code 68 = .ok (.aload_n 0, 1) := by decide +kernel
theorem d_Mo_refund_69 : decode prog_7_method_26_code 69 = .ok (.getfield 57, 3) := by decide +kernel
theorem d_Mo_refund_72 : decode prog_7_method_26_code 72 = .ok (.iload_n 1, 1) := by decide +kernel
theorem d_Mo_refund_73 : decode prog_7_method_26_code 73 = .ok (.iaload, 1) := by decide +kernel
theorem d_Mo_refund_74 : decode prog_7_method_26_code 74 = .ok (.ireturn, 1) := by decide +kernel
theorem d_Mo_differ_0 : decode prog_7_method_27_code 0 = .ok (.aload_n 0, 1) := by decide +kernel
theorem d_Mo_differ_1 : decode prog_7_method_27_code 1 = .ok (.iload_n 1, 1) := by decide +kernel
theorem d_Mo_differ_2 : decode prog_7_method_27_code 2 = .ok (.ifCond .ge 7, 3) := by decide +kernel
theorem d_Mo_differ_5 : decode prog_7_method_27_code 5 = .ok (.iconst 1, 1) := by decide +kernel
theorem d_Mo_differ_6 : decode prog_7_method_27_code 6 = .ok (.goto 4, 3) := by decide +kernel
theorem d_Mo_differ_9 : decode prog_7_method_27_code 9 = .ok (.iconst 0, 1) := by decide +kernel
theorem d_Mo_differ_10 : decode prog_7_method_27_code 10 = .ok (.putfield 7, 3) := by decide +kernel
theorem d_Mo_differ_13 : decode prog_7_method_27_code 13 = .ok (.aload_n 0, 1) := by decide +kernel
theorem d_Mo_differ_14 : decode prog_7_method_27_code 14 = .ok (.getfield 7, 3) := by decide +kernel
theorem d_Mo_differ_17 : decode prog_7_method_27_code 17 = .ok (.ifCond .eq 5, 3) := by decide +kernel
theorem d_Mo_differ_20 : decode prog_7_method_27_code 20 = .ok (.iconst 0, 1) := by decide +kernel
theorem d_Mo_differ_21 : decode prog_7_method_27_code 21 = .ok (.ireturn, 1) := by decide +kernel
theorem d_Mo_differ_22 : decode prog_7_method_27_code 22 = .ok (.iconst 0, 1) := by decide +kernel
theorem d_Mo_differ_23 : decode prog_7_method_27_code 23 = .ok (.istore_n 2, 1) := by decide +kernel
theorem d_Mo_differ_24 : decode prog_7_method_27_code 24 = .ok (.iconst 0, 1) := by decide +kernel
theorem d_Mo_differ_25 : decode prog_7_method_27_code 25 = .ok (.istore_n 3, 1) := by decide +kernel
theorem d_Mo_differ_26 : decode prog_7_method_27_code 26 = .ok (.iload_n 3, 1) := by decide +kernel
theorem d_Mo_differ_27 : decode prog_7_method_27_code 27 = .ok (.aload_n 0, 1) := by decide +kernel
theorem d_Mo_differ_28 : decode prog_7_method_27_code 28 = .ok (.getfield 35, 3) := by decide +kernel
theorem d_Mo_differ_31 : decode prog_7_method_27_code 31 = .ok (.if_icmp .ge 52, 3) := by decide +kernel
theorem d_Mo_differ_34 : decode prog_7_method_27_code 34 = .ok (.aload_n 0, 1) := by decide +kernel
theorem d_Mo_differ_35 : decode prog_7_method_27_code 35 = .ok (.getfield 38, 3) := by decide +kernel
theorem d_Mo_differ_38 : decode prog_7_method_27_code 38 = .ok (.iload_n 3, 1) := by decide +kernel
theorem d_Mo_differ_39 : decode prog_7_method_27_code 39 = .ok (.baload, 1) := by decide +kernel
theorem d_Mo_differ_40 : decode prog_7_method_27_code 40 = .ok (.ifCond .ne 37, 3) := by decide +kernel
theorem d_Mo_differ_43 : decode prog_7_method_27_code 43 = .ok (.aload_n 0, 1) := by decide +kernel
theorem d_Mo_differ_44 : decode prog_7_method_27_code 44 = .ok (.getfield 57, 3) := by decide +kernel
theorem d_Mo_differ_47 : decode prog_7_method_27_code 47 = .ok (.iload_n 3, 1) := by decide +kernel
theorem d_Mo_differ_48 : decode prog_7_method_27_code 48 = .ok (.iaload, 1) := by decide +kernel
theorem d_Mo_differ_49 : decode prog_7_method_27_code 49 = .ok (.ifCond .lt 28, 3) := by decide +kernel
theorem d_Mo_differ_52 : decode prog_7_method_27_code 52 = .ok (.aload_n 0, 1) := by decide +kernel
theorem d_Mo_differ_53 : decode prog_7_method_27_code 53 = .ok (.getfield 57, 3) := by decide +kernel
theorem d_Mo_differ_56 : decode prog_7_method_27_code 56 = .ok (.iload_n 3, 1) := by decide +kernel
theorem d_Mo_differ_57 : decode prog_7_method_27_code 57 = .ok (.iaload, 1) := by decide +kernel
theorem d_Mo_differ_58 : decode prog_7_method_27_code 58 = .ok (.aload_n 0, 1) := by decide +kernel
theorem d_Mo_differ_59 : decode prog_7_method_27_code 59 = .ok (.getfield 54, 3) := by decide +kernel
theorem d_Mo_differ_62 : decode prog_7_method_27_code 62 = .ok (.iload_n 3, 1) := by decide +kernel
theorem d_Mo_differ_63 : decode prog_7_method_27_code 63 = .ok (.iaload, 1) := by decide +kernel
theorem d_Mo_differ_64 : decode prog_7_method_27_code 64 = .ok (.if_icmp .eq 13, 3) := by decide +kernel
theorem d_Mo_differ_67 : decode prog_7_method_27_code 67 = .ok (.iload_n 2, 1) := by decide +kernel
theorem d_Mo_differ_68 : decode prog_7_method_27_code 68 = .ok (.iload_n 1, 1) := by decide +kernel
theorem d_Mo_differ_69 : decode prog_7_method_27_code 69 = .ok (.if_icmp .ne 5, 3) := by decide +kernel
theorem d_Mo_differ_72 : decode prog_7_method_27_code 72 = .ok (.iload_n 3, 1) := by decide +kernel
theorem d_Mo_differ_73 : decode prog_7_method_27_code 73 = .ok (.ireturn, 1) := by decide +kernel
theorem d_Mo_differ_74 : decode prog_7_method_27_code 74 = .ok (.iinc 2 1, 3) := by decide +kernel
theorem d_Mo_differ_77 : decode prog_7_method_27_code 77 = .ok (.iinc 3 1, 3) := by decide +kernel
theorem d_Mo_differ_80 : decode prog_7_method_27_code 80 = .ok (.goto (-54), 3) := by decide +kernel
theorem d_Mo_differ_83 : decode prog_7_method_27_code 83 = .ok (.iconst (-1), 1) := by decide +kernel
theorem d_Mo_differ_84 : decode prog_7_method_27_code 84 = .ok (.ireturn, 1) := by decide +kernel
theorem d_Mo_currency_0 : decode prog_7_method_28_code 0 = .ok (.aload_n 0, 1) := by decide +kernel
theorem d_Mo_currency_1 : decode prog_7_method_28_code 1 = .ok (.iload_n 1, 1) := by decide +kernel
theorem d_Mo_currency_2 : decode prog_7_method_28_code 2 = .ok (.iconst 0, 1) := by decide +kernel
theorem d_Mo_currency_3 : decode prog_7_method_28_code 3 = .ok (.sipush 10000, 3) := by decide +kernel
theorem d_Mo_currency_6 : decode prog_7_method_28_code 6 = .ok (.invokestatic 124, 3) := by decide +kernel
theorem d_Mo_currency_9 : decode prog_7_method_28_code 9 = .ok (.ifCond .ne 23, 3) := by decide +kernel
theorem d_Mo_currency_12 : decode prog_7_method_28_code 12 = .ok (.iload_n 2, 1) := by decide +kernel
theorem d_Mo_currency_13 : decode prog_7_method_28_code 13 = .ok (.iconst 1, 1) := by decide +kernel
theorem d_Mo_currency_14 : decode prog_7_method_28_code 14 = .ok (.ldc 100, 2) := by decide +kernel
theorem d_Mo_currency_16 : decode prog_7_method_28_code 16 = .ok (.invokestatic 124, 3) := by decide +kernel
theorem d_Mo_currency_19 : decode prog_7_method_28_code 19 = .ok (.ifCond .ne 13, 3) := by decide +kernel
theorem d_Mo_currency_22 : decode prog_7_method_28_code 22 = .ok (.iload_n 3, 1) := by decide +kernel
theorem d_Mo_currency_23 : decode prog_7_method_28_code 23 = .ok (.iconst 1, 1) := by decide +kernel
theorem d_Mo_currency_24 : decode prog_7_method_28_code 24 = .ok (.ldc 100, 2) := by decide +kernel
theorem d_Mo_currency_26 : decode prog_7_method_28_code 26 = .ok (.invokestatic 124, 3) := by decide +kernel
theorem d_Mo_currency_29 : decode prog_7_method_28_code 29 = .ok (.ifCond .eq 7, 3) := by decide +kernel
theorem d_Mo_currency_32 : decode prog_7_method_28_code 32 = .ok (.iconst 1, 1) := by decide +kernel
theorem d_Mo_currency_33 : decode prog_7_method_28_code 33 = .ok (.goto 4, 3) := by decide +kernel
theorem d_Mo_currency_36 : decode prog_7_method_28_code 36 = .ok (.iconst 0, 1) := by decide +kernel
theorem d_Mo_currency_37 : decode prog_7_method_28_code 37 = .ok (.putfield 7, 3) := by decide +kernel
theorem d_Mo_currency_40 : decode prog_7_method_28_code 40 = .ok (.aload_n 0, 1) := by decide +kernel
theorem d_Mo_currency_41 : decode prog_7_method_28_code 41 = .ok (.getfield 7, 3) := by decide +kernel
theorem d_Mo_currency_44 : decode prog_7_method_28_code 44 = .ok (.ifCond .eq 5, 3) := by decide +kernel
theorem d_Mo_currency_47 : decode prog_7_method_28_code 47 = .ok (.iconst 0, 1) := by decide +kernel
theorem d_Mo_currency_48 : decode prog_7_method_28_code 48 = .ok (.ireturn, 1) := by decide +kernel
theorem d_Mo_currency_49 : decode prog_7_method_28_code 49 = .ok (.iconst 0, 1) := by decide +kernel
theorem d_Mo_currency_50 : decode prog_7_method_28_code 50 = .ok (.istore 4, 2) := by decide +kernel
theorem d_Mo_currency_52 : decode prog_7_method_28_code 52 = .ok (.iload 4, 2) := by decide +kernel
theorem d_Mo_currency_54 : decode prog_7_method_28_code 54 = .ok (.aload_n 0, 1) := by decide +kernel
theorem d_Mo_currency_55 : decode prog_7_method_28_code 55 = .ok (.getfield 72, 3) := by decide +kernel
theorem d_Mo_currency_58 : decode prog_7_method_28_code 58 = .ok (.if_icmp .ge 20, 3) := by decide +kernel
theorem d_Mo_currency_61 : decode prog_7_method_28_code 61 = .ok (.aload_n 0, 1) := by decide +kernel
theorem d_Mo_currency_62 : decode prog_7_method_28_code 62 = .ok (.getfield 75, 3) := by decide +kernel
theorem d_Mo_currency_65 : decode prog_7_method_28_code 65 = .ok (.iload 4, 2) := by decide +kernel
theorem d_Mo_currency_67 : decode prog_7_method_28_code 67 = .ok (.iaload, 1) := by decide +kernel
theorem d_Mo_currency_68 : decode prog_7_method_28_code 68 = .ok (.iload_n 1, 1) := by decide +kernel
theorem d_Mo_currency_69 : decode prog_7_method_28_code 69 = .ok (.if_icmp .eq 9, 3) := by decide +kernel
theorem d_Mo_currency_72 : decode prog_7_method_28_code 72 = .ok (.iinc 4 1, 3) := by decide +kernel
theorem d_Mo_currency_75 : decode prog_7_method_28_code 75 = .ok (.goto (-23), 3) := by decide +kernel
theorem d_Mo_currency_78 : decode prog_7_method_28_code 78 = .ok (.aload_n 0, 1) := by decide +kernel
theorem d_Mo_currency_79 : decode prog_7_method_28_code 79 = .ok (.iload 4, 2) := by decide +kernel
theorem d_Mo_currency_81 : decode prog_7_method_28_code 81 = .ok (.bipush 8, 2) := by decide +kernel
theorem d_Mo_currency_83 : decode prog_7_method_28_code 83 = .ok (.if_icmp .ne 7, 3) := by decide +kernel
theorem d_Mo_currency_86 : decode prog_7_method_28_code 86 = .ok (.iconst 2, 1) := by decide +kernel
theorem d_Mo_currency_87 : decode prog_7_method_28_code 87 = .ok (.goto 4, 3) := by decide +kernel
theorem d_Mo_currency_90 : decode prog_7_method_28_code 90 = .ok (.iconst 0, 1) := by decide +kernel
theorem d_Mo_currency_91 : decode prog_7_method_28_code 91 = .ok (.putfield 7, 3) := by decide +kernel
theorem d_Mo_currency_94 : decode prog_7_method_28_code 94 = .ok (.aload_n 0, 1) := by decide +kernel
theorem d_Mo_currency_95 : decode prog_7_method_28_code 95 = .ok (.getfield 7, 3) := by decide +kernel
theorem d_Mo_currency_98 : decode prog_7_method_28_code 98 = .ok (.ifCond .eq 5, 3) := by decide +kernel
theorem d_Mo_currency_101 : decode prog_7_method_28_code 101 = .ok (.iconst 0, 1) := by decide +kernel
theorem d_Mo_currency_102 : decode prog_7_method_28_code 102 = .ok (.ireturn, 1) := by decide +kernel
theorem d_Mo_currency_103 : decode prog_7_method_28_code 103 = .ok (.iload 4, 2) := by decide +kernel
theorem d_Mo_currency_105 : decode prog_7_method_28_code 105 = .ok (.aload_n 0, 1) := by decide +kernel
theorem d_Mo_currency_106 : decode prog_7_method_28_code 106 = .ok (.getfield 72, 3) := by decide +kernel
theorem d_Mo_currency_109 : decode prog_7_method_28_code 109 = .ok (.if_icmp .ne 13, 3) := by decide +kernel
theorem d_Mo_currency_112 : decode prog_7_method_28_code 112 = .ok (.aload_n 0, 1) := by decide +kernel
theorem d_Mo_currency_113 : decode prog_7_method_28_code 113 = .ok (.dup, 1) := by decide +kernel
theorem d_Mo_currency_114 : decode prog_7_method_28_code 114 = .ok (.getfield 72, 3) := by decide +kernel
theorem d_Mo_currency_117 : decode prog_7_method_28_code 117 = .ok (.iconst 1, 1) := by decide +kernel
theorem d_Mo_currency_118 : decode prog_7_method_28_code 118 = .ok (.iadd, 1) := by decide +kernel
theorem d_Mo_currency_119 : decode prog_7_method_28_code 119 = .ok (.putfield 72, 3) := by decide +kernel
theorem d_Mo_currency_122 : decode prog_7_method_28_code 122 = .ok (.aload_n 0, 1) := by decide +kernel
theorem d_Mo_currency_123 : decode prog_7_method_28_code 123 = .ok (.getfield 75, 3) := by decide +kernel
theorem d_Mo_currency_126 : decode prog_7_method_28_code 126 = .ok (.iload 4, 2) := by decide +kernel
theorem d_Mo_currency_128 : decode prog_7_method_28_code 128 = .ok (.iload_n 1, 1) := by decide +kernel
theorem d_Mo_currency_129 : decode prog_7_method_28_code 129 = .ok (.iastore, 1) := by decide +kernel
theorem d_Mo_currency_130 : decode prog_7_method_28_code 130 = .ok (.aload_n 0, 1) := by decide +kernel
theorem d_Mo_currency_131 : decode prog_7_method_28_code 131 = .ok (.getfield 78, 3) := by decide +kernel
theorem d_Mo_currency_134 : decode prog_7_method_28_code 134 = .ok (.iload 4, 2) := by decide +kernel
theorem d_Mo_currency_136 : decode prog_7_method_28_code 136 = .ok (.iload_n 2, 1) := by decide +kernel
theorem d_Mo_currency_137 : decode prog_7_method_28_code 137 = .ok (.iastore, 1) := by decide +kernel
theorem d_Mo_currency_138 : decode prog_7_method_28_code 138 = .ok (.aload_n 0, 1) := by decide +kernel
theorem d_Mo_currency_139 : decode prog_7_method_28_code 139 = .ok (.getfield 81, 3) := by decide +kernel
theorem d_Mo_currency_142 : decode prog_7_method_28_code 142 = .ok (.iload 4, 2) := by decide +kernel
theorem d_Mo_currency_144 : decode prog_7_method_28_code 144 = .ok (.iload_n 3, 1) := by decide +kernel
theorem d_Mo_currency_145 : decode prog_7_method_28_code 145 = .ok (.iastore, 1) := by decide +kernel
theorem d_Mo_currency_146 : decode prog_7_method_28_code 146 = .ok (.aload_n 0, 1) := by decide +kernel
theorem d_Mo_currency_147 : decode prog_7_method_28_code 147 = .ok (.getfield 72, 3) := by decide +kernel
theorem d_Mo_currency_150 : decode prog_7_method_28_code 150 = .ok (.ireturn, 1) := by decide +kernel
theorem d_Mo_converted_0 : decode prog_7_method_29_code 0 = .ok (.aload_n 0, 1) := by decide +kernel
theorem d_Mo_converted_1 : decode prog_7_method_29_code 1 = .ok (.iload_n 1, 1) := by decide +kernel
theorem d_Mo_converted_2 : decode prog_7_method_29_code 2 = .ok (.iconst 0, 1) := by decide +kernel
theorem d_Mo_converted_3 : decode prog_7_method_29_code 3 = .ok (.ldc 140, 2) := by decide +kernel
theorem d_Mo_converted_5 : decode prog_7_method_29_code 5 = .ok (.invokestatic 124, 3) := by decide +kernel
theorem d_Mo_converted_8 : decode prog_7_method_29_code 8 = .ok (.ifCond .ne 14, 3) := by decide +kernel
theorem d_Mo_converted_11 : decode prog_7_method_29_code 11 = .ok (.iload_n 2, 1) := by decide +kernel
theorem d_Mo_converted_12 : decode prog_7_method_29_code 12 = .ok (.iconst 0, 1) := by decide +kernel
theorem d_Mo_converted_13 : decode prog_7_method_29_code 13 = .ok (.sipush 10000, 3) := by decide +kernel
theorem d_Mo_converted_16 : decode prog_7_method_29_code 16 = .ok (.invokestatic 124, 3) := by decide +kernel
theorem d_Mo_converted_19 : decode prog_7_method_29_code 19 = .ok (.ifCond .eq 7, 3) := by decide +kernel
theorem d_Mo_converted_22 : decode prog_7_method_29_code 22 = .ok (.iconst 1, 1) := by decide +kernel
theorem d_Mo_converted_23 : decode prog_7_method_29_code 23 = .ok (.goto 4, 3) := by decide +kernel
theorem d_Mo_converted_26 : decode prog_7_method_29_code 26 = .ok (.iconst 0, 1) := by decide +kernel
theorem d_Mo_converted_27 : decode prog_7_method_29_code 27 = .ok (.putfield 7, 3) := by decide +kernel
theorem d_Mo_converted_30 : decode prog_7_method_29_code 30 = .ok (.aload_n 0, 1) := by decide +kernel
theorem d_Mo_converted_31 : decode prog_7_method_29_code 31 = .ok (.getfield 7, 3) := by decide +kernel
theorem d_Mo_converted_34 : decode prog_7_method_29_code 34 = .ok (.ifCond .eq 5, 3) := by decide +kernel
theorem d_Mo_converted_37 : decode prog_7_method_29_code 37 = .ok (.lconst 0, 1) := by decide +kernel
theorem d_Mo_converted_38 : decode prog_7_method_29_code 38 = .ok (.lreturn, 1) := by decide +kernel
theorem d_Mo_converted_39 : decode prog_7_method_29_code 39 = .ok (.iconst (-1), 1) := by decide +kernel
theorem d_Mo_converted_40 : decode prog_7_method_29_code 40 = .ok (.istore_n 3, 1) := by decide +kernel
theorem d_Mo_converted_41 : decode prog_7_method_29_code 41 = .ok (.iconst 0, 1) := by decide +kernel
theorem d_Mo_converted_42 : decode prog_7_method_29_code 42 = .ok (.istore 4, 2) := by decide +kernel
theorem d_Mo_converted_44 : decode prog_7_method_29_code 44 = .ok (.iload 4, 2) := by decide +kernel
theorem d_Mo_converted_46 : decode prog_7_method_29_code 46 = .ok (.aload_n 0, 1) := by decide +kernel
theorem d_Mo_converted_47 : decode prog_7_method_29_code 47 = .ok (.getfield 72, 3) := by decide +kernel
theorem d_Mo_converted_50 : decode prog_7_method_29_code 50 = .ok (.if_icmp .ge 43, 3) := by decide +kernel
theorem d_Mo_converted_53 : decode prog_7_method_29_code 53 = .ok (.aload_n 0, 1) := by decide +kernel
theorem d_Mo_converted_54 : decode prog_7_method_29_code 54 = .ok (.getfield 75, 3) := by decide +kernel
theorem d_Mo_converted_57 : decode prog_7_method_29_code 57 = .ok (.iload 4, 2) := by decide +kernel
theorem d_Mo_converted_59 : decode prog_7_method_29_code 59 = .ok (.iaload, 1) := by decide +kernel
theorem d_Mo_converted_60 : decode prog_7_method_29_code 60 = .ok (.iload_n 2, 1) := by decide +kernel
theorem d_Mo_converted_61 : decode prog_7_method_29_code 61 = .ok (.if_icmp .gt 26, 3) := by decide +kernel
theorem d_Mo_converted_64 : decode prog_7_method_29_code 64 = .ok (.iload_n 3, 1) := by decide +kernel
theorem d_Mo_converted_65 : decode prog_7_method_29_code 65 = .ok (.ifCond .lt 19, 3) := by decide +kernel
theorem d_Mo_converted_68 : decode prog_7_method_29_code 68 = .ok (.aload_n 0, 1) := by decide +kernel
theorem d_Mo_converted_69 : decode prog_7_method_29_code 69 = .ok (.getfield 75, 3) := by decide +kernel
theorem d_Mo_converted_72 : decode prog_7_method_29_code 72 = .ok (.iload 4, 2) := by decide +kernel
theorem d_Mo_converted_74 : decode prog_7_method_29_code 74 = .ok (.iaload, 1) := by decide +kernel
