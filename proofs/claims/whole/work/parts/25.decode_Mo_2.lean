theorem d_Mo_priceOf_192 : decode prog_7_method_12_code 192 = .ok (.if_icmp .ge 14, 3) := by decide +kernel
theorem d_Mo_priceOf_195 : decode prog_7_method_12_code 195 = .ok (.aload_n 0, 1) := by decide +kernel
theorem d_Mo_priceOf_196 : decode prog_7_method_12_code 196 = .ok (.getfield 23, 3) := by decide +kernel
theorem d_Mo_priceOf_199 : decode prog_7_method_12_code 199 = .ok (.iload 5, 2) := by decide +kernel
theorem d_Mo_priceOf_201 : decode prog_7_method_12_code 201 = .ok (.iconst 2, 1) := by decide +kernel
theorem d_Mo_priceOf_202 : decode prog_7_method_12_code 202 = .ok (.iadd, 1) := by decide +kernel
theorem d_Mo_priceOf_203 : decode prog_7_method_12_code 203 = .ok (.iaload, 1) := by decide +kernel
theorem d_Mo_priceOf_204 : decode prog_7_method_12_code 204 = .ok (.istore 4, 2) := by decide +kernel
theorem d_Mo_priceOf_206 : decode prog_7_method_12_code 206 = .ok (.iconst (-1), 1) := by decide +kernel
theorem d_Mo_priceOf_207 : decode prog_7_method_12_code 207 = .ok (.istore 6, 2) := by decide +kernel
theorem d_Mo_priceOf_209 : decode prog_7_method_12_code 209 = .ok (.aload_n 0, 1) := by decide +kernel
theorem d_Mo_priceOf_210 : decode prog_7_method_12_code 210 = .ok (.iload_n 2, 1) := by decide +kernel
theorem d_Mo_priceOf_211 : decode prog_7_method_12_code 211 = .ok (.invokevirtual 120, 3) := by decide +kernel
theorem d_Mo_priceOf_214 : decode prog_7_method_12_code 214 = .ok (.istore 7, 2) := by decide +kernel
theorem d_Mo_priceOf_216 : decode prog_7_method_12_code 216 = .ok (.iconst 4, 1) := by decide +kernel
theorem d_Mo_priceOf_217 : decode prog_7_method_12_code 217 = .ok (.iload_n 2, 1) := by decide +kernel
theorem d_Mo_priceOf_218 : decode prog_7_method_12_code 218 = .ok (.imul, 1) := by decide +kernel
theorem d_Mo_priceOf_219 : decode prog_7_method_12_code 219 = .ok (.istore 8, 2) := by decide +kernel
theorem d_Mo_priceOf_221 : decode prog_7_method_12_code 221 = .ok (.iload 8, 2) := by decide +kernel
theorem d_Mo_priceOf_223 : decode prog_7_method_12_code 223 = .ok (.iconst 4, 1) := by decide +kernel
theorem d_Mo_priceOf_224 : decode prog_7_method_12_code 224 = .ok (.iload_n 2, 1) := by decide +kernel
theorem d_Mo_priceOf_225 : decode prog_7_method_12_code 225 = .ok (.imul, 1) := by decide +kernel
theorem d_Mo_priceOf_226 : decode prog_7_method_12_code 226 = .ok (.aload_n 0, 1) := by decide +kernel
theorem d_Mo_priceOf_227 : decode prog_7_method_12_code 227 = .ok (.getfield 60, 3) := by decide +kernel
theorem d_Mo_priceOf_230 : decode prog_7_method_12_code 230 = .ok (.iload_n 2, 1) := by decide +kernel
theorem d_Mo_priceOf_231 : decode prog_7_method_12_code 231 = .ok (.iaload, 1) := by decide +kernel
theorem d_Mo_priceOf_232 : decode prog_7_method_12_code 232 = .ok (.iadd, 1) := by decide +kernel
theorem d_Mo_priceOf_233 : decode prog_7_method_12_code 233 = .ok (.if_icmp .ge 47, 3) := by decide +kernel
theorem d_Mo_priceOf_236 : decode prog_7_method_12_code 236 = .ok (.aload_n 0, 1) := by decide +kernel
theorem d_Mo_priceOf_237 : decode prog_7_method_12_code 237 = .ok (.getfield 63, 3) := by decide +kernel
theorem d_Mo_priceOf_240 : decode prog_7_method_12_code 240 = .ok (.iload 8, 2) := by decide +kernel
theorem d_Mo_priceOf_242 : decode prog_7_method_12_code 242 = .ok (.iaload, 1) := by decide +kernel
theorem d_Mo_priceOf_243 : decode prog_7_method_12_code 243 = .ok (.iload 7, 2) := by decide +kernel
theorem d_Mo_priceOf_245 : decode prog_7_method_12_code 245 = .ok (.if_icmp .gt 29, 3) := by decide +kernel
theorem d_Mo_priceOf_248 : decode prog_7_method_12_code 248 = .ok (.iload 6, 2) := by decide +kernel
theorem d_Mo_priceOf_250 : decode prog_7_method_12_code 250 = .ok (.ifCond .lt 20, 3) := by decide +kernel
theorem d_Mo_priceOf_253 : decode prog_7_method_12_code 253 = .ok (.aload_n 0, 1) := by decide +kernel
theorem d_Mo_priceOf_254 : decode prog_7_method_12_code 254 = .ok (.getfield 63, 3) := by decide +kernel
theorem d_Mo_priceOf_257 : decode prog_7_method_12_code 257 = .ok (.iload 8, 2) := by decide +kernel
theorem d_Mo_priceOf_259 : decode prog_7_method_12_code 259 = .ok (.iaload, 1) := by decide +kernel
theorem d_Mo_priceOf_260 : decode prog_7_method_12_code 260 = .ok (.aload_n 0, 1) := by decide +kernel
theorem d_Mo_priceOf_261 : decode prog_7_method_12_code 261 = .ok (.getfield 63, 3) := by decide +kernel
theorem d_Mo_priceOf_264 : decode prog_7_method_12_code 264 = .ok (.iload 6, 2) := by decide +kernel
theorem d_Mo_priceOf_266 : decode prog_7_method_12_code 266 = .ok (.iaload, 1) := by decide +kernel
theorem d_Mo_priceOf_267 : decode prog_7_method_12_code 267 = .ok (.if_icmp .le 7, 3) := by decide +kernel
theorem d_Mo_priceOf_270 : decode prog_7_method_12_code 270 = .ok (.iload 8, 2) := by decide +kernel
theorem d_Mo_priceOf_272 : decode prog_7_method_12_code 272 = .ok (.istore 6, 2) := by decide +kernel
theorem d_Mo_priceOf_274 : decode prog_7_method_12_code 274 = .ok (.iinc 8 1, 3) := by decide +kernel
theorem d_Mo_priceOf_277 : decode prog_7_method_12_code 277 = .ok (.goto (-56), 3) := by decide +kernel
theorem d_Mo_priceOf_280 : decode prog_7_method_12_code 280 = .ok (.iload 6, 2) := by decide +kernel
theorem d_Mo_priceOf_282 : decode prog_7_method_12_code 282 = .ok (.ifCond .ge 8, 3) := by decide +kernel
theorem d_Mo_priceOf_285 : decode prog_7_method_12_code 285 = .ok (.iload 4, 2) := by decide +kernel
theorem d_Mo_priceOf_287 : decode prog_7_method_12_code 287 = .ok (.goto 23, 3) := by decide +kernel
theorem d_Mo_priceOf_290 : decode prog_7_method_12_code 290 = .ok (.iload 4, 2) := by decide +kernel
theorem d_Mo_priceOf_292 : decode prog_7_method_12_code 292 = .ok (.i2l, 1) := by decide +kernel
theorem d_Mo_priceOf_293 : decode prog_7_method_12_code 293 = .ok (.aload_n 0, 1) := by decide +kernel
theorem d_Mo_priceOf_294 : decode prog_7_method_12_code 294 = .ok (.getfield 66, 3) := by decide +kernel
theorem d_Mo_priceOf_297 : decode prog_7_method_12_code 297 = .ok (.iload 6, 2) := by decide +kernel
theorem d_Mo_priceOf_299 : decode prog_7_method_12_code 299 = .ok (.iaload, 1) := by decide +kernel
theorem d_Mo_priceOf_300 : decode prog_7_method_12_code 300 = .ok (.aload_n 0, 1) := by decide +kernel
theorem d_Mo_priceOf_301 : decode prog_7_method_12_code 301 = .ok (.getfield 69, 3) := by decide +kernel
theorem d_Mo_priceOf_304 : decode prog_7_method_12_code 304 = .ok (.iload 6, 2) := by decide +kernel
theorem d_Mo_priceOf_306 : decode prog_7_method_12_code 306 = .ok (.iaload, 1) := by decide +kernel
theorem d_Mo_priceOf_307 : decode prog_7_method_12_code 307 = .ok (.invokestatic 116, 3) := by decide +kernel
theorem d_Mo_priceOf_310 : decode prog_7_method_12_code 310 = .ok (.ireturn, 1) := by decide +kernel
theorem d_Mo_part_0 : decode prog_7_method_9_code 0 = .ok (.lload_n 0, 1) := by decide +kernel
theorem d_Mo_part_1 : decode prog_7_method_9_code 1 = .ok (.iload_n 2, 1) := by decide +kernel
theorem d_Mo_part_2 : decode prog_7_method_9_code 2 = .ok (.i2l, 1) := by decide +kernel
theorem d_Mo_part_3 : decode prog_7_method_9_code 3 = .ok (.lmul, 1) := by decide +kernel
theorem d_Mo_part_4 : decode prog_7_method_9_code 4 = .ok (.iload_n 3, 1) := by decide +kernel
theorem d_Mo_part_5 : decode prog_7_method_9_code 5 = .ok (.i2l, 1) := by decide +kernel
theorem d_Mo_part_6 : decode prog_7_method_9_code 6 = .ok (.ladd, 1) := by decide +kernel
theorem d_Mo_part_7 : decode prog_7_method_9_code 7 = .ok (.lconst 1, 1) := by decide +kernel
theorem d_Mo_part_8 : decode prog_7_method_9_code 8 = .ok (.lsub, 1) := by decide +kernel
theorem d_Mo_part_9 : decode prog_7_method_9_code 9 = .ok (.iload_n 3, 1) := by decide +kernel
theorem d_Mo_part_10 : decode prog_7_method_9_code 10 = .ok (.i2l, 1) := by decide +kernel
theorem d_Mo_part_11 : decode prog_7_method_9_code 11 = .ok (.ldiv, 1) := by decide +kernel
theorem d_Mo_part_12 : decode prog_7_method_9_code 12 = .ok (.l2i, 1) := by decide +kernel
theorem d_Mo_part_13 : decode prog_7_method_9_code 13 = .ok (.ireturn, 1) := by decide +kernel
theorem d_Mo_booked_0 : decode prog_7_method_11_code 0 = .ok (.iconst 0, 1) := by decide +kernel
theorem d_Mo_booked_1 : decode prog_7_method_11_code 1 = .ok (.istore_n 2, 1) := by decide +kernel
theorem d_Mo_booked_2 : decode prog_7_method_11_code 2 = .ok (.iconst 0, 1) := by decide +kernel
theorem d_Mo_booked_3 : decode prog_7_method_11_code 3 = .ok (.istore_n 3, 1) := by decide +kernel
theorem d_Mo_booked_4 : decode prog_7_method_11_code 4 = .ok (.iload_n 3, 1) := by decide +kernel
theorem d_Mo_booked_5 : decode prog_7_method_11_code 5 = .ok (.aload_n 0, 1) := by decide +kernel
theorem d_Mo_booked_6 : decode prog_7_method_11_code 6 = .ok (.getfield 35, 3) := by decide +kernel
theorem d_Mo_booked_9 : decode prog_7_method_11_code 9 = .ok (.if_icmp .ge 36, 3) := by decide +kernel
theorem d_Mo_booked_12 : decode prog_7_method_11_code 12 = .ok (.iload_n 2, 1) := by decide +kernel
theorem d_Mo_booked_13 : decode prog_7_method_11_code 13 = .ok (.aload_n 0, 1) := by decide +kernel
theorem d_Mo_booked_14 : decode prog_7_method_11_code 14 = .ok (.getfield 38, 3) := by decide +kernel
theorem d_Mo_booked_17 : decode prog_7_method_11_code 17 = .ok (.iload_n 3, 1) := by decide +kernel
theorem d_Mo_booked_18 : decode prog_7_method_11_code 18 = .ok (.baload, 1) := by decide +kernel
theorem d_Mo_booked_19 : decode prog_7_method_11_code 19 = .ok (.ifCond .ne 17, 3) := by decide +kernel
theorem d_Mo_booked_22 : decode prog_7_method_11_code 22 = .ok (.aload_n 0, 1) := by decide +kernel
theorem d_Mo_booked_23 : decode prog_7_method_11_code 23 = .ok (.getfield 51, 3) := by decide +kernel
theorem d_Mo_booked_26 : decode prog_7_method_11_code 26 = .ok (.iload_n 3, 1) := by decide +kernel
theorem d_Mo_booked_27 : decode prog_7_method_11_code 27 = .ok (.iaload, 1) := by decide +kernel
theorem d_Mo_booked_28 : decode prog_7_method_11_code 28 = .ok (.iload_n 1, 1) := by decide +kernel
theorem d_Mo_booked_29 : decode prog_7_method_11_code 29 = .ok (.if_icmp .ne 7, 3) := by decide +kernel
theorem d_Mo_booked_32 : decode prog_7_method_11_code 32 = .ok (.iconst 1, 1) := by decide +kernel
theorem d_Mo_booked_33 : decode prog_7_method_11_code 33 = .ok (.goto 4, 3) := by decide +kernel
theorem d_Mo_booked_36 : decode prog_7_method_11_code 36 = .ok (.iconst 0, 1) := by decide +kernel
theorem d_Mo_booked_37 : decode prog_7_method_11_code 37 = .ok (.iadd, 1) := by decide +kernel
theorem d_Mo_booked_38 : decode prog_7_method_11_code 38 = .ok (.istore_n 2, 1) := by decide +kernel
theorem d_Mo_booked_39 : decode prog_7_method_11_code 39 = .ok (.iinc 3 1, 3) := by decide +kernel
theorem d_Mo_booked_42 : decode prog_7_method_11_code 42 = .ok (.goto (-38), 3) := by decide +kernel
theorem d_Mo_booked_45 : decode prog_7_method_11_code 45 = .ok (.iload_n 2, 1) := by decide +kernel
theorem d_Mo_booked_46 : decode prog_7_method_11_code 46 = .ok (.ireturn, 1) := by decide +kernel
theorem d_Mo_cheapest_0 : decode prog_7_method_20_code 0 = .ok (.aload_n 0, 1) := by decide +kernel
theorem d_Mo_cheapest_1 : decode prog_7_method_20_code 1 = .ok (.aload_n 0, 1) := by decide +kernel
theorem d_Mo_cheapest_2 : decode prog_7_method_20_code 2 = .ok (.iload_n 1, 1) := by decide +kernel
theorem d_Mo_cheapest_3 : decode prog_7_method_20_code 3 = .ok (.invokevirtual 133, 3) := by decide +kernel
theorem d_Mo_cheapest_6 : decode prog_7_method_20_code 6 = .ok (.ifCond .eq 7, 3) := by decide +kernel
theorem d_Mo_cheapest_9 : decode prog_7_method_20_code 9 = .ok (.iconst 1, 1) := by decide +kernel
theorem d_Mo_cheapest_10 : decode prog_7_method_20_code 10 = .ok (.goto 4, 3) := by decide +kernel
theorem d_Mo_cheapest_13 : decode prog_7_method_20_code 13 = .ok (.iconst 0, 1) := by decide +kernel
theorem d_Mo_cheapest_14 : decode prog_7_method_20_code 14 = .ok (.putfield 7, 3) := by decide +kernel
theorem d_Mo_cheapest_17 : decode prog_7_method_20_code 17 = .ok (.aload_n 0, 1) := by decide +kernel
theorem d_Mo_cheapest_18 : decode prog_7_method_20_code 18 = .ok (.getfield 7, 3) := by decide +kernel
theorem d_Mo_cheapest_21 : decode prog_7_method_20_code 21 = .ok (.ifCond .eq 5, 3) := by decide +kernel
theorem d_Mo_cheapest_24 : decode prog_7_method_20_code 24 = .ok (.iconst 0, 1) := by decide +kernel
theorem d_Mo_cheapest_25 : decode prog_7_method_20_code 25 = .ok (.ireturn, 1) := by decide +kernel
theorem d_Mo_cheapest_26 : decode prog_7_method_20_code 26 = .ok (.iconst (-1), 1) := by decide +kernel
theorem d_Mo_cheapest_27 : decode prog_7_method_20_code 27 = .ok (.istore_n 2, 1) := by decide +kernel
theorem d_Mo_cheapest_28 : decode prog_7_method_20_code 28 = .ok (.iconst 0, 1) := by decide +kernel
theorem d_Mo_cheapest_29 : decode prog_7_method_20_code 29 = .ok (.istore_n 3, 1) := by decide +kernel
theorem d_Mo_cheapest_30 : decode prog_7_method_20_code 30 = .ok (.iload_n 3, 1) := by decide +kernel
theorem d_Mo_cheapest_31 : decode prog_7_method_20_code 31 = .ok (.bipush 10, 2) := by decide +kernel
theorem d_Mo_cheapest_33 : decode prog_7_method_20_code 33 = .ok (.if_icmp .ge 39, 3) := by decide +kernel
theorem d_Mo_cheapest_36 : decode prog_7_method_20_code 36 = .ok (.aload_n 0, 1) := by decide +kernel
theorem d_Mo_cheapest_37 : decode prog_7_method_20_code 37 = .ok (.iload_n 1, 1) := by decide +kernel
theorem d_Mo_cheapest_38 : decode prog_7_method_20_code 38 = .ok (.iload_n 3, 1) := by decide +kernel
theorem d_Mo_cheapest_39 : decode prog_7_method_20_code 39 = .ok (.invokevirtual 137, 3) := by decide +kernel
theorem d_Mo_cheapest_42 : decode prog_7_method_20_code 42 = .ok (.istore 4, 2) := by decide +kernel
theorem d_Mo_cheapest_44 : decode prog_7_method_20_code 44 = .ok (.iload 4, 2) := by decide +kernel
theorem d_Mo_cheapest_46 : decode prog_7_method_20_code 46 = .ok (.ifCond .lt 20, 3) := by decide +kernel
theorem d_Mo_cheapest_49 : decode prog_7_method_20_code 49 = .ok (.iload_n 2, 1) := by decide +kernel
theorem d_Mo_cheapest_50 : decode prog_7_method_20_code 50 = .ok (.ifCond .lt 14, 3) := by decide +kernel
theorem d_Mo_cheapest_53 : decode prog_7_method_20_code 53 = .ok (.iload 4, 2) := by decide +kernel
theorem d_Mo_cheapest_55 : decode prog_7_method_20_code 55 = .ok (.aload_n 0, 1) := by decide +kernel
theorem d_Mo_cheapest_56 : decode prog_7_method_20_code 56 = .ok (.iload_n 1, 1) := by decide +kernel
theorem d_Mo_cheapest_57 : decode prog_7_method_20_code 57 = .ok (.iload_n 2, 1) := by decide +kernel
theorem d_Mo_cheapest_58 : decode prog_7_method_20_code 58 = .ok (.invokevirtual 137, 3) := by decide +kernel
theorem d_Mo_cheapest_61 : decode prog_7_method_20_code 61 = .ok (.if_icmp .ge 5, 3) := by decide +kernel
theorem d_Mo_cheapest_64 : decode prog_7_method_20_code 64 = .ok (.iload_n 3, 1) := by decide +kernel
theorem d_Mo_cheapest_65 : decode prog_7_method_20_code 65 = .ok (.istore_n 2, 1) := by decide +kernel
theorem d_Mo_cheapest_66 : decode prog_7_method_20_code 66 = .ok (.iinc 3 1, 3) := by decide +kernel
theorem d_Mo_cheapest_69 : decode prog_7_method_20_code 69 = .ok (.goto (-39), 3) := by decide +kernel
theorem d_Mo_cheapest_72 : decode prog_7_method_20_code 72 = .ok (.iload_n 2, 1) := by decide +kernel
theorem d_Mo_cheapest_73 : decode prog_7_method_20_code 73 = .ok (.ireturn, 1) := by decide +kernel
theorem d_Mo_parcels_0 : decode prog_7_method_21_code 0 = .ok (.aload_n 0, 1) := by decide +kernel
theorem d_Mo_parcels_1 : decode prog_7_method_21_code 1 = .ok (.aload_n 0, 1) := by decide +kernel
theorem d_Mo_parcels_2 : decode prog_7_method_21_code 2 = .ok (.iload_n 1, 1) := by decide +kernel
theorem d_Mo_parcels_3 : decode prog_7_method_21_code 3 = .ok (.invokevirtual 133, 3) := by decide +kernel
theorem d_Mo_parcels_6 : decode prog_7_method_21_code 6 = .ok (.ifCond .eq 7, 3) := by decide +kernel
theorem d_Mo_parcels_9 : decode prog_7_method_21_code 9 = .ok (.iconst 1, 1) := by decide +kernel
theorem d_Mo_parcels_10 : decode prog_7_method_21_code 10 = .ok (.goto 18, 3) := by decide +kernel
theorem d_Mo_parcels_13 : decode prog_7_method_21_code 13 = .ok (.iload_n 2, 1) := by decide +kernel
theorem d_Mo_parcels_14 : decode prog_7_method_21_code 14 = .ok (.iconst 0, 1) := by decide +kernel
theorem d_Mo_parcels_15 : decode prog_7_method_21_code 15 = .ok (.bipush 9, 2) := by decide +kernel
theorem d_Mo_parcels_17 : decode prog_7_method_21_code 17 = .ok (.invokestatic 124, 3) := by decide +kernel
theorem d_Mo_parcels_20 : decode prog_7_method_21_code 20 = .ok (.ifCond .eq 7, 3) := by decide +kernel
theorem d_Mo_parcels_23 : decode prog_7_method_21_code 23 = .ok (.iconst 2, 1) := by decide +kernel
theorem d_Mo_parcels_24 : decode prog_7_method_21_code 24 = .ok (.goto 4, 3) := by decide +kernel
theorem d_Mo_parcels_27 : decode prog_7_method_21_code 27 = .ok (.iconst 0, 1) := by decide +kernel
theorem d_Mo_parcels_28 : decode prog_7_method_21_code 28 = .ok (.putfield 7, 3) := by decide +kernel
theorem d_Mo_parcels_31 : decode prog_7_method_21_code 31 = .ok (.aload_n 0, 1) := by decide +kernel
theorem d_Mo_parcels_32 : decode prog_7_method_21_code 32 = .ok (.getfield 7, 3) := by decide +kernel
theorem d_Mo_parcels_35 : decode prog_7_method_21_code 35 = .ok (.ifCond .eq 5, 3) := by decide +kernel
theorem d_Mo_parcels_38 : decode prog_7_method_21_code 38 = .ok (.iconst 0, 1) := by decide +kernel
theorem d_Mo_parcels_39 : decode prog_7_method_21_code 39 = .ok (.ireturn, 1) := by decide +kernel
theorem d_Mo_parcels_40 : decode prog_7_method_21_code 40 = .ok (.iconst 1, 1) := by decide +kernel
theorem d_Mo_parcels_41 : decode prog_7_method_21_code 41 = .ok (.istore_n 3, 1) := by decide +kernel
theorem d_Mo_parcels_42 : decode prog_7_method_21_code 42 = .ok (.aload_n 0, 1) := by decide +kernel
theorem d_Mo_parcels_43 : decode prog_7_method_21_code 43 = .ok (.getfield 84, 3) := by decide +kernel
theorem d_Mo_parcels_46 : decode prog_7_method_21_code 46 = .ok (.iconst 0, 1) := by decide +kernel
theorem d_Mo_parcels_47 : decode prog_7_method_21_code 47 = .ok (.iconst 0, 1) := by decide +kernel
theorem d_Mo_parcels_48 : decode prog_7_method_21_code 48 = .ok (.iastore, 1) := by decide +kernel
theorem d_Mo_parcels_49 : decode prog_7_method_21_code 49 = .ok (.aload_n 0, 1) := by decide +kernel
theorem d_Mo_parcels_50 : decode prog_7_method_21_code 50 = .ok (.getfield 87, 3) := by decide +kernel
theorem d_Mo_parcels_53 : decode prog_7_method_21_code 53 = .ok (.iconst 0, 1) := by decide +kernel
theorem d_Mo_parcels_54 : decode prog_7_method_21_code 54 = .ok (.iconst 0, 1) := by decide +kernel
theorem d_Mo_parcels_55 : decode prog_7_method_21_code 55 = .ok (.iastore, 1) := by decide +kernel
theorem d_Mo_parcels_56 : decode prog_7_method_21_code 56 = .ok (.aload_n 0, 1) := by decide +kernel
theorem d_Mo_parcels_57 : decode prog_7_method_21_code 57 = .ok (.getfield 90, 3) := by decide +kernel
theorem d_Mo_parcels_60 : decode prog_7_method_21_code 60 = .ok (.iconst 0, 1) := by decide +kernel
theorem d_Mo_parcels_61 : decode prog_7_method_21_code 61 = .ok (.iconst 0, 1) := by decide +kernel
theorem d_Mo_parcels_62 : decode prog_7_method_21_code 62 = .ok (.iastore, 1) := by decide +kernel
theorem d_Mo_parcels_63 : decode prog_7_method_21_code 63 = .ok (.iconst 0, 1) := by decide +kernel
theorem d_Mo_parcels_64 : decode prog_7_method_21_code 64 = .ok (.istore 4, 2) := by decide +kernel
theorem d_Mo_parcels_66 : decode prog_7_method_21_code 66 = .ok (.iconst 0, 1) := by decide +kernel
theorem d_Mo_parcels_67 : decode prog_7_method_21_code 67 = .ok (.istore 5, 2) := by decide +kernel
theorem d_Mo_parcels_69 : decode prog_7_method_21_code 69 = .ok (.iload 5, 2) := by decide +kernel
theorem d_Mo_parcels_71 : decode prog_7_method_21_code 71 = .ok (.aload_n 0, 1) := by decide +kernel
theorem d_Mo_parcels_72 : decode prog_7_method_21_code 72 = .ok (.getfield 20, 3) := by decide +kernel
theorem d_Mo_parcels_75 : decode prog_7_method_21_code 75 = .ok (.if_icmp .ge 113, 3) := by decide +kernel
theorem d_Mo_parcels_78 : decode prog_7_method_21_code 78 = .ok (.aload_n 0, 1) := by decide +kernel
theorem d_Mo_parcels_79 : decode prog_7_method_21_code 79 = .ok (.getfield 23, 3) := by decide +kernel
theorem d_Mo_parcels_82 : decode prog_7_method_21_code 82 = .ok (.iconst 5, 1) := by decide +kernel
theorem d_Mo_parcels_83 : decode prog_7_method_21_code 83 = .ok (.iload 5, 2) := by decide +kernel
theorem d_Mo_parcels_85 : decode prog_7_method_21_code 85 = .ok (.imul, 1) := by decide +kernel
theorem d_Mo_parcels_86 : decode prog_7_method_21_code 86 = .ok (.iaload, 1) := by decide +kernel
theorem d_Mo_parcels_87 : decode prog_7_method_21_code 87 = .ok (.bipush 82, 2) := by decide +kernel
theorem d_Mo_parcels_89 : decode prog_7_method_21_code 89 = .ok (.if_icmp .ne 93, 3) := by decide +kernel
theorem d_Mo_parcels_92 : decode prog_7_method_21_code 92 = .ok (.aload_n 0, 1) := by decide +kernel
theorem d_Mo_parcels_93 : decode prog_7_method_21_code 93 = .ok (.getfield 23, 3) := by decide +kernel
theorem d_Mo_parcels_96 : decode prog_7_method_21_code 96 = .ok (.iconst 5, 1) := by decide +kernel
theorem d_Mo_parcels_97 : decode prog_7_method_21_code 97 = .ok (.iload 5, 2) := by decide +kernel
theorem d_Mo_parcels_99 : decode prog_7_method_21_code 99 = .ok (.imul, 1) := by decide +kernel
theorem d_Mo_parcels_100 : decode prog_7_method_21_code 100 = .ok (.iconst 1, 1) := by decide +kernel
theorem d_Mo_parcels_101 : decode prog_7_method_21_code 101 = .ok (.iadd, 1) := by decide +kernel
theorem d_Mo_parcels_102 : decode prog_7_method_21_code 102 = .ok (.iaload, 1) := by decide +kernel
theorem d_Mo_parcels_103 : decode prog_7_method_21_code 103 = .ok (.iload_n 2, 1) := by decide +kernel
theorem d_Mo_parcels_104 : decode prog_7_method_21_code 104 = .ok (.if_icmp .ne 78, 3) := by decide +kernel
theorem d_Mo_parcels_107 : decode prog_7_method_21_code 107 = .ok (.aload_n 0, 1) := by decide +kernel
theorem d_Mo_parcels_108 : decode prog_7_method_21_code 108 = .ok (.getfield 23, 3) := by decide +kernel
theorem d_Mo_parcels_111 : decode prog_7_method_21_code 111 = .ok (.iconst 5, 1) := by decide +kernel
theorem d_Mo_parcels_112 : decode prog_7_method_21_code 112 = .ok (.iload 5, 2) := by decide +kernel
theorem d_Mo_parcels_114 : decode prog_7_method_21_code 114 = .ok (.imul, 1) := by decide +kernel
theorem d_Mo_parcels_115 : decode prog_7_method_21_code 115 = .ok (.iconst 2, 1) := by decide +kernel
theorem d_Mo_parcels_116 : decode prog_7_method_21_code 116 = .ok (.iadd, 1) := by decide +kernel
theorem d_Mo_parcels_117 : decode prog_7_method_21_code 117 = .ok (.iaload, 1) := by decide +kernel
theorem d_Mo_parcels_118 : decode prog_7_method_21_code 118 = .ok (.aload_n 0, 1) := by decide +kernel
theorem d_Mo_parcels_119 : decode prog_7_method_21_code 119 = .ok (.getfield 42, 3) := by decide +kernel
theorem d_Mo_parcels_122 : decode prog_7_method_21_code 122 = .ok (.iload_n 1, 1) := by decide +kernel
theorem d_Mo_parcels_123 : decode prog_7_method_21_code 123 = .ok (.iaload, 1) := by decide +kernel
theorem d_Mo_parcels_124 : decode prog_7_method_21_code 124 = .ok (.if_icmp .ne 58, 3) := by decide +kernel
theorem d_Mo_parcels_127 : decode prog_7_method_21_code 127 = .ok (.aload_n 0, 1) := by decide +kernel
theorem d_Mo_parcels_128 : decode prog_7_method_21_code 128 = .ok (.getfield 84, 3) := by decide +kernel
theorem d_Mo_parcels_131 : decode prog_7_method_21_code 131 = .ok (.iload_n 3, 1) := by decide +kernel
theorem d_Mo_parcels_132 : decode prog_7_method_21_code 132 = .ok (.iload 4, 2) := by decide +kernel
theorem d_Mo_parcels_134 : decode prog_7_method_21_code 134 = .ok (.iconst 1, 1) := by decide +kernel
theorem d_Mo_parcels_135 : decode prog_7_method_21_code 135 = .ok (.iadd, 1) := by decide +kernel
theorem d_Mo_parcels_136 : decode prog_7_method_21_code 136 = .ok (.iastore, 1) := by decide +kernel
theorem d_Mo_parcels_137 : decode prog_7_method_21_code 137 = .ok (.aload_n 0, 1) := by decide +kernel
theorem d_Mo_parcels_138 : decode prog_7_method_21_code 138 = .ok (.getfield 87, 3) := by decide +kernel
theorem d_Mo_parcels_141 : decode prog_7_method_21_code 141 = .ok (.iload_n 3, 1) := by decide +kernel
theorem d_Mo_parcels_142 : decode prog_7_method_21_code 142 = .ok (.aload_n 0, 1) := by decide +kernel
theorem d_Mo_parcels_143 : decode prog_7_method_21_code 143 = .ok (.getfield 23, 3) := by decide +kernel
theorem d_Mo_parcels_146 : decode prog_7_method_21_code 146 = .ok (.iconst 5, 1) := by decide +kernel
theorem d_Mo_parcels_147 : decode prog_7_method_21_code 147 = .ok (.iload 5, 2) := by decide +kernel
theorem d_Mo_parcels_149 : decode prog_7_method_21_code 149 = .ok (.imul, 1) := by decide +kernel
theorem d_Mo_parcels_150 : decode prog_7_method_21_code 150 = .ok (.iconst 3, 1) := by decide +kernel
theorem d_Mo_parcels_151 : decode prog_7_method_21_code 151 = .ok (.iadd, 1) := by decide +kernel
theorem d_Mo_parcels_152 : decode prog_7_method_21_code 152 = .ok (.iaload, 1) := by decide +kernel
theorem d_Mo_parcels_153 : decode prog_7_method_21_code 153 = .ok (.iastore, 1) := by decide +kernel
theorem d_Mo_parcels_154 : decode prog_7_method_21_code 154 = .ok (.aload_n 0, 1) := by decide +kernel
theorem d_Mo_parcels_155 : decode prog_7_method_21_code 155 = .ok (.getfield 90, 3) := by decide +kernel
theorem d_Mo_parcels_158 : decode prog_7_method_21_code 158 = .ok (.iload_n 3, 1) := by decide +kernel
theorem d_Mo_parcels_159 : decode prog_7_method_21_code 159 = .ok (.aload_n 0, 1) := by decide +kernel
theorem d_Mo_parcels_160 : decode prog_7_method_21_code 160 = .ok (.getfield 23, 3) := by decide +kernel
theorem d_Mo_parcels_163 : decode prog_7_method_21_code 163 = .ok (.iconst 5, 1) := by decide +kernel
theorem d_Mo_parcels_164 : decode prog_7_method_21_code 164 = .ok (.iload 5, 2) := by decide +kernel
theorem d_Mo_parcels_166 : decode prog_7_method_21_code 166 = .ok (.imul, 1) := by decide +kernel
theorem d_Mo_parcels_167 : decode prog_7_method_21_code 167 = .ok (.iconst 4, 1) := by decide +kernel
theorem d_Mo_parcels_168 : decode prog_7_method_21_code 168 = .ok (.iadd, 1) := by decide +kernel
theorem d_Mo_parcels_169 : decode prog_7_method_21_code 169 = .ok (.iaload, 1) := by decide +kernel
theorem d_Mo_parcels_170 : decode prog_7_method_21_code 170 = .ok (.iastore, 1) := by decide +kernel
theorem d_Mo_parcels_171 : decode prog_7_method_21_code 171 = .ok (.aload_n 0, 1) := by decide +kernel
theorem d_Mo_parcels_172 : decode prog_7_method_21_code 172 = .ok (.getfield 87, 3) := by decide +kernel
theorem d_Mo_parcels_175 : decode prog_7_method_21_code 175 = .ok (.iload_n 3, 1) := by decide +kernel
theorem d_Mo_parcels_176 : decode prog_7_method_21_code 176 = .ok (.iaload, 1) := by decide +kernel
theorem d_Mo_parcels_177 : decode prog_7_method_21_code 177 = .ok (.istore 4, 2) := by decide +kernel
theorem d_Mo_parcels_179 : decode prog_7_method_21_code 179 = .ok (.iinc 3 1, 3) := by decide +kernel
theorem d_Mo_parcels_182 : decode prog_7_method_21_code 182 = .ok (.iinc 5 1, 3) := by decide +kernel
theorem d_Mo_parcels_185 : decode prog_7_method_21_code 185 = .ok (.goto (-116), 3) := by decide +kernel
theorem d_Mo_parcels_188 : decode prog_7_method_21_code 188 = .ok (.iconst (-1), 1) := by decide +kernel
theorem d_Mo_parcels_189 : decode prog_7_method_21_code 189 = .ok (.istore 5, 2) := by decide +kernel
theorem d_Mo_parcels_191 : decode prog_7_method_21_code 191 = .ok (.iconst 1, 1) := by decide +kernel
theorem d_Mo_parcels_192 : decode prog_7_method_21_code 192 = .ok (.istore 6, 2) := by decide +kernel
theorem d_Mo_parcels_194 : decode prog_7_method_21_code 194 = .ok (.iload 6, 2) := by decide +kernel
theorem d_Mo_parcels_196 : decode prog_7_method_21_code 196 = .ok (.iload_n 3, 1) := by decide +kernel
theorem d_Mo_parcels_197 : decode prog_7_method_21_code 197 = .ok (.if_icmp .ge 156, 3) := by decide +kernel
theorem d_Mo_parcels_200 : decode prog_7_method_21_code 200 = .ok (.iconst 0, 1) := by decide +kernel
theorem d_Mo_parcels_201 : decode prog_7_method_21_code 201 = .ok (.istore 7, 2) := by decide +kernel
theorem d_Mo_parcels_203 : decode prog_7_method_21_code 203 = .ok (.iload 7, 2) := by decide +kernel
theorem d_Mo_parcels_205 : decode prog_7_method_21_code 205 = .ok (.iload_n 3, 1) := by decide +kernel
theorem d_Mo_parcels_206 : decode prog_7_method_21_code 206 = .ok (.if_icmp .ge 141, 3) := by decide +kernel
theorem d_Mo_parcels_209 : decode prog_7_method_21_code 209 = .ok (.iconst 0, 1) := by decide +kernel
theorem d_Mo_parcels_210 : decode prog_7_method_21_code 210 = .ok (.istore 8, 2) := by decide +kernel
theorem d_Mo_parcels_212 : decode prog_7_method_21_code 212 = .ok (.iload 8, 2) := by decide +kernel
theorem d_Mo_parcels_214 : decode prog_7_method_21_code 214 = .ok (.iload_n 3, 1) := by decide +kernel
theorem d_Mo_parcels_215 : decode prog_7_method_21_code 215 = .ok (.if_icmp .ge 126, 3) := by decide +kernel
theorem d_Mo_parcels_218 : decode prog_7_method_21_code 218 = .ok (.aload_n 0, 1) := by decide +kernel
theorem d_Mo_parcels_219 : decode prog_7_method_21_code 219 = .ok (.getfield 84, 3) := by decide +kernel
theorem d_Mo_parcels_222 : decode prog_7_method_21_code 222 = .ok (.iload 6, 2) := by decide +kernel
theorem d_Mo_parcels_224 : decode prog_7_method_21_code 224 = .ok (.iaload, 1) := by decide +kernel
theorem d_Mo_parcels_225 : decode prog_7_method_21_code 225 = .ok (.aload_n 0, 1) := by decide +kernel
theorem d_Mo_parcels_226 : decode prog_7_method_21_code 226 = .ok (.getfield 84, 3) := by decide +kernel
theorem d_Mo_parcels_229 : decode prog_7_method_21_code 229 = .ok (.iload 7, 2) := by decide +kernel
theorem d_Mo_parcels_231 : decode prog_7_method_21_code 231 = .ok (.iaload, 1) := by decide +kernel
theorem d_Mo_parcels_232 : decode prog_7_method_21_code 232 = .ok (.iadd, 1) := by decide +kernel
theorem d_Mo_parcels_233 : decode prog_7_method_21_code 233 = .ok (.aload_n 0, 1) := by decide +kernel
theorem d_Mo_parcels_234 : decode prog_7_method_21_code 234 = .ok (.getfield 84, 3) := by decide +kernel
theorem d_Mo_parcels_237 : decode prog_7_method_21_code 237 = .ok (.iload 8, 2) := by decide +kernel
theorem d_Mo_parcels_239 : decode prog_7_method_21_code 239 = .ok (.iaload, 1) := by decide +kernel
theorem d_Mo_parcels_240 : decode prog_7_method_21_code 240 = .ok (.iadd, 1) := by decide +kernel
theorem d_Mo_parcels_241 : decode prog_7_method_21_code 241 = .ok (.aload_n 0, 1) := by decide +kernel
theorem d_Mo_parcels_242 : decode prog_7_method_21_code 242 = .ok (.getfield 45, 3) := by decide +kernel
theorem d_Mo_parcels_245 : decode prog_7_method_21_code 245 = .ok (.iload_n 1, 1) := by decide +kernel
theorem d_Mo_parcels_246 : decode prog_7_method_21_code 246 = .ok (.iaload, 1) := by decide +kernel
theorem d_Mo_parcels_247 : decode prog_7_method_21_code 247 = .ok (.if_icmp .gt 39, 3) := by decide +kernel
theorem d_Mo_parcels_250 : decode prog_7_method_21_code 250 = .ok (.aload_n 0, 1) := by decide +kernel
theorem d_Mo_parcels_251 : decode prog_7_method_21_code 251 = .ok (.getfield 45, 3) := by decide +kernel
theorem d_Mo_parcels_254 : decode prog_7_method_21_code 254 = .ok (.iload_n 1, 1) := by decide +kernel
theorem d_Mo_parcels_255 : decode prog_7_method_21_code 255 = .ok (.iaload, 1) := by decide +kernel
theorem d_Mo_parcels_256 : decode prog_7_method_21_code 256 = .ok (.aload_n 0, 1) := by decide +kernel
theorem d_Mo_parcels_257 : decode prog_7_method_21_code 257 = .ok (.getfield 87, 3) := by decide +kernel
theorem d_Mo_parcels_260 : decode prog_7_method_21_code 260 = .ok (.iload 6, 2) := by decide +kernel
theorem d_Mo_parcels_262 : decode prog_7_method_21_code 262 = .ok (.iaload, 1) := by decide +kernel
theorem d_Mo_parcels_263 : decode prog_7_method_21_code 263 = .ok (.aload_n 0, 1) := by decide +kernel
theorem d_Mo_parcels_264 : decode prog_7_method_21_code 264 = .ok (.getfield 87, 3) := by decide +kernel
theorem d_Mo_parcels_267 : decode prog_7_method_21_code 267 = .ok (.iload 7, 2) := by decide +kernel
theorem d_Mo_parcels_269 : decode prog_7_method_21_code 269 = .ok (.iaload, 1) := by decide +kernel
theorem d_Mo_parcels_270 : decode prog_7_method_21_code 270 = .ok (.iadd, 1) := by decide +kernel
theorem d_Mo_parcels_271 : decode prog_7_method_21_code 271 = .ok (.aload_n 0, 1) := by decide +kernel
theorem d_Mo_parcels_272 : decode prog_7_method_21_code 272 = .ok (.getfield 87, 3) := by decide +kernel
theorem d_Mo_parcels_275 : decode prog_7_method_21_code 275 = .ok (.iload 8, 2) := by decide +kernel
theorem d_Mo_parcels_277 : decode prog_7_method_21_code 277 = .ok (.iaload, 1) := by decide +kernel
theorem d_Mo_parcels_278 : decode prog_7_method_21_code 278 = .ok (.iadd, 1) := by decide +kernel
theorem d_Mo_parcels_279 : decode prog_7_method_21_code 279 = .ok (.if_icmp .gt 7, 3) := by decide +kernel
theorem d_Mo_parcels_282 : decode prog_7_method_21_code 282 = .ok (.iconst 1, 1) := by decide +kernel
theorem d_Mo_parcels_283 : decode prog_7_method_21_code 283 = .ok (.goto 4, 3) := by decide +kernel
theorem d_Mo_parcels_286 : decode prog_7_method_21_code 286 = .ok (.iconst 0, 1) := by decide +kernel
theorem d_Mo_parcels_287 : decode prog_7_method_21_code 287 = .ok (.istore 9, 2) := by decide +kernel
theorem d_Mo_parcels_289 : decode prog_7_method_21_code 289 = .ok (.aload_n 0, 1) := by decide +kernel
theorem d_Mo_parcels_290 : decode prog_7_method_21_code 290 = .ok (.getfield 90, 3) := by decide +kernel
theorem d_Mo_parcels_293 : decode prog_7_method_21_code 293 = .ok (.iload 6, 2) := by decide +kernel
theorem d_Mo_parcels_295 : decode prog_7_method_21_code 295 = .ok (.iaload, 1) := by decide +kernel
theorem d_Mo_parcels_296 : decode prog_7_method_21_code 296 = .ok (.aload_n 0, 1) := by decide +kernel
theorem d_Mo_parcels_297 : decode prog_7_method_21_code 297 = .ok (.getfield 90, 3) := by decide +kernel
theorem d_Mo_parcels_300 : decode prog_7_method_21_code 300 = .ok (.iload 7, 2) := by decide +kernel
theorem d_Mo_parcels_302 : decode prog_7_method_21_code 302 = .ok (.iaload, 1) := by decide +kernel
theorem d_Mo_parcels_303 : decode prog_7_method_21_code 303 = .ok (.iadd, 1) := by decide +kernel
theorem d_Mo_parcels_304 : decode prog_7_method_21_code 304 = .ok (.aload_n 0, 1) := by decide +kernel
theorem d_Mo_parcels_305 : decode prog_7_method_21_code 305 = .ok (.getfield 90, 3) := by decide +kernel
theorem d_Mo_parcels_308 : decode prog_7_method_21_code 308 = .ok (.iload 8, 2) := by decide +kernel
theorem d_Mo_parcels_310 : decode prog_7_method_21_code 310 = .ok (.iaload, 1) := by decide +kernel
theorem d_Mo_parcels_311 : decode prog_7_method_21_code 311 = .ok (.iadd, 1) := by decide +kernel
theorem d_Mo_parcels_312 : decode prog_7_method_21_code 312 = .ok (.istore 10, 2) := by decide +kernel
theorem d_Mo_parcels_314 : decode prog_7_method_21_code 314 = .ok (.iload 9, 2) := by decide +kernel
theorem d_Mo_parcels_316 : decode prog_7_method_21_code 316 = .ok (.ifCond .eq 19, 3) := by decide +kernel
theorem d_Mo_parcels_319 : decode prog_7_method_21_code 319 = .ok (.iload 5, 2) := by decide +kernel
theorem d_Mo_parcels_321 : decode prog_7_method_21_code 321 = .ok (.ifCond .lt 10, 3) := by decide +kernel
theorem d_Mo_parcels_324 : decode prog_7_method_21_code 324 = .ok (.iload 10, 2) := by decide +kernel
theorem d_Mo_parcels_326 : decode prog_7_method_21_code 326 = .ok (.iload 5, 2) := by decide +kernel
theorem d_Mo_parcels_328 : decode prog_7_method_21_code 328 = .ok (.if_icmp .ge 7, 3) := by decide +kernel
theorem d_Mo_parcels_331 : decode prog_7_method_21_code 331 = .ok (.iload 10, 2) := by decide +kernel
theorem d_Mo_parcels_333 : decode prog_7_method_21_code 333 = .ok (.istore 5, 2) := by decide +kernel
theorem d_Mo_parcels_335 : decode prog_7_method_21_code 335 = .ok (.iinc 8 1, 3) := by decide +kernel
theorem d_Mo_parcels_338 : decode prog_7_method_21_code 338 = .ok (.goto (-126), 3) := by decide +kernel
theorem d_Mo_parcels_341 : decode prog_7_method_21_code 341 = .ok (.iinc 7 1, 3) := by decide +kernel
theorem d_Mo_parcels_344 : decode prog_7_method_21_code 344 = .ok (.goto (-141), 3) := by decide +kernel
theorem d_Mo_parcels_347 : decode prog_7_method_21_code 347 = .ok (.iinc 6 1, 3) := by decide +kernel
theorem d_Mo_parcels_350 : decode prog_7_method_21_code 350 = .ok (.goto (-156), 3) := by decide +kernel
theorem d_Mo_parcels_353 : decode prog_7_method_21_code 353 = .ok (.iload 5, 2) := by decide +kernel
theorem d_Mo_parcels_355 : decode prog_7_method_21_code 355 = .ok (.ireturn, 1) := by decide +kernel
theorem d_Mo_contract_0 : decode prog_7_method_22_code 0 = .ok (.aload_n 0, 1) := by decide +kernel
theorem d_Mo_contract_1 : decode prog_7_method_22_code 1 = .ok (.iload_n 1, 1) := by decide +kernel
theorem d_Mo_contract_2 : decode prog_7_method_22_code 2 = .ok (.iconst 0, 1) := by decide +kernel
theorem d_Mo_contract_3 : decode prog_7_method_22_code 3 = .ok (.bipush 9, 2) := by decide +kernel
theorem d_Mo_contract_5 : decode prog_7_method_22_code 5 = .ok (.invokestatic 124, 3) := by decide +kernel
theorem d_Mo_contract_8 : decode prog_7_method_22_code 8 = .ok (.ifCond .ne 35, 3) := by decide +kernel
theorem d_Mo_contract_11 : decode prog_7_method_22_code 11 = .ok (.iload_n 2, 1) := by decide +kernel
theorem d_Mo_contract_12 : decode prog_7_method_22_code 12 = .ok (.iconst 0, 1) := by decide +kernel
theorem d_Mo_contract_13 : decode prog_7_method_22_code 13 = .ok (.bipush 100, 2) := by decide +kernel
theorem d_Mo_contract_15 : decode prog_7_method_22_code 15 = .ok (.invokestatic 124, 3) := by decide +kernel
theorem d_Mo_contract_18 : decode prog_7_method_22_code 18 = .ok (.ifCond .ne 25, 3) := by decide +kernel
theorem d_Mo_contract_21 : decode prog_7_method_22_code 21 = .ok (.iload 4, 2) := by decide +kernel
theorem d_Mo_contract_23 : decode prog_7_method_22_code 23 = .ok (.iconst 1, 1) := by decide +kernel
theorem d_Mo_contract_24 : decode prog_7_method_22_code 24 = .ok (.sipush 1000, 3) := by decide +kernel
theorem d_Mo_contract_27 : decode prog_7_method_22_code 27 = .ok (.invokestatic 124, 3) := by decide +kernel
theorem d_Mo_contract_30 : decode prog_7_method_22_code 30 = .ok (.ifCond .ne 13, 3) := by decide +kernel
theorem d_Mo_contract_33 : decode prog_7_method_22_code 33 = .ok (.iload_n 3, 1) := by decide +kernel
theorem d_Mo_contract_34 : decode prog_7_method_22_code 34 = .ok (.iconst 0, 1) := by decide +kernel
theorem d_Mo_contract_35 : decode prog_7_method_22_code 35 = .ok (.iload 4, 2) := by decide +kernel
theorem d_Mo_contract_37 : decode prog_7_method_22_code 37 = .ok (.invokestatic 124, 3) := by decide +kernel
theorem d_Mo_contract_40 : decode prog_7_method_22_code 40 = .ok (.ifCond .eq 7, 3) := by decide +kernel
theorem d_Mo_contract_43 : decode prog_7_method_22_code 43 = .ok (.iconst 1, 1) := by decide +kernel
theorem d_Mo_contract_44 : decode prog_7_method_22_code 44 = .ok (.goto 4, 3) := by decide +kernel
theorem d_Mo_contract_47 : decode prog_7_method_22_code 47 = .ok (.iconst 0, 1) := by decide +kernel
theorem d_Mo_contract_48 : decode prog_7_method_22_code 48 = .ok (.putfield 7, 3) := by decide +kernel
theorem d_Mo_contract_51 : decode prog_7_method_22_code 51 = .ok (.aload_n 0, 1) := by decide +kernel
theorem d_Mo_contract_52 : decode prog_7_method_22_code 52 = .ok (.getfield 7, 3) := by decide +kernel
theorem d_Mo_contract_55 : decode prog_7_method_22_code 55 = .ok (.ifCond .eq 5, 3) := by decide +kernel
theorem d_Mo_contract_58 : decode prog_7_method_22_code 58 = .ok (.iconst 0, 1) := by decide +kernel
theorem d_Mo_contract_59 : decode prog_7_method_22_code 59 = .ok (.ireturn, 1) := by decide +kernel
theorem d_Mo_contract_60 : decode prog_7_method_22_code 60 = .ok (.iconst 4, 1) := by decide +kernel
theorem d_Mo_contract_61 : decode prog_7_method_22_code 61 = .ok (.iload_n 1, 1) := by decide +kernel
theorem d_Mo_contract_62 : decode prog_7_method_22_code 62 = .ok (.imul, 1) := by decide +kernel
theorem d_Mo_contract_63 : decode prog_7_method_22_code 63 = .ok (.istore 5, 2) := by decide +kernel
theorem d_Mo_contract_65 : decode prog_7_method_22_code 65 = .ok (.iload 5, 2) := by decide +kernel
theorem d_Mo_contract_67 : decode prog_7_method_22_code 67 = .ok (.iconst 4, 1) := by decide +kernel
theorem d_Mo_contract_68 : decode prog_7_method_22_code 68 = .ok (.iload_n 1, 1) := by decide +kernel
theorem d_Mo_contract_69 : decode prog_7_method_22_code 69 = .ok (.imul, 1) := by decide +kernel
theorem d_Mo_contract_70 : decode prog_7_method_22_code 70 = .ok (.aload_n 0, 1) := by decide +kernel
theorem d_Mo_contract_71 : decode prog_7_method_22_code 71 = .ok (.getfield 60, 3) := by decide +kernel
theorem d_Mo_contract_74 : decode prog_7_method_22_code 74 = .ok (.iload_n 1, 1) := by decide +kernel
theorem d_Mo_contract_75 : decode prog_7_method_22_code 75 = .ok (.iaload, 1) := by decide +kernel
theorem d_Mo_contract_76 : decode prog_7_method_22_code 76 = .ok (.iadd, 1) := by decide +kernel
theorem d_Mo_contract_77 : decode prog_7_method_22_code 77 = .ok (.if_icmp .ge 20, 3) := by decide +kernel
theorem d_Mo_contract_80 : decode prog_7_method_22_code 80 = .ok (.aload_n 0, 1) := by decide +kernel
theorem d_Mo_contract_81 : decode prog_7_method_22_code 81 = .ok (.getfield 63, 3) := by decide +kernel
theorem d_Mo_contract_84 : decode prog_7_method_22_code 84 = .ok (.iload 5, 2) := by decide +kernel
theorem d_Mo_contract_86 : decode prog_7_method_22_code 86 = .ok (.iaload, 1) := by decide +kernel
theorem d_Mo_contract_87 : decode prog_7_method_22_code 87 = .ok (.iload_n 2, 1) := by decide +kernel
theorem d_Mo_contract_88 : decode prog_7_method_22_code 88 = .ok (.if_icmp .eq 9, 3) := by decide +kernel
theorem d_Mo_contract_91 : decode prog_7_method_22_code 91 = .ok (.iinc 5 1, 3) := by decide +kernel
theorem d_Mo_contract_94 : decode prog_7_method_22_code 94 = .ok (.goto (-29), 3) := by decide +kernel
theorem d_Mo_contract_97 : decode prog_7_method_22_code 97 = .ok (.aload_n 0, 1) := by decide +kernel
theorem d_Mo_contract_98 : decode prog_7_method_22_code 98 = .ok (.iload 5, 2) := by decide +kernel
theorem d_Mo_contract_100 : decode prog_7_method_22_code 100 = .ok (.iconst 4, 1) := by decide +kernel
theorem d_Mo_contract_101 : decode prog_7_method_22_code 101 = .ok (.iload_n 1, 1) := by decide +kernel
theorem d_Mo_contract_102 : decode prog_7_method_22_code 102 = .ok (.imul, 1) := by decide +kernel
theorem d_Mo_contract_103 : decode prog_7_method_22_code 103 = .ok (.iconst 4, 1) := by decide +kernel
theorem d_Mo_contract_104 : decode prog_7_method_22_code 104 = .ok (.iadd, 1) := by decide +kernel
theorem d_Mo_contract_105 : decode prog_7_method_22_code 105 = .ok (.if_icmp .ne 7, 3) := by decide +kernel
theorem d_Mo_contract_108 : decode prog_7_method_22_code 108 = .ok (.iconst 2, 1) := by decide +kernel
theorem d_Mo_contract_109 : decode prog_7_method_22_code 109 = .ok (.goto 4, 3) := by decide +kernel
theorem d_Mo_contract_112 : decode prog_7_method_22_code 112 = .ok (.iconst 0, 1) := by decide +kernel
theorem d_Mo_contract_113 : decode prog_7_method_22_code 113 = .ok (.putfield 7, 3) := by decide +kernel
theorem d_Mo_contract_116 : decode prog_7_method_22_code 116 = .ok (.aload_n 0, 1) := by decide +kernel
theorem d_Mo_contract_117 : decode prog_7_method_22_code 117 = .ok (.getfield 7, 3) := by decide +kernel
theorem d_Mo_contract_120 : decode prog_7_method_22_code 120 = .ok (.ifCond .eq 5, 3) := by decide +kernel
theorem d_Mo_contract_123 : decode prog_7_method_22_code 123 = .ok (.iconst 0, 1) := by decide +kernel
theorem d_Mo_contract_124 : decode prog_7_method_22_code 124 = .ok (.ireturn, 1) := by decide +kernel
theorem d_Mo_contract_125 : decode prog_7_method_22_code 125 = .ok (.iload 5, 2) := by decide +kernel
theorem d_Mo_contract_127 : decode prog_7_method_22_code 127 = .ok (.iconst 4, 1) := by decide +kernel
theorem d_Mo_contract_128 : decode prog_7_method_22_code 128 = .ok (.iload_n 1, 1) := by decide +kernel
theorem d_Mo_contract_129 : decode prog_7_method_22_code 129 = .ok (.imul, 1) := by decide +kernel
theorem d_Mo_contract_130 : decode prog_7_method_22_code 130 = .ok (.aload_n 0, 1) := by decide +kernel
theorem d_Mo_contract_131 : decode prog_7_method_22_code 131 = .ok (.getfield 60, 3) := by decide +kernel
theorem d_Mo_contract_134 : decode prog_7_method_22_code 134 = .ok (.iload_n 1, 1) := by decide +kernel
theorem d_Mo_contract_135 : decode prog_7_method_22_code 135 = .ok (.iaload, 1) := by decide +kernel
theorem d_Mo_contract_136 : decode prog_7_method_22_code 136 = .ok (.iadd, 1) := by decide +kernel
theorem d_Mo_contract_137 : decode prog_7_method_22_code 137 = .ok (.if_icmp .ne 17, 3) := by decide +kernel
theorem d_Mo_contract_140 : decode prog_7_method_22_code 140 = .ok (.aload_n 0, 1) := by decide +kernel
theorem d_Mo_contract_141 : decode prog_7_method_22_code 141 = .ok (.getfield 60, 3) := by decide +kernel
theorem d_Mo_contract_144 : decode prog_7_method_22_code 144 = .ok (.iload_n 1, 1) := by decide +kernel
theorem d_Mo_contract_145 : decode prog_7_method_22_code 145 = .ok (.aload_n 0, 1) := by decide +kernel
theorem d_Mo_contract_146 : decode prog_7_method_22_code 146 = .ok (.getfield 60, 3) := by decide +kernel
theorem d_Mo_contract_149 : decode prog_7_method_22_code 149 = .ok (.iload_n 1, 1) := by decide +kernel
theorem d_Mo_contract_150 : decode prog_7_method_22_code 150 = .ok (.iaload, 1) := by decide +kernel
theorem d_Mo_contract_151 : decode prog_7_method_22_code 151 = .ok (.iconst 1, 1) := by decide +kernel
theorem d_Mo_contract_152 : decode prog_7_method_22_code 152 = .ok (.iadd, 1) := by decide +kernel
theorem d_Mo_contract_153 : decode prog_7_method_22_code 153 = .ok (.iastore, 1) := by decide +kernel
theorem d_Mo_contract_154 : decode prog_7_method_22_code 154 = .ok (.aload_n 0, 1) := by decide +kernel
theorem d_Mo_contract_155 : decode prog_7_method_22_code 155 = .ok (.getfield 63, 3) := by decide +kernel
theorem d_Mo_contract_158 : decode prog_7_method_22_code 158 = .ok (.iload 5, 2) := by decide +kernel
theorem d_Mo_contract_160 : decode prog_7_method_22_code 160 = .ok (.iload_n 2, 1) := by decide +kernel
