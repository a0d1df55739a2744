theorem d_Ro_init_0 : decode prog_3_method_1_code 0 = .ok (.aload_n 0, 1) := by decide +kernel
theorem d_Ro_init_1 : decode prog_3_method_1_code 1 = .ok (.invokespecial 3, 3) := by decide +kernel
theorem d_Ro_init_4 : decode prog_3_method_1_code 4 = .ok (.aload_n 0, 1) := by decide +kernel
theorem d_Ro_init_5 : decode prog_3_method_1_code 5 = .ok (.iconst 0, 1) := by decide +kernel
theorem d_Ro_init_6 : decode prog_3_method_1_code 6 = .ok (.putfield 9, 3) := by decide +kernel
theorem d_Ro_init_9 : decode prog_3_method_1_code 9 = .ok (.iload_n 1, 1) := by decide +kernel
theorem d_Ro_init_10 : decode prog_3_method_1_code 10 = .ok (.iconst 0, 1) := by decide +kernel
theorem d_Ro_init_11 : decode prog_3_method_1_code 11 = .ok (.invokestatic 15, 3) := by decide +kernel
theorem d_Ro_init_14 : decode prog_3_method_1_code 14 = .ok (.istore_n 2, 1) := by decide +kernel
theorem d_Ro_init_15 : decode prog_3_method_1_code 15 = .ok (.aload_n 0, 1) := by decide +kernel
theorem d_Ro_init_16 : decode prog_3_method_1_code 16 = .ok (.iload_n 2, 1) := by decide +kernel
theorem d_Ro_init_17 : decode prog_3_method_1_code 17 = .ok (.newarray .int, 2) := by decide +kernel
theorem d_Ro_init_19 : decode prog_3_method_1_code 19 = .ok (.putfield 21, 3) := by decide +kernel
theorem d_Ro_init_22 : decode prog_3_method_1_code 22 = .ok (.aload_n 0, 1) := by decide +kernel
theorem d_Ro_init_23 : decode prog_3_method_1_code 23 = .ok (.iload_n 2, 1) := by decide +kernel
theorem d_Ro_init_24 : decode prog_3_method_1_code 24 = .ok (.newarray .int, 2) := by decide +kernel
theorem d_Ro_init_26 : decode prog_3_method_1_code 26 = .ok (.putfield 25, 3) := by decide +kernel
theorem d_Ro_init_29 : decode prog_3_method_1_code 29 = .ok (.aload_n 0, 1) := by decide +kernel
theorem d_Ro_init_30 : decode prog_3_method_1_code 30 = .ok (.iload_n 2, 1) := by decide +kernel
theorem d_Ro_init_31 : decode prog_3_method_1_code 31 = .ok (.newarray .int, 2) := by decide +kernel
theorem d_Ro_init_33 : decode prog_3_method_1_code 33 = .ok (.putfield 28, 3) := by decide +kernel
theorem d_Ro_init_36 : decode prog_3_method_1_code 36 = .ok (.return_, 1) := by decide +kernel
theorem d_Ro_latest_0 : decode prog_3_method_5_code 0 = .ok (.iconst (-1), 1) := by decide +kernel
theorem d_Ro_latest_1 : decode prog_3_method_5_code 1 = .ok (.istore_n 2, 1) := by decide +kernel
theorem d_Ro_latest_2 : decode prog_3_method_5_code 2 = .ok (.iconst 0, 1) := by decide +kernel
theorem d_Ro_latest_3 : decode prog_3_method_5_code 3 = .ok (.istore_n 3, 1) := by decide +kernel
theorem d_Ro_latest_4 : decode prog_3_method_5_code 4 = .ok (.iload_n 3, 1) := by decide +kernel
theorem d_Ro_latest_5 : decode prog_3_method_5_code 5 = .ok (.aload_n 0, 1) := by decide +kernel
theorem d_Ro_latest_6 : decode prog_3_method_5_code 6 = .ok (.getfield 9, 3) := by decide +kernel
theorem d_Ro_latest_9 : decode prog_3_method_5_code 9 = .ok (.if_icmp .ge 41, 3) := by decide +kernel
theorem d_Ro_latest_12 : decode prog_3_method_5_code 12 = .ok (.aload_n 0, 1) := by decide +kernel
theorem d_Ro_latest_13 : decode prog_3_method_5_code 13 = .ok (.getfield 21, 3) := by decide +kernel
theorem d_Ro_latest_16 : decode prog_3_method_5_code 16 = .ok (.iload_n 3, 1) := by decide +kernel
theorem d_Ro_latest_17 : decode prog_3_method_5_code 17 = .ok (.iaload, 1) := by decide +kernel
theorem d_Ro_latest_18 : decode prog_3_method_5_code 18 = .ok (.iload_n 1, 1) := by decide +kernel
theorem d_Ro_latest_19 : decode prog_3_method_5_code 19 = .ok (.if_icmp .gt 25, 3) := by decide +kernel
theorem d_Ro_latest_22 : decode prog_3_method_5_code 22 = .ok (.iload_n 2, 1) := by decide +kernel
theorem d_Ro_latest_23 : decode prog_3_method_5_code 23 = .ok (.iconst (-1), 1) := by decide +kernel
theorem d_Ro_latest_24 : decode prog_3_method_5_code 24 = .ok (.if_icmp .eq 18, 3) := by decide +kernel
theorem d_Ro_latest_27 : decode prog_3_method_5_code 27 = .ok (.aload_n 0, 1) := by decide +kernel
theorem d_Ro_latest_28 : decode prog_3_method_5_code 28 = .ok (.getfield 21, 3) := by decide +kernel
theorem d_Ro_latest_31 : decode prog_3_method_5_code 31 = .ok (.iload_n 3, 1) := by decide +kernel
theorem d_Ro_latest_32 : decode prog_3_method_5_code 32 = .ok (.iaload, 1) := by decide +kernel
theorem d_Ro_latest_33 : decode prog_3_method_5_code 33 = .ok (.aload_n 0, 1) := by decide +kernel
theorem d_Ro_latest_34 : decode prog_3_method_5_code 34 = .ok (.getfield 21, 3) := by decide +kernel
theorem d_Ro_latest_37 : decode prog_3_method_5_code 37 = .ok (.iload_n 2, 1) := by decide +kernel
theorem d_Ro_latest_38 : decode prog_3_method_5_code 38 = .ok (.iaload, 1) := by decide +kernel
theorem d_Ro_latest_39 : decode prog_3_method_5_code 39 = .ok (.if_icmp .le 5, 3) := by decide +kernel
theorem d_Ro_latest_42 : decode prog_3_method_5_code 42 = .ok (.iload_n 3, 1) := by decide +kernel
theorem d_Ro_latest_43 : decode prog_3_method_5_code 43 = .ok (.istore_n 2, 1) := by decide +kernel
theorem d_Ro_latest_44 : decode prog_3_method_5_code 44 = .ok (.iinc 3 1, 3) := by decide +kernel
theorem d_Ro_latest_47 : decode prog_3_method_5_code 47 = .ok (.goto (-43), 3) := by decide +kernel
theorem d_Ro_latest_50 : decode prog_3_method_5_code 50 = .ok (.iload_n 2, 1) := by decide +kernel
theorem d_Ro_latest_51 : decode prog_3_method_5_code 51 = .ok (.ireturn, 1) := by decide +kernel
theorem d_Ro_hasRoomFor_0 : decode prog_3_method_2_code 0 = .ok (.aload_n 0, 1) := by decide +kernel
theorem d_Ro_hasRoomFor_1 : decode prog_3_method_2_code 1 = .ok (.iload_n 1, 1) := by decide +kernel
theorem d_Ro_hasRoomFor_2 : decode prog_3_method_2_code 2 = .ok (.invokevirtual 31, 3) := by decide +kernel
theorem d_Ro_hasRoomFor_5 : decode prog_3_method_2_code 5 = .ok (.aload_n 0, 1) := by decide +kernel
theorem d_Ro_hasRoomFor_6 : decode prog_3_method_2_code 6 = .ok (.getfield 21, 3) := by decide +kernel
theorem d_Ro_hasRoomFor_9 : decode prog_3_method_2_code 9 = .ok (.arraylength, 1) := by decide +kernel
theorem d_Ro_hasRoomFor_10 : decode prog_3_method_2_code 10 = .ok (.if_icmp .ge 7, 3) := by decide +kernel
theorem d_Ro_hasRoomFor_13 : decode prog_3_method_2_code 13 = .ok (.iconst 1, 1) := by decide +kernel
theorem d_Ro_hasRoomFor_14 : decode prog_3_method_2_code 14 = .ok (.goto 4, 3) := by decide +kernel
theorem d_Ro_hasRoomFor_17 : decode prog_3_method_2_code 17 = .ok (.iconst 0, 1) := by decide +kernel
theorem d_Ro_hasRoomFor_18 : decode prog_3_method_2_code 18 = .ok (.ireturn, 1) := by decide +kernel
theorem d_Ro_placeFor_0 : decode prog_3_method_4_code 0 = .ok (.iconst 0, 1) := by decide +kernel
theorem d_Ro_placeFor_1 : decode prog_3_method_4_code 1 = .ok (.istore_n 2, 1) := by decide +kernel
theorem d_Ro_placeFor_2 : decode prog_3_method_4_code 2 = .ok (.iload_n 2, 1) := by decide +kernel
theorem d_Ro_placeFor_3 : decode prog_3_method_4_code 3 = .ok (.aload_n 0, 1) := by decide +kernel
theorem d_Ro_placeFor_4 : decode prog_3_method_4_code 4 = .ok (.getfield 9, 3) := by decide +kernel
theorem d_Ro_placeFor_7 : decode prog_3_method_4_code 7 = .ok (.if_icmp .ge 19, 3) := by decide +kernel
theorem d_Ro_placeFor_10 : decode prog_3_method_4_code 10 = .ok (.aload_n 0, 1) := by decide +kernel
theorem d_Ro_placeFor_11 : decode prog_3_method_4_code 11 = .ok (.getfield 21, 3) := by decide +kernel
theorem d_Ro_placeFor_14 : decode prog_3_method_4_code 14 = .ok (.iload_n 2, 1) := by decide +kernel
theorem d_Ro_placeFor_15 : decode prog_3_method_4_code 15 = .ok (.iaload, 1) := by decide +kernel
theorem d_Ro_placeFor_16 : decode prog_3_method_4_code 16 = .ok (.iload_n 1, 1) := by decide +kernel
theorem d_Ro_placeFor_17 : decode prog_3_method_4_code 17 = .ok (.if_icmp .eq 9, 3) := by decide +kernel
theorem d_Ro_placeFor_20 : decode prog_3_method_4_code 20 = .ok (.iinc 2 1, 3) := by decide +kernel
theorem d_Ro_placeFor_23 : decode prog_3_method_4_code 23 = .ok (.goto (-21), 3) := by decide +kernel
theorem d_Ro_placeFor_26 : decode prog_3_method_4_code 26 = .ok (.iload_n 2, 1) := by decide +kernel
theorem d_Ro_placeFor_27 : decode prog_3_method_4_code 27 = .ok (.ireturn, 1) := by decide +kernel
theorem d_Ro_put_0 : decode prog_3_method_3_code 0 = .ok (.aload_n 0, 1) := by decide +kernel
theorem d_Ro_put_1 : decode prog_3_method_3_code 1 = .ok (.iload_n 1, 1) := by decide +kernel
theorem d_Ro_put_2 : decode prog_3_method_3_code 2 = .ok (.invokevirtual 31, 3) := by decide +kernel
theorem d_Ro_put_5 : decode prog_3_method_3_code 5 = .ok (.istore 4, 2) := by decide +kernel
theorem d_Ro_put_7 : decode prog_3_method_3_code 7 = .ok (.iload 4, 2) := by decide +kernel
theorem d_Ro_put_9 : decode prog_3_method_3_code 9 = .ok (.aload_n 0, 1) := by decide +kernel
theorem d_Ro_put_10 : decode prog_3_method_3_code 10 = .ok (.getfield 21, 3) := by decide +kernel
theorem d_Ro_put_13 : decode prog_3_method_3_code 13 = .ok (.arraylength, 1) := by decide +kernel
theorem d_Ro_put_14 : decode prog_3_method_3_code 14 = .ok (.if_icmp .lt 4, 3) := by decide +kernel
theorem d_Ro_put_17 : decode prog_3_method_3_code 17 = .ok (.return_, 1) := by decide +kernel
theorem d_Ro_put_18 : decode prog_3_method_3_code 18 = .ok (.aload_n 0, 1) := by decide +kernel
theorem d_Ro_put_19 : decode prog_3_method_3_code 19 = .ok (.getfield 21, 3) := by decide +kernel
theorem d_Ro_put_22 : decode prog_3_method_3_code 22 = .ok (.iload 4, 2) := by decide +kernel
theorem d_Ro_put_24 : decode prog_3_method_3_code 24 = .ok (.iload_n 1, 1) := by decide +kernel
theorem d_Ro_put_25 : decode prog_3_method_3_code 25 = .ok (.iastore, 1) := by decide +kernel
theorem d_Ro_put_26 : decode prog_3_method_3_code 26 = .ok (.aload_n 0, 1) := by decide +kernel
theorem d_Ro_put_27 : decode prog_3_method_3_code 27 = .ok (.getfield 25, 3) := by decide +kernel
theorem d_Ro_put_30 : decode prog_3_method_3_code 30 = .ok (.iload 4, 2) := by decide +kernel
theorem d_Ro_put_32 : decode prog_3_method_3_code 32 = .ok (.iload_n 2, 1) := by decide +kernel
theorem d_Ro_put_33 : decode prog_3_method_3_code 33 = .ok (.iastore, 1) := by decide +kernel
theorem d_Ro_put_34 : decode prog_3_method_3_code 34 = .ok (.aload_n 0, 1) := by decide +kernel
theorem d_Ro_put_35 : decode prog_3_method_3_code 35 = .ok (.getfield 28, 3) := by decide +kernel
theorem d_Ro_put_38 : decode prog_3_method_3_code 38 = .ok (.iload 4, 2) := by decide +kernel
theorem d_Ro_put_40 : decode prog_3_method_3_code 40 = .ok (.iload_n 3, 1) := by decide +kernel
theorem d_Ro_put_41 : decode prog_3_method_3_code 41 = .ok (.iastore, 1) := by decide +kernel
theorem d_Ro_put_42 : decode prog_3_method_3_code 42 = .ok (.aload_n 0, 1) := by decide +kernel
theorem d_Ro_put_43 : decode prog_3_method_3_code 43 = .ok (.aload_n 0, 1) := by decide +kernel
theorem d_Ro_put_44 : decode prog_3_method_3_code 44 = .ok (.getfield 9, 3) := by decide +kernel
theorem d_Ro_put_47 : decode prog_3_method_3_code 47 = .ok (.iload 4, 2) := by decide +kernel
theorem d_Ro_put_49 : decode prog_3_method_3_code 49 = .ok (.iconst 1, 1) := by decide +kernel
theorem d_Ro_put_50 : decode prog_3_method_3_code 50 = .ok (.iadd, 1) := by decide +kernel
theorem d_Ro_put_51 : decode prog_3_method_3_code 51 = .ok (.invokestatic 15, 3) := by decide +kernel
theorem d_Ro_put_54 : decode prog_3_method_3_code 54 = .ok (.putfield 9, 3) := by decide +kernel
theorem d_Ro_put_57 : decode prog_3_method_3_code 57 = .ok (.return_, 1) := by decide +kernel
