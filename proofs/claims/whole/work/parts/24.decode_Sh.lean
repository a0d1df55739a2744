theorem d_Sh_isBooked_0 : decode prog_4_method_2_code 0 = .ok (.aload_n 0, 1) := by decide +kernel
theorem d_Sh_isBooked_1 : decode prog_4_method_2_code 1 = .ok (.getfield 9, 3) := by decide +kernel
theorem d_Sh_isBooked_4 : decode prog_4_method_2_code 4 = .ok (.iconst (-1), 1) := by decide +kernel
theorem d_Sh_isBooked_5 : decode prog_4_method_2_code 5 = .ok (.if_icmp .eq 7, 3) := by decide +kernel
theorem d_Sh_isBooked_8 : decode prog_4_method_2_code 8 = .ok (.iconst 1, 1) := by decide +kernel
theorem d_Sh_isBooked_9 : decode prog_4_method_2_code 9 = .ok (.goto 4, 3) := by decide +kernel
theorem d_Sh_isBooked_12 : decode prog_4_method_2_code 12 = .ok (.iconst 0, 1) := by decide +kernel
theorem d_Sh_isBooked_13 : decode prog_4_method_2_code 13 = .ok (.ireturn, 1) := by decide +kernel
theorem d_Sh_isInvoiced_0 : decode prog_4_method_3_code 0 = .ok (.aload_n 0, 1) := by decide +kernel
theorem d_Sh_isInvoiced_1 : decode prog_4_method_3_code 1 = .ok (.getfield 18, 3) := by decide +kernel
theorem d_Sh_isInvoiced_4 : decode prog_4_method_3_code 4 = .ok (.iconst (-1), 1) := by decide +kernel
theorem d_Sh_isInvoiced_5 : decode prog_4_method_3_code 5 = .ok (.if_icmp .eq 7, 3) := by decide +kernel
theorem d_Sh_isInvoiced_8 : decode prog_4_method_3_code 8 = .ok (.iconst 1, 1) := by decide +kernel
theorem d_Sh_isInvoiced_9 : decode prog_4_method_3_code 9 = .ok (.goto 4, 3) := by decide +kernel
theorem d_Sh_isInvoiced_12 : decode prog_4_method_3_code 12 = .ok (.iconst 0, 1) := by decide +kernel
theorem d_Sh_isInvoiced_13 : decode prog_4_method_3_code 13 = .ok (.ireturn, 1) := by decide +kernel
theorem d_Sh_init_0 : decode prog_4_method_1_code 0 = .ok (.aload_n 0, 1) := by decide +kernel
theorem d_Sh_init_1 : decode prog_4_method_1_code 1 = .ok (.invokespecial 3, 3) := by decide +kernel
theorem d_Sh_init_4 : decode prog_4_method_1_code 4 = .ok (.aload_n 0, 1) := by decide +kernel
theorem d_Sh_init_5 : decode prog_4_method_1_code 5 = .ok (.iconst (-1), 1) := by decide +kernel
theorem d_Sh_init_6 : decode prog_4_method_1_code 6 = .ok (.putfield 9, 3) := by decide +kernel
theorem d_Sh_init_9 : decode prog_4_method_1_code 9 = .ok (.aload_n 0, 1) := by decide +kernel
theorem d_Sh_init_10 : decode prog_4_method_1_code 10 = .ok (.iconst (-1), 1) := by decide +kernel
theorem d_Sh_init_11 : decode prog_4_method_1_code 11 = .ok (.putfield 15, 3) := by decide +kernel
theorem d_Sh_init_14 : decode prog_4_method_1_code 14 = .ok (.aload_n 0, 1) := by decide +kernel
theorem d_Sh_init_15 : decode prog_4_method_1_code 15 = .ok (.iconst (-1), 1) := by decide +kernel
theorem d_Sh_init_16 : decode prog_4_method_1_code 16 = .ok (.putfield 18, 3) := by decide +kernel
theorem d_Sh_init_19 : decode prog_4_method_1_code 19 = .ok (.aload_n 0, 1) := by decide +kernel
theorem d_Sh_init_20 : decode prog_4_method_1_code 20 = .ok (.iload_n 1, 1) := by decide +kernel
theorem d_Sh_init_21 : decode prog_4_method_1_code 21 = .ok (.putfield 21, 3) := by decide +kernel
theorem d_Sh_init_24 : decode prog_4_method_1_code 24 = .ok (.aload_n 0, 1) := by decide +kernel
theorem d_Sh_init_25 : decode prog_4_method_1_code 25 = .ok (.iload_n 2, 1) := by decide +kernel
theorem d_Sh_init_26 : decode prog_4_method_1_code 26 = .ok (.putfield 24, 3) := by decide +kernel
theorem d_Sh_init_29 : decode prog_4_method_1_code 29 = .ok (.aload_n 0, 1) := by decide +kernel
theorem d_Sh_init_30 : decode prog_4_method_1_code 30 = .ok (.iload_n 3, 1) := by decide +kernel
theorem d_Sh_init_31 : decode prog_4_method_1_code 31 = .ok (.putfield 27, 3) := by decide +kernel
theorem d_Sh_init_34 : decode prog_4_method_1_code 34 = .ok (.return_, 1) := by decide +kernel
