theorem d_Nets_init_0 : decode prog_6_method_1_code 0 = .ok (.aload_n 0, 1) := by decide +kernel
theorem d_Nets_init_1 : decode prog_6_method_1_code 1 = .ok (.invokespecial 3, 3) := by decide +kernel
theorem d_Nets_init_4 : decode prog_6_method_1_code 4 = .ok (.aload_n 0, 1) := by decide +kernel
theorem d_Nets_init_5 : decode prog_6_method_1_code 5 = .ok (.bipush 80, 2) := by decide +kernel
theorem d_Nets_init_7 : decode prog_6_method_1_code 7 = .ok (.newarray .int, 2) := by decide +kernel
theorem d_Nets_init_9 : decode prog_6_method_1_code 9 = .ok (.putfield 9, 3) := by decide +kernel
theorem d_Nets_init_12 : decode prog_6_method_1_code 12 = .ok (.aload_n 0, 1) := by decide +kernel
theorem d_Nets_init_13 : decode prog_6_method_1_code 13 = .ok (.bipush 80, 2) := by decide +kernel
theorem d_Nets_init_15 : decode prog_6_method_1_code 15 = .ok (.newarray .int, 2) := by decide +kernel
theorem d_Nets_init_17 : decode prog_6_method_1_code 17 = .ok (.putfield 15, 3) := by decide +kernel
theorem d_Nets_init_20 : decode prog_6_method_1_code 20 = .ok (.aload_n 0, 1) := by decide +kernel
theorem d_Nets_init_21 : decode prog_6_method_1_code 21 = .ok (.bipush 80, 2) := by decide +kernel
theorem d_Nets_init_23 : decode prog_6_method_1_code 23 = .ok (.newarray .int, 2) := by decide +kernel
theorem d_Nets_init_25 : decode prog_6_method_1_code 25 = .ok (.putfield 18, 3) := by decide +kernel
theorem d_Nets_init_28 : decode prog_6_method_1_code 28 = .ok (.aload_n 0, 1) := by decide +kernel
theorem d_Nets_init_29 : decode prog_6_method_1_code 29 = .ok (.bipush 80, 2) := by decide +kernel
theorem d_Nets_init_31 : decode prog_6_method_1_code 31 = .ok (.newarray .int, 2) := by decide +kernel
theorem d_Nets_init_33 : decode prog_6_method_1_code 33 = .ok (.putfield 21, 3) := by decide +kernel
theorem d_Nets_init_36 : decode prog_6_method_1_code 36 = .ok (.aload_n 0, 1) := by decide +kernel
theorem d_Nets_init_37 : decode prog_6_method_1_code 37 = .ok (.bipush 40, 2) := by decide +kernel
theorem d_Nets_init_39 : decode prog_6_method_1_code 39 = .ok (.putfield 24, 3) := by decide +kernel
theorem d_Nets_init_42 : decode prog_6_method_1_code 42 = .ok (.aload_n 0, 1) := by decide +kernel
theorem d_Nets_init_43 : decode prog_6_method_1_code 43 = .ok (.getfield 9, 3) := by decide +kernel
theorem d_Nets_init_46 : decode prog_6_method_1_code 46 = .ok (.iconst 2, 1) := by decide +kernel
theorem d_Nets_init_47 : decode prog_6_method_1_code 47 = .ok (.invokestatic 28, 3) := by decide +kernel
theorem d_Nets_init_50 : decode prog_6_method_1_code 50 = .ok (.aload_n 0, 1) := by decide +kernel
theorem d_Nets_init_51 : decode prog_6_method_1_code 51 = .ok (.getfield 18, 3) := by decide +kernel
theorem d_Nets_init_54 : decode prog_6_method_1_code 54 = .ok (.iconst (-1), 1) := by decide +kernel
theorem d_Nets_init_55 : decode prog_6_method_1_code 55 = .ok (.invokestatic 28, 3) := by decide +kernel
theorem d_Nets_init_58 : decode prog_6_method_1_code 58 = .ok (.return_, 1) := by decide +kernel
theorem d_Nets_beginSettling_0 : decode prog_6_method_2_code 0 = .ok (.iconst 0, 1) := by decide +kernel
theorem d_Nets_beginSettling_1 : decode prog_6_method_2_code 1 = .ok (.istore_n 1, 1) := by decide +kernel
theorem d_Nets_beginSettling_2 : decode prog_6_method_2_code 2 = .ok (.iload_n 1, 1) := by decide +kernel
theorem d_Nets_beginSettling_3 : decode prog_6_method_2_code 3 = .ok (.aload_n 0, 1) := by decide +kernel
theorem d_Nets_beginSettling_4 : decode prog_6_method_2_code 4 = .ok (.getfield 24, 3) := by decide +kernel
theorem d_Nets_beginSettling_7 : decode prog_6_method_2_code 7 = .ok (.if_icmp .ge 35, 3) := by decide +kernel
theorem d_Nets_beginSettling_10 : decode prog_6_method_2_code 10 = .ok (.aload_n 0, 1) := by decide +kernel
theorem d_Nets_beginSettling_11 : decode prog_6_method_2_code 11 = .ok (.getfield 15, 3) := by decide +kernel
theorem d_Nets_beginSettling_14 : decode prog_6_method_2_code 14 = .ok (.iload_n 1, 1) := by decide +kernel
theorem d_Nets_beginSettling_15 : decode prog_6_method_2_code 15 = .ok (.aload_n 0, 1) := by decide +kernel
theorem d_Nets_beginSettling_16 : decode prog_6_method_2_code 16 = .ok (.getfield 18, 3) := by decide +kernel
theorem d_Nets_beginSettling_19 : decode prog_6_method_2_code 19 = .ok (.iload_n 1, 1) := by decide +kernel
theorem d_Nets_beginSettling_20 : decode prog_6_method_2_code 20 = .ok (.iaload, 1) := by decide +kernel
theorem d_Nets_beginSettling_21 : decode prog_6_method_2_code 21 = .ok (.iconst (-1), 1) := by decide +kernel
theorem d_Nets_beginSettling_22 : decode prog_6_method_2_code 22 = .ok (.if_icmp .ne 7, 3) := by decide +kernel
theorem d_Nets_beginSettling_25 : decode prog_6_method_2_code 25 = .ok (.iconst 3, 1) := by decide +kernel
theorem d_Nets_beginSettling_26 : decode prog_6_method_2_code 26 = .ok (.goto 9, 3) := by decide +kernel
theorem d_Nets_beginSettling_29 : decode prog_6_method_2_code 29 = .ok (.aload_n 0, 1) := by decide +kernel
theorem d_Nets_beginSettling_30 : decode prog_6_method_2_code 30 = .ok (.getfield 18, 3) := by decide +kernel
theorem d_Nets_beginSettling_33 : decode prog_6_method_2_code 33 = .ok (.iload_n 1, 1) := by decide +kernel
theorem d_Nets_beginSettling_34 : decode prog_6_method_2_code 34 = .ok (.iaload, 1) := by decide +kernel
theorem d_Nets_beginSettling_35 : decode prog_6_method_2_code 35 = .ok (.iastore, 1) := by decide +kernel
theorem d_Nets_beginSettling_36 : decode prog_6_method_2_code 36 = .ok (.iinc 1 1, 3) := by decide +kernel
theorem d_Nets_beginSettling_39 : decode prog_6_method_2_code 39 = .ok (.goto (-37), 3) := by decide +kernel
theorem d_Nets_beginSettling_42 : decode prog_6_method_2_code 42 = .ok (.return_, 1) := by decide +kernel
theorem d_Nets_drive_0 : decode prog_6_method_3_code 0 = .ok (.aload_n 0, 1) := by decide +kernel
theorem d_Nets_drive_1 : decode prog_6_method_3_code 1 = .ok (.getfield 18, 3) := by decide +kernel
theorem d_Nets_drive_4 : decode prog_6_method_3_code 4 = .ok (.iload_n 1, 1) := by decide +kernel
theorem d_Nets_drive_5 : decode prog_6_method_3_code 5 = .ok (.iaload, 1) := by decide +kernel
theorem d_Nets_drive_6 : decode prog_6_method_3_code 6 = .ok (.iconst (-1), 1) := by decide +kernel
theorem d_Nets_drive_7 : decode prog_6_method_3_code 7 = .ok (.if_icmp .ne 19, 3) := by decide +kernel
theorem d_Nets_drive_10 : decode prog_6_method_3_code 10 = .ok (.aload_n 0, 1) := by decide +kernel
theorem d_Nets_drive_11 : decode prog_6_method_3_code 11 = .ok (.getfield 15, 3) := by decide +kernel
theorem d_Nets_drive_14 : decode prog_6_method_3_code 14 = .ok (.iload_n 1, 1) := by decide +kernel
theorem d_Nets_drive_15 : decode prog_6_method_3_code 15 = .ok (.aload_n 0, 1) := by decide +kernel
theorem d_Nets_drive_16 : decode prog_6_method_3_code 16 = .ok (.getfield 15, 3) := by decide +kernel
theorem d_Nets_drive_19 : decode prog_6_method_3_code 19 = .ok (.iload_n 1, 1) := by decide +kernel
theorem d_Nets_drive_20 : decode prog_6_method_3_code 20 = .ok (.iaload, 1) := by decide +kernel
theorem d_Nets_drive_21 : decode prog_6_method_3_code 21 = .ok (.iload_n 2, 1) := by decide +kernel
theorem d_Nets_drive_22 : decode prog_6_method_3_code 22 = .ok (.invokestatic 34, 3) := by decide +kernel
theorem d_Nets_drive_25 : decode prog_6_method_3_code 25 = .ok (.iastore, 1) := by decide +kernel
theorem d_Nets_drive_26 : decode prog_6_method_3_code 26 = .ok (.return_, 1) := by decide +kernel
theorem d_Nets_endSettling_0 : decode prog_6_method_4_code 0 = .ok (.iconst 0, 1) := by decide +kernel
theorem d_Nets_endSettling_1 : decode prog_6_method_4_code 1 = .ok (.istore_n 1, 1) := by decide +kernel
theorem d_Nets_endSettling_2 : decode prog_6_method_4_code 2 = .ok (.iload_n 1, 1) := by decide +kernel
theorem d_Nets_endSettling_3 : decode prog_6_method_4_code 3 = .ok (.aload_n 0, 1) := by decide +kernel
theorem d_Nets_endSettling_4 : decode prog_6_method_4_code 4 = .ok (.getfield 24, 3) := by decide +kernel
theorem d_Nets_endSettling_7 : decode prog_6_method_4_code 7 = .ok (.if_icmp .ge 49, 3) := by decide +kernel
theorem d_Nets_endSettling_10 : decode prog_6_method_4_code 10 = .ok (.aload_n 0, 1) := by decide +kernel
theorem d_Nets_endSettling_11 : decode prog_6_method_4_code 11 = .ok (.getfield 9, 3) := by decide +kernel
theorem d_Nets_endSettling_14 : decode prog_6_method_4_code 14 = .ok (.iload_n 1, 1) := by decide +kernel
theorem d_Nets_endSettling_15 : decode prog_6_method_4_code 15 = .ok (.iaload, 1) := by decide +kernel
theorem d_Nets_endSettling_16 : decode prog_6_method_4_code 16 = .ok (.aload_n 0, 1) := by decide +kernel
theorem d_Nets_endSettling_17 : decode prog_6_method_4_code 17 = .ok (.getfield 15, 3) := by decide +kernel
theorem d_Nets_endSettling_20 : decode prog_6_method_4_code 20 = .ok (.iload_n 1, 1) := by decide +kernel
theorem d_Nets_endSettling_21 : decode prog_6_method_4_code 21 = .ok (.iaload, 1) := by decide +kernel
theorem d_Nets_endSettling_22 : decode prog_6_method_4_code 22 = .ok (.invokestatic 40, 3) := by decide +kernel
theorem d_Nets_endSettling_25 : decode prog_6_method_4_code 25 = .ok (.ifCond .eq 13, 3) := by decide +kernel
theorem d_Nets_endSettling_28 : decode prog_6_method_4_code 28 = .ok (.aload_n 0, 1) := by decide +kernel
theorem d_Nets_endSettling_29 : decode prog_6_method_4_code 29 = .ok (.getfield 21, 3) := by decide +kernel
theorem d_Nets_endSettling_32 : decode prog_6_method_4_code 32 = .ok (.iload_n 1, 1) := by decide +kernel
theorem d_Nets_endSettling_33 : decode prog_6_method_4_code 33 = .ok (.dup2, 1) := by decide +kernel
theorem d_Nets_endSettling_34 : decode prog_6_method_4_code 34 = .ok (.iaload, 1) := by decide +kernel
theorem d_Nets_endSettling_35 : decode prog_6_method_4_code 35 = .ok (.iconst 1, 1) := by decide +kernel
theorem d_Nets_endSettling_36 : decode prog_6_method_4_code 36 = .ok (.iadd, 1) := by decide +kernel
theorem d_Nets_endSettling_37 : decode prog_6_method_4_code 37 = .ok (.iastore, 1) := by decide +kernel
theorem d_Nets_endSettling_38 : decode prog_6_method_4_code 38 = .ok (.aload_n 0, 1) := by decide +kernel
theorem d_Nets_endSettling_39 : decode prog_6_method_4_code 39 = .ok (.getfield 9, 3) := by decide +kernel
theorem d_Nets_endSettling_42 : decode prog_6_method_4_code 42 = .ok (.iload_n 1, 1) := by decide +kernel
theorem d_Nets_endSettling_43 : decode prog_6_method_4_code 43 = .ok (.aload_n 0, 1) := by decide +kernel
theorem d_Nets_endSettling_44 : decode prog_6_method_4_code 44 = .ok (.getfield 15, 3) := by decide +kernel
theorem d_Nets_endSettling_47 : decode prog_6_method_4_code 47 = .ok (.iload_n 1, 1) := by decide +kernel
theorem d_Nets_endSettling_48 : decode prog_6_method_4_code 48 = .ok (.iaload, 1) := by decide +kernel
theorem d_Nets_endSettling_49 : decode prog_6_method_4_code 49 = .ok (.iastore, 1) := by decide +kernel
theorem d_Nets_endSettling_50 : decode prog_6_method_4_code 50 = .ok (.iinc 1 1, 3) := by decide +kernel
theorem d_Nets_endSettling_53 : decode prog_6_method_4_code 53 = .ok (.goto (-51), 3) := by decide +kernel
theorem d_Nets_endSettling_56 : decode prog_6_method_4_code 56 = .ok (.return_, 1) := by decide +kernel
theorem d_Nets_withValue_0 : decode prog_6_method_5_code 0 = .ok (.iconst 0, 1) := by decide +kernel
theorem d_Nets_withValue_1 : decode prog_6_method_5_code 1 = .ok (.istore_n 2, 1) := by decide +kernel
theorem d_Nets_withValue_2 : decode prog_6_method_5_code 2 = .ok (.iconst 0, 1) := by decide +kernel
theorem d_Nets_withValue_3 : decode prog_6_method_5_code 3 = .ok (.istore_n 3, 1) := by decide +kernel
theorem d_Nets_withValue_4 : decode prog_6_method_5_code 4 = .ok (.iload_n 3, 1) := by decide +kernel
theorem d_Nets_withValue_5 : decode prog_6_method_5_code 5 = .ok (.aload_n 0, 1) := by decide +kernel
theorem d_Nets_withValue_6 : decode prog_6_method_5_code 6 = .ok (.getfield 24, 3) := by decide +kernel
theorem d_Nets_withValue_9 : decode prog_6_method_5_code 9 = .ok (.if_icmp .ge 22, 3) := by decide +kernel
theorem d_Nets_withValue_12 : decode prog_6_method_5_code 12 = .ok (.aload_n 0, 1) := by decide +kernel
theorem d_Nets_withValue_13 : decode prog_6_method_5_code 13 = .ok (.getfield 9, 3) := by decide +kernel
theorem d_Nets_withValue_16 : decode prog_6_method_5_code 16 = .ok (.iload_n 3, 1) := by decide +kernel
theorem d_Nets_withValue_17 : decode prog_6_method_5_code 17 = .ok (.iaload, 1) := by decide +kernel
theorem d_Nets_withValue_18 : decode prog_6_method_5_code 18 = .ok (.iload_n 1, 1) := by decide +kernel
theorem d_Nets_withValue_19 : decode prog_6_method_5_code 19 = .ok (.if_icmp .ne 6, 3) := by decide +kernel
theorem d_Nets_withValue_22 : decode prog_6_method_5_code 22 = .ok (.iinc 2 1, 3) := by decide +kernel
theorem d_Nets_withValue_25 : decode prog_6_method_5_code 25 = .ok (.iinc 3 1, 3) := by decide +kernel
theorem d_Nets_withValue_28 : decode prog_6_method_5_code 28 = .ok (.goto (-24), 3) := by decide +kernel
theorem d_Nets_withValue_31 : decode prog_6_method_5_code 31 = .ok (.iload_n 2, 1) := by decide +kernel
theorem d_Nets_withValue_32 : decode prog_6_method_5_code 32 = .ok (.ireturn, 1) := by decide +kernel
theorem d_Nets_allTurns_0 : decode prog_6_method_6_code 0 = .ok (.iconst 0, 1) := by decide +kernel
theorem d_Nets_allTurns_1 : decode prog_6_method_6_code 1 = .ok (.istore_n 1, 1) := by decide +kernel
theorem d_Nets_allTurns_2 : decode prog_6_method_6_code 2 = .ok (.iconst 0, 1) := by decide +kernel
theorem d_Nets_allTurns_3 : decode prog_6_method_6_code 3 = .ok (.istore_n 2, 1) := by decide +kernel
theorem d_Nets_allTurns_4 : decode prog_6_method_6_code 4 = .ok (.iload_n 2, 1) := by decide +kernel
theorem d_Nets_allTurns_5 : decode prog_6_method_6_code 5 = .ok (.aload_n 0, 1) := by decide +kernel
theorem d_Nets_allTurns_6 : decode prog_6_method_6_code 6 = .ok (.getfield 24, 3) := by decide +kernel
theorem d_Nets_allTurns_9 : decode prog_6_method_6_code 9 = .ok (.if_icmp .ge 18, 3) := by decide +kernel
theorem d_Nets_allTurns_12 : decode prog_6_method_6_code 12 = .ok (.iload_n 1, 1) := by decide +kernel
theorem d_Nets_allTurns_13 : decode prog_6_method_6_code 13 = .ok (.aload_n 0, 1) := by decide +kernel
theorem d_Nets_allTurns_14 : decode prog_6_method_6_code 14 = .ok (.getfield 21, 3) := by decide +kernel
theorem d_Nets_allTurns_17 : decode prog_6_method_6_code 17 = .ok (.iload_n 2, 1) := by decide +kernel
theorem d_Nets_allTurns_18 : decode prog_6_method_6_code 18 = .ok (.iaload, 1) := by decide +kernel
theorem d_Nets_allTurns_19 : decode prog_6_method_6_code 19 = .ok (.iadd, 1) := by decide +kernel
theorem d_Nets_allTurns_20 : decode prog_6_method_6_code 20 = .ok (.istore_n 1, 1) := by decide +kernel
theorem d_Nets_allTurns_21 : decode prog_6_method_6_code 21 = .ok (.iinc 2 1, 3) := by decide +kernel
theorem d_Nets_allTurns_24 : decode prog_6_method_6_code 24 = .ok (.goto (-20), 3) := by decide +kernel
theorem d_Nets_allTurns_27 : decode prog_6_method_6_code 27 = .ok (.iload_n 1, 1) := by decide +kernel
theorem d_Nets_allTurns_28 : decode prog_6_method_6_code 28 = .ok (.ireturn, 1) := by decide +kernel
theorem d_Nets_forget_0 : decode prog_6_method_7_code 0 = .ok (.aload_n 0, 1) := by decide +kernel
theorem d_Nets_forget_1 : decode prog_6_method_7_code 1 = .ok (.getfield 9, 3) := by decide +kernel
theorem d_Nets_forget_4 : decode prog_6_method_7_code 4 = .ok (.iconst 2, 1) := by decide +kernel
theorem d_Nets_forget_5 : decode prog_6_method_7_code 5 = .ok (.invokestatic 28, 3) := by decide +kernel
theorem d_Nets_forget_8 : decode prog_6_method_7_code 8 = .ok (.aload_n 0, 1) := by decide +kernel
theorem d_Nets_forget_9 : decode prog_6_method_7_code 9 = .ok (.getfield 18, 3) := by decide +kernel
theorem d_Nets_forget_12 : decode prog_6_method_7_code 12 = .ok (.iconst (-1), 1) := by decide +kernel
theorem d_Nets_forget_13 : decode prog_6_method_7_code 13 = .ok (.invokestatic 28, 3) := by decide +kernel
theorem d_Nets_forget_16 : decode prog_6_method_7_code 16 = .ok (.aload_n 0, 1) := by decide +kernel
theorem d_Nets_forget_17 : decode prog_6_method_7_code 17 = .ok (.getfield 21, 3) := by decide +kernel
theorem d_Nets_forget_20 : decode prog_6_method_7_code 20 = .ok (.iconst 0, 1) := by decide +kernel
theorem d_Nets_forget_21 : decode prog_6_method_7_code 21 = .ok (.invokestatic 28, 3) := by decide +kernel
theorem d_Nets_forget_24 : decode prog_6_method_7_code 24 = .ok (.return_, 1) := by decide +kernel
