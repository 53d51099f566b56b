theorem d_Levels_init_0 : decode prog_4_method_1_code 0 = .ok (.aload_n 0, 1) := by decide +kernel
theorem d_Levels_init_1 : decode prog_4_method_1_code 1 = .ok (.invokespecial 3, 3) := by decide +kernel
theorem d_Levels_init_4 : decode prog_4_method_1_code 4 = .ok (.aload_n 0, 1) := by decide +kernel
theorem d_Levels_init_5 : decode prog_4_method_1_code 5 = .ok (.bipush 80, 2) := by decide +kernel
theorem d_Levels_init_7 : decode prog_4_method_1_code 7 = .ok (.newarray .int, 2) := by decide +kernel
theorem d_Levels_init_9 : decode prog_4_method_1_code 9 = .ok (.putfield 9, 3) := by decide +kernel
theorem d_Levels_init_12 : decode prog_4_method_1_code 12 = .ok (.aload_n 0, 1) := by decide +kernel
theorem d_Levels_init_13 : decode prog_4_method_1_code 13 = .ok (.bipush 60, 2) := by decide +kernel
theorem d_Levels_init_15 : decode prog_4_method_1_code 15 = .ok (.newarray .int, 2) := by decide +kernel
theorem d_Levels_init_17 : decode prog_4_method_1_code 17 = .ok (.putfield 15, 3) := by decide +kernel
theorem d_Levels_init_20 : decode prog_4_method_1_code 20 = .ok (.aload_n 0, 1) := by decide +kernel
theorem d_Levels_init_21 : decode prog_4_method_1_code 21 = .ok (.iconst 0, 1) := by decide +kernel
theorem d_Levels_init_22 : decode prog_4_method_1_code 22 = .ok (.putfield 18, 3) := by decide +kernel
theorem d_Levels_init_25 : decode prog_4_method_1_code 25 = .ok (.aload_n 0, 1) := by decide +kernel
theorem d_Levels_init_26 : decode prog_4_method_1_code 26 = .ok (.bipush 80, 2) := by decide +kernel
theorem d_Levels_init_28 : decode prog_4_method_1_code 28 = .ok (.newarray .int, 2) := by decide +kernel
theorem d_Levels_init_30 : decode prog_4_method_1_code 30 = .ok (.putfield 22, 3) := by decide +kernel
theorem d_Levels_init_33 : decode prog_4_method_1_code 33 = .ok (.aload_n 0, 1) := by decide +kernel
theorem d_Levels_init_34 : decode prog_4_method_1_code 34 = .ok (.bipush 60, 2) := by decide +kernel
theorem d_Levels_init_36 : decode prog_4_method_1_code 36 = .ok (.newarray .boolean, 2) := by decide +kernel
theorem d_Levels_init_38 : decode prog_4_method_1_code 38 = .ok (.putfield 25, 3) := by decide +kernel
theorem d_Levels_init_41 : decode prog_4_method_1_code 41 = .ok (.aload_n 0, 1) := by decide +kernel
theorem d_Levels_init_42 : decode prog_4_method_1_code 42 = .ok (.iconst 0, 1) := by decide +kernel
theorem d_Levels_init_43 : decode prog_4_method_1_code 43 = .ok (.putfield 29, 3) := by decide +kernel
theorem d_Levels_init_46 : decode prog_4_method_1_code 46 = .ok (.return_, 1) := by decide +kernel
theorem d_Levels_rank_0 : decode prog_4_method_2_code 0 = .ok (.aload_n 0, 1) := by decide +kernel
theorem d_Levels_rank_1 : decode prog_4_method_2_code 1 = .ok (.aload_n 1, 1) := by decide +kernel
theorem d_Levels_rank_2 : decode prog_4_method_2_code 2 = .ok (.iload_n 2, 1) := by decide +kernel
theorem d_Levels_rank_3 : decode prog_4_method_2_code 3 = .ok (.invokevirtual 32, 3) := by decide +kernel
theorem d_Levels_rank_6 : decode prog_4_method_2_code 6 = .ok (.iconst 1, 1) := by decide +kernel
theorem d_Levels_rank_7 : decode prog_4_method_2_code 7 = .ok (.istore_n 3, 1) := by decide +kernel
theorem d_Levels_rank_8 : decode prog_4_method_2_code 8 = .ok (.iload_n 3, 1) := by decide +kernel
theorem d_Levels_rank_9 : decode prog_4_method_2_code 9 = .ok (.bipush 30, 2) := by decide +kernel
theorem d_Levels_rank_11 : decode prog_4_method_2_code 11 = .ok (.if_icmp .gt 15, 3) := by decide +kernel
theorem d_Levels_rank_14 : decode prog_4_method_2_code 14 = .ok (.aload_n 0, 1) := by decide +kernel
theorem d_Levels_rank_15 : decode prog_4_method_2_code 15 = .ok (.aload_n 1, 1) := by decide +kernel
theorem d_Levels_rank_16 : decode prog_4_method_2_code 16 = .ok (.iload_n 3, 1) := by decide +kernel
theorem d_Levels_rank_17 : decode prog_4_method_2_code 17 = .ok (.invokevirtual 36, 3) := by decide +kernel
theorem d_Levels_rank_20 : decode prog_4_method_2_code 20 = .ok (.iinc 3 1, 3) := by decide +kernel
theorem d_Levels_rank_23 : decode prog_4_method_2_code 23 = .ok (.goto (-15), 3) := by decide +kernel
theorem d_Levels_rank_26 : decode prog_4_method_2_code 26 = .ok (.aload_n 0, 1) := by decide +kernel
theorem d_Levels_rank_27 : decode prog_4_method_2_code 27 = .ok (.getfield 29, 3) := by decide +kernel
theorem d_Levels_rank_30 : decode prog_4_method_2_code 30 = .ok (.aload_n 1, 1) := by decide +kernel
theorem d_Levels_rank_31 : decode prog_4_method_2_code 31 = .ok (.getfield 39, 3) := by decide +kernel
theorem d_Levels_rank_34 : decode prog_4_method_2_code 34 = .ok (.if_icmp .ne 7, 3) := by decide +kernel
theorem d_Levels_rank_37 : decode prog_4_method_2_code 37 = .ok (.iconst 1, 1) := by decide +kernel
theorem d_Levels_rank_38 : decode prog_4_method_2_code 38 = .ok (.goto 4, 3) := by decide +kernel
theorem d_Levels_rank_41 : decode prog_4_method_2_code 41 = .ok (.iconst 0, 1) := by decide +kernel
theorem d_Levels_rank_42 : decode prog_4_method_2_code 42 = .ok (.ireturn, 1) := by decide +kernel
theorem d_Levels_begin_0 : decode prog_4_method_3_code 0 = .ok (.aload_n 0, 1) := by decide +kernel
theorem d_Levels_begin_1 : decode prog_4_method_3_code 1 = .ok (.iconst 0, 1) := by decide +kernel
theorem d_Levels_begin_2 : decode prog_4_method_3_code 2 = .ok (.putfield 18, 3) := by decide +kernel
theorem d_Levels_begin_5 : decode prog_4_method_3_code 5 = .ok (.aload_n 0, 1) := by decide +kernel
theorem d_Levels_begin_6 : decode prog_4_method_3_code 6 = .ok (.iconst 0, 1) := by decide +kernel
theorem d_Levels_begin_7 : decode prog_4_method_3_code 7 = .ok (.putfield 29, 3) := by decide +kernel
theorem d_Levels_begin_10 : decode prog_4_method_3_code 10 = .ok (.iconst 0, 1) := by decide +kernel
theorem d_Levels_begin_11 : decode prog_4_method_3_code 11 = .ok (.istore_n 3, 1) := by decide +kernel
theorem d_Levels_begin_12 : decode prog_4_method_3_code 12 = .ok (.iload_n 3, 1) := by decide +kernel
theorem d_Levels_begin_13 : decode prog_4_method_3_code 13 = .ok (.iload_n 2, 1) := by decide +kernel
theorem d_Levels_begin_14 : decode prog_4_method_3_code 14 = .ok (.if_icmp .ge 23, 3) := by decide +kernel
theorem d_Levels_begin_17 : decode prog_4_method_3_code 17 = .ok (.aload_n 0, 1) := by decide +kernel
theorem d_Levels_begin_18 : decode prog_4_method_3_code 18 = .ok (.getfield 9, 3) := by decide +kernel
theorem d_Levels_begin_21 : decode prog_4_method_3_code 21 = .ok (.iload_n 3, 1) := by decide +kernel
theorem d_Levels_begin_22 : decode prog_4_method_3_code 22 = .ok (.iconst 0, 1) := by decide +kernel
theorem d_Levels_begin_23 : decode prog_4_method_3_code 23 = .ok (.iastore, 1) := by decide +kernel
theorem d_Levels_begin_24 : decode prog_4_method_3_code 24 = .ok (.aload_n 0, 1) := by decide +kernel
theorem d_Levels_begin_25 : decode prog_4_method_3_code 25 = .ok (.getfield 22, 3) := by decide +kernel
theorem d_Levels_begin_28 : decode prog_4_method_3_code 28 = .ok (.iload_n 3, 1) := by decide +kernel
theorem d_Levels_begin_29 : decode prog_4_method_3_code 29 = .ok (.iconst 0, 1) := by decide +kernel
theorem d_Levels_begin_30 : decode prog_4_method_3_code 30 = .ok (.iastore, 1) := by decide +kernel
theorem d_Levels_begin_31 : decode prog_4_method_3_code 31 = .ok (.iinc 3 1, 3) := by decide +kernel
theorem d_Levels_begin_34 : decode prog_4_method_3_code 34 = .ok (.goto (-22), 3) := by decide +kernel
theorem d_Levels_begin_37 : decode prog_4_method_3_code 37 = .ok (.iconst 0, 1) := by decide +kernel
theorem d_Levels_begin_38 : decode prog_4_method_3_code 38 = .ok (.istore_n 3, 1) := by decide +kernel
theorem d_Levels_begin_39 : decode prog_4_method_3_code 39 = .ok (.iload_n 3, 1) := by decide +kernel
theorem d_Levels_begin_40 : decode prog_4_method_3_code 40 = .ok (.aload_n 1, 1) := by decide +kernel
theorem d_Levels_begin_41 : decode prog_4_method_3_code 41 = .ok (.getfield 39, 3) := by decide +kernel
theorem d_Levels_begin_44 : decode prog_4_method_3_code 44 = .ok (.if_icmp .ge 44, 3) := by decide +kernel
theorem d_Levels_begin_47 : decode prog_4_method_3_code 47 = .ok (.aload_n 0, 1) := by decide +kernel
theorem d_Levels_begin_48 : decode prog_4_method_3_code 48 = .ok (.getfield 25, 3) := by decide +kernel
theorem d_Levels_begin_51 : decode prog_4_method_3_code 51 = .ok (.iload_n 3, 1) := by decide +kernel
theorem d_Levels_begin_52 : decode prog_4_method_3_code 52 = .ok (.iconst 0, 1) := by decide +kernel
theorem d_Levels_begin_53 : decode prog_4_method_3_code 53 = .ok (.bastore, 1) := by decide +kernel
theorem d_Levels_begin_54 : decode prog_4_method_3_code 54 = .ok (.aload_n 0, 1) := by decide +kernel
theorem d_Levels_begin_55 : decode prog_4_method_3_code 55 = .ok (.getfield 9, 3) := by decide +kernel
theorem d_Levels_begin_58 : decode prog_4_method_3_code 58 = .ok (.aload_n 1, 1) := by decide +kernel
theorem d_Levels_begin_59 : decode prog_4_method_3_code 59 = .ok (.getfield 44, 3) := by decide +kernel
theorem d_Levels_begin_62 : decode prog_4_method_3_code 62 = .ok (.iload_n 3, 1) := by decide +kernel
theorem d_Levels_begin_63 : decode prog_4_method_3_code 63 = .ok (.iaload, 1) := by decide +kernel
theorem d_Levels_begin_64 : decode prog_4_method_3_code 64 = .ok (.bipush 31, 2) := by decide +kernel
theorem d_Levels_begin_66 : decode prog_4_method_3_code 66 = .ok (.iastore, 1) := by decide +kernel
theorem d_Levels_begin_67 : decode prog_4_method_3_code 67 = .ok (.aload_n 0, 1) := by decide +kernel
theorem d_Levels_begin_68 : decode prog_4_method_3_code 68 = .ok (.getfield 22, 3) := by decide +kernel
theorem d_Levels_begin_71 : decode prog_4_method_3_code 71 = .ok (.aload_n 1, 1) := by decide +kernel
theorem d_Levels_begin_72 : decode prog_4_method_3_code 72 = .ok (.getfield 44, 3) := by decide +kernel
theorem d_Levels_begin_75 : decode prog_4_method_3_code 75 = .ok (.iload_n 3, 1) := by decide +kernel
theorem d_Levels_begin_76 : decode prog_4_method_3_code 76 = .ok (.iaload, 1) := by decide +kernel
theorem d_Levels_begin_77 : decode prog_4_method_3_code 77 = .ok (.dup2, 1) := by decide +kernel
theorem d_Levels_begin_78 : decode prog_4_method_3_code 78 = .ok (.iaload, 1) := by decide +kernel
theorem d_Levels_begin_79 : decode prog_4_method_3_code 79 = .ok (.iconst 1, 1) := by decide +kernel
theorem d_Levels_begin_80 : decode prog_4_method_3_code 80 = .ok (.iadd, 1) := by decide +kernel
theorem d_Levels_begin_81 : decode prog_4_method_3_code 81 = .ok (.iastore, 1) := by decide +kernel
theorem d_Levels_begin_82 : decode prog_4_method_3_code 82 = .ok (.iinc 3 1, 3) := by decide +kernel
theorem d_Levels_begin_85 : decode prog_4_method_3_code 85 = .ok (.goto (-46), 3) := by decide +kernel
theorem d_Levels_begin_88 : decode prog_4_method_3_code 88 = .ok (.return_, 1) := by decide +kernel
theorem d_Levels_rankOneLevel_0 : decode prog_4_method_4_code 0 = .ok (.iconst 0, 1) := by decide +kernel
theorem d_Levels_rankOneLevel_1 : decode prog_4_method_4_code 1 = .ok (.istore_n 3, 1) := by decide +kernel
theorem d_Levels_rankOneLevel_2 : decode prog_4_method_4_code 2 = .ok (.iload_n 3, 1) := by decide +kernel
theorem d_Levels_rankOneLevel_3 : decode prog_4_method_4_code 3 = .ok (.aload_n 1, 1) := by decide +kernel
theorem d_Levels_rankOneLevel_4 : decode prog_4_method_4_code 4 = .ok (.getfield 39, 3) := by decide +kernel
theorem d_Levels_rankOneLevel_7 : decode prog_4_method_4_code 7 = .ok (.if_icmp .ge 40, 3) := by decide +kernel
theorem d_Levels_rankOneLevel_10 : decode prog_4_method_4_code 10 = .ok (.aload_n 0, 1) := by decide +kernel
theorem d_Levels_rankOneLevel_11 : decode prog_4_method_4_code 11 = .ok (.getfield 25, 3) := by decide +kernel
theorem d_Levels_rankOneLevel_14 : decode prog_4_method_4_code 14 = .ok (.iload_n 3, 1) := by decide +kernel
theorem d_Levels_rankOneLevel_15 : decode prog_4_method_4_code 15 = .ok (.baload, 1) := by decide +kernel
theorem d_Levels_rankOneLevel_16 : decode prog_4_method_4_code 16 = .ok (.ifCond .ne 25, 3) := by decide +kernel
theorem d_Levels_rankOneLevel_19 : decode prog_4_method_4_code 19 = .ok (.aload_n 0, 1) := by decide +kernel
theorem d_Levels_rankOneLevel_20 : decode prog_4_method_4_code 20 = .ok (.aload_n 1, 1) := by decide +kernel
theorem d_Levels_rankOneLevel_21 : decode prog_4_method_4_code 21 = .ok (.iload_n 3, 1) := by decide +kernel
theorem d_Levels_rankOneLevel_22 : decode prog_4_method_4_code 22 = .ok (.iload_n 2, 1) := by decide +kernel
theorem d_Levels_rankOneLevel_23 : decode prog_4_method_4_code 23 = .ok (.invokevirtual 47, 3) := by decide +kernel
theorem d_Levels_rankOneLevel_26 : decode prog_4_method_4_code 26 = .ok (.ifCond .eq 15, 3) := by decide +kernel
theorem d_Levels_rankOneLevel_29 : decode prog_4_method_4_code 29 = .ok (.aload_n 0, 1) := by decide +kernel
theorem d_Levels_rankOneLevel_30 : decode prog_4_method_4_code 30 = .ok (.iload_n 3, 1) := by decide +kernel
theorem d_Levels_rankOneLevel_31 : decode prog_4_method_4_code 31 = .ok (.aload_n 1, 1) := by decide +kernel
theorem d_Levels_rankOneLevel_32 : decode prog_4_method_4_code 32 = .ok (.getfield 44, 3) := by decide +kernel
theorem d_Levels_rankOneLevel_35 : decode prog_4_method_4_code 35 = .ok (.iload_n 3, 1) := by decide +kernel
theorem d_Levels_rankOneLevel_36 : decode prog_4_method_4_code 36 = .ok (.iaload, 1) := by decide +kernel
theorem d_Levels_rankOneLevel_37 : decode prog_4_method_4_code 37 = .ok (.iload_n 2, 1) := by decide +kernel
theorem d_Levels_rankOneLevel_38 : decode prog_4_method_4_code 38 = .ok (.invokevirtual 51, 3) := by decide +kernel
theorem d_Levels_rankOneLevel_41 : decode prog_4_method_4_code 41 = .ok (.iinc 3 1, 3) := by decide +kernel
theorem d_Levels_rankOneLevel_44 : decode prog_4_method_4_code 44 = .ok (.goto (-42), 3) := by decide +kernel
theorem d_Levels_rankOneLevel_47 : decode prog_4_method_4_code 47 = .ok (.return_, 1) := by decide +kernel
theorem d_Levels_isReady_0 : decode prog_4_method_5_code 0 = .ok (.aload_n 1, 1) := by decide +kernel
theorem d_Levels_isReady_1 : decode prog_4_method_5_code 1 = .ok (.iload_n 2, 1) := by decide +kernel
theorem d_Levels_isReady_2 : decode prog_4_method_5_code 2 = .ok (.invokevirtual 55, 3) := by decide +kernel
theorem d_Levels_isReady_5 : decode prog_4_method_5_code 5 = .ok (.istore 4, 2) := by decide +kernel
theorem d_Levels_isReady_7 : decode prog_4_method_5_code 7 = .ok (.iconst 0, 1) := by decide +kernel
theorem d_Levels_isReady_8 : decode prog_4_method_5_code 8 = .ok (.istore 5, 2) := by decide +kernel
theorem d_Levels_isReady_10 : decode prog_4_method_5_code 10 = .ok (.iload 5, 2) := by decide +kernel
theorem d_Levels_isReady_12 : decode prog_4_method_5_code 12 = .ok (.iload 4, 2) := by decide +kernel
theorem d_Levels_isReady_14 : decode prog_4_method_5_code 14 = .ok (.if_icmp .ge 27, 3) := by decide +kernel
theorem d_Levels_isReady_17 : decode prog_4_method_5_code 17 = .ok (.aload_n 0, 1) := by decide +kernel
theorem d_Levels_isReady_18 : decode prog_4_method_5_code 18 = .ok (.getfield 9, 3) := by decide +kernel
theorem d_Levels_isReady_21 : decode prog_4_method_5_code 21 = .ok (.aload_n 1, 1) := by decide +kernel
theorem d_Levels_isReady_22 : decode prog_4_method_5_code 22 = .ok (.iload_n 2, 1) := by decide +kernel
theorem d_Levels_isReady_23 : decode prog_4_method_5_code 23 = .ok (.iload 5, 2) := by decide +kernel
theorem d_Levels_isReady_25 : decode prog_4_method_5_code 25 = .ok (.invokevirtual 59, 3) := by decide +kernel
theorem d_Levels_isReady_28 : decode prog_4_method_5_code 28 = .ok (.iaload, 1) := by decide +kernel
theorem d_Levels_isReady_29 : decode prog_4_method_5_code 29 = .ok (.iload_n 3, 1) := by decide +kernel
theorem d_Levels_isReady_30 : decode prog_4_method_5_code 30 = .ok (.if_icmp .lt 5, 3) := by decide +kernel
theorem d_Levels_isReady_33 : decode prog_4_method_5_code 33 = .ok (.iconst 0, 1) := by decide +kernel
theorem d_Levels_isReady_34 : decode prog_4_method_5_code 34 = .ok (.ireturn, 1) := by decide +kernel
theorem d_Levels_isReady_35 : decode prog_4_method_5_code 35 = .ok (.iinc 5 1, 3) := by decide +kernel
theorem d_Levels_isReady_38 : decode prog_4_method_5_code 38 = .ok (.goto (-28), 3) := by decide +kernel
theorem d_Levels_isReady_41 : decode prog_4_method_5_code 41 = .ok (.iconst 1, 1) := by decide +kernel
theorem d_Levels_isReady_42 : decode prog_4_method_5_code 42 = .ok (.ireturn, 1) := by decide +kernel
theorem d_Levels_placeNext_0 : decode prog_4_method_6_code 0 = .ok (.aload_n 0, 1) := by decide +kernel
theorem d_Levels_placeNext_1 : decode prog_4_method_6_code 1 = .ok (.getfield 25, 3) := by decide +kernel
theorem d_Levels_placeNext_4 : decode prog_4_method_6_code 4 = .ok (.iload_n 1, 1) := by decide +kernel
theorem d_Levels_placeNext_5 : decode prog_4_method_6_code 5 = .ok (.iconst 1, 1) := by decide +kernel
theorem d_Levels_placeNext_6 : decode prog_4_method_6_code 6 = .ok (.bastore, 1) := by decide +kernel
theorem d_Levels_placeNext_7 : decode prog_4_method_6_code 7 = .ok (.aload_n 0, 1) := by decide +kernel
theorem d_Levels_placeNext_8 : decode prog_4_method_6_code 8 = .ok (.getfield 15, 3) := by decide +kernel
theorem d_Levels_placeNext_11 : decode prog_4_method_6_code 11 = .ok (.aload_n 0, 1) := by decide +kernel
theorem d_Levels_placeNext_12 : decode prog_4_method_6_code 12 = .ok (.getfield 29, 3) := by decide +kernel
theorem d_Levels_placeNext_15 : decode prog_4_method_6_code 15 = .ok (.iload_n 1, 1) := by decide +kernel
theorem d_Levels_placeNext_16 : decode prog_4_method_6_code 16 = .ok (.iastore, 1) := by decide +kernel
theorem d_Levels_placeNext_17 : decode prog_4_method_6_code 17 = .ok (.aload_n 0, 1) := by decide +kernel
theorem d_Levels_placeNext_18 : decode prog_4_method_6_code 18 = .ok (.dup, 1) := by decide +kernel
theorem d_Levels_placeNext_19 : decode prog_4_method_6_code 19 = .ok (.getfield 29, 3) := by decide +kernel
theorem d_Levels_placeNext_22 : decode prog_4_method_6_code 22 = .ok (.iconst 1, 1) := by decide +kernel
theorem d_Levels_placeNext_23 : decode prog_4_method_6_code 23 = .ok (.iadd, 1) := by decide +kernel
theorem d_Levels_placeNext_24 : decode prog_4_method_6_code 24 = .ok (.putfield 29, 3) := by decide +kernel
theorem d_Levels_placeNext_27 : decode prog_4_method_6_code 27 = .ok (.aload_n 0, 1) := by decide +kernel
theorem d_Levels_placeNext_28 : decode prog_4_method_6_code 28 = .ok (.iload_n 3, 1) := by decide +kernel
theorem d_Levels_placeNext_29 : decode prog_4_method_6_code 29 = .ok (.putfield 18, 3) := by decide +kernel
theorem d_Levels_placeNext_32 : decode prog_4_method_6_code 32 = .ok (.aload_n 0, 1) := by decide +kernel
theorem d_Levels_placeNext_33 : decode prog_4_method_6_code 33 = .ok (.getfield 22, 3) := by decide +kernel
theorem d_Levels_placeNext_36 : decode prog_4_method_6_code 36 = .ok (.iload_n 2, 1) := by decide +kernel
theorem d_Levels_placeNext_37 : decode prog_4_method_6_code 37 = .ok (.dup2, 1) := by decide +kernel
theorem d_Levels_placeNext_38 : decode prog_4_method_6_code 38 = .ok (.iaload, 1) := by decide +kernel
theorem d_Levels_placeNext_39 : decode prog_4_method_6_code 39 = .ok (.iconst 1, 1) := by decide +kernel
theorem d_Levels_placeNext_40 : decode prog_4_method_6_code 40 = .ok (.isub, 1) := by decide +kernel
theorem d_Levels_placeNext_41 : decode prog_4_method_6_code 41 = .ok (.iastore, 1) := by decide +kernel
theorem d_Levels_placeNext_42 : decode prog_4_method_6_code 42 = .ok (.aload_n 0, 1) := by decide +kernel
theorem d_Levels_placeNext_43 : decode prog_4_method_6_code 43 = .ok (.getfield 22, 3) := by decide +kernel
theorem d_Levels_placeNext_46 : decode prog_4_method_6_code 46 = .ok (.iload_n 2, 1) := by decide +kernel
theorem d_Levels_placeNext_47 : decode prog_4_method_6_code 47 = .ok (.iaload, 1) := by decide +kernel
theorem d_Levels_placeNext_48 : decode prog_4_method_6_code 48 = .ok (.ifCond .ne 10, 3) := by decide +kernel
theorem d_Levels_placeNext_51 : decode prog_4_method_6_code 51 = .ok (.aload_n 0, 1) := by decide +kernel
theorem d_Levels_placeNext_52 : decode prog_4_method_6_code 52 = .ok (.getfield 9, 3) := by decide +kernel
theorem d_Levels_placeNext_55 : decode prog_4_method_6_code 55 = .ok (.iload_n 2, 1) := by decide +kernel
theorem d_Levels_placeNext_56 : decode prog_4_method_6_code 56 = .ok (.iload_n 3, 1) := by decide +kernel
theorem d_Levels_placeNext_57 : decode prog_4_method_6_code 57 = .ok (.iastore, 1) := by decide +kernel
theorem d_Levels_placeNext_58 : decode prog_4_method_6_code 58 = .ok (.return_, 1) := by decide +kernel
