theorem d_Placement_init_0 : decode prog_7_method_1_code 0 = .ok (.aload_n 0, 1) := by decide +kernel
theorem d_Placement_init_1 : decode prog_7_method_1_code 1 = .ok (.invokespecial 3, 3) := by decide +kernel
theorem d_Placement_init_4 : decode prog_7_method_1_code 4 = .ok (.aload_n 0, 1) := by decide +kernel
theorem d_Placement_init_5 : decode prog_7_method_1_code 5 = .ok (.bipush 10, 2) := by decide +kernel
theorem d_Placement_init_7 : decode prog_7_method_1_code 7 = .ok (.newarray .int, 2) := by decide +kernel
theorem d_Placement_init_9 : decode prog_7_method_1_code 9 = .ok (.putfield 9, 3) := by decide +kernel
theorem d_Placement_init_12 : decode prog_7_method_1_code 12 = .ok (.aload_n 0, 1) := by decide +kernel
theorem d_Placement_init_13 : decode prog_7_method_1_code 13 = .ok (.bipush 10, 2) := by decide +kernel
theorem d_Placement_init_15 : decode prog_7_method_1_code 15 = .ok (.newarray .boolean, 2) := by decide +kernel
theorem d_Placement_init_17 : decode prog_7_method_1_code 17 = .ok (.putfield 15, 3) := by decide +kernel
theorem d_Placement_init_20 : decode prog_7_method_1_code 20 = .ok (.aload_n 0, 1) := by decide +kernel
theorem d_Placement_init_21 : decode prog_7_method_1_code 21 = .ok (.iconst 0, 1) := by decide +kernel
theorem d_Placement_init_22 : decode prog_7_method_1_code 22 = .ok (.putfield 19, 3) := by decide +kernel
theorem d_Placement_init_25 : decode prog_7_method_1_code 25 = .ok (.return_, 1) := by decide +kernel
theorem d_Placement_place_0 : decode prog_7_method_2_code 0 = .ok (.aload_n 0, 1) := by decide +kernel
theorem d_Placement_place_1 : decode prog_7_method_2_code 1 = .ok (.aload_n 1, 1) := by decide +kernel
theorem d_Placement_place_2 : decode prog_7_method_2_code 2 = .ok (.invokevirtual 23, 3) := by decide +kernel
theorem d_Placement_place_5 : decode prog_7_method_2_code 5 = .ok (.aload_n 0, 1) := by decide +kernel
theorem d_Placement_place_6 : decode prog_7_method_2_code 6 = .ok (.getfield 9, 3) := by decide +kernel
theorem d_Placement_place_9 : decode prog_7_method_2_code 9 = .ok (.iconst 0, 1) := by decide +kernel
theorem d_Placement_place_10 : decode prog_7_method_2_code 10 = .ok (.iload_n 2, 1) := by decide +kernel
theorem d_Placement_place_11 : decode prog_7_method_2_code 11 = .ok (.iastore, 1) := by decide +kernel
theorem d_Placement_place_12 : decode prog_7_method_2_code 12 = .ok (.aload_n 0, 1) := by decide +kernel
theorem d_Placement_place_13 : decode prog_7_method_2_code 13 = .ok (.getfield 9, 3) := by decide +kernel
theorem d_Placement_place_16 : decode prog_7_method_2_code 16 = .ok (.iconst 1, 1) := by decide +kernel
theorem d_Placement_place_17 : decode prog_7_method_2_code 17 = .ok (.iload_n 3, 1) := by decide +kernel
theorem d_Placement_place_18 : decode prog_7_method_2_code 18 = .ok (.iastore, 1) := by decide +kernel
theorem d_Placement_place_19 : decode prog_7_method_2_code 19 = .ok (.aload_n 0, 1) := by decide +kernel
theorem d_Placement_place_20 : decode prog_7_method_2_code 20 = .ok (.iload 4, 2) := by decide +kernel
theorem d_Placement_place_22 : decode prog_7_method_2_code 22 = .ok (.putfield 19, 3) := by decide +kernel
theorem d_Placement_place_25 : decode prog_7_method_2_code 25 = .ok (.iconst 2, 1) := by decide +kernel
theorem d_Placement_place_26 : decode prog_7_method_2_code 26 = .ok (.istore 5, 2) := by decide +kernel
theorem d_Placement_place_28 : decode prog_7_method_2_code 28 = .ok (.iload 5, 2) := by decide +kernel
theorem d_Placement_place_30 : decode prog_7_method_2_code 30 = .ok (.bipush 10, 2) := by decide +kernel
theorem d_Placement_place_32 : decode prog_7_method_2_code 32 = .ok (.if_icmp .ge 40, 3) := by decide +kernel
theorem d_Placement_place_35 : decode prog_7_method_2_code 35 = .ok (.aload_n 0, 1) := by decide +kernel
theorem d_Placement_place_36 : decode prog_7_method_2_code 36 = .ok (.getfield 15, 3) := by decide +kernel
theorem d_Placement_place_39 : decode prog_7_method_2_code 39 = .ok (.iload 5, 2) := by decide +kernel
theorem d_Placement_place_41 : decode prog_7_method_2_code 41 = .ok (.baload, 1) := by decide +kernel
theorem d_Placement_place_42 : decode prog_7_method_2_code 42 = .ok (.ifCond .eq 24, 3) := by decide +kernel
theorem d_Placement_place_45 : decode prog_7_method_2_code 45 = .ok (.aload_n 0, 1) := by decide +kernel
theorem d_Placement_place_46 : decode prog_7_method_2_code 46 = .ok (.getfield 9, 3) := by decide +kernel
theorem d_Placement_place_49 : decode prog_7_method_2_code 49 = .ok (.iload 5, 2) := by decide +kernel
theorem d_Placement_place_51 : decode prog_7_method_2_code 51 = .ok (.aload_n 0, 1) := by decide +kernel
theorem d_Placement_place_52 : decode prog_7_method_2_code 52 = .ok (.getfield 19, 3) := by decide +kernel
theorem d_Placement_place_55 : decode prog_7_method_2_code 55 = .ok (.iastore, 1) := by decide +kernel
theorem d_Placement_place_56 : decode prog_7_method_2_code 56 = .ok (.aload_n 0, 1) := by decide +kernel
theorem d_Placement_place_57 : decode prog_7_method_2_code 57 = .ok (.dup, 1) := by decide +kernel
theorem d_Placement_place_58 : decode prog_7_method_2_code 58 = .ok (.getfield 19, 3) := by decide +kernel
theorem d_Placement_place_61 : decode prog_7_method_2_code 61 = .ok (.iconst 1, 1) := by decide +kernel
theorem d_Placement_place_62 : decode prog_7_method_2_code 62 = .ok (.iadd, 1) := by decide +kernel
theorem d_Placement_place_63 : decode prog_7_method_2_code 63 = .ok (.putfield 19, 3) := by decide +kernel
theorem d_Placement_place_66 : decode prog_7_method_2_code 66 = .ok (.iinc 5 1, 3) := by decide +kernel
theorem d_Placement_place_69 : decode prog_7_method_2_code 69 = .ok (.goto (-41), 3) := by decide +kernel
theorem d_Placement_place_72 : decode prog_7_method_2_code 72 = .ok (.return_, 1) := by decide +kernel
theorem d_Placement_findNamed_0 : decode prog_7_method_3_code 0 = .ok (.iconst 0, 1) := by decide +kernel
theorem d_Placement_findNamed_1 : decode prog_7_method_3_code 1 = .ok (.istore_n 2, 1) := by decide +kernel
theorem d_Placement_findNamed_2 : decode prog_7_method_3_code 2 = .ok (.iload_n 2, 1) := by decide +kernel
theorem d_Placement_findNamed_3 : decode prog_7_method_3_code 3 = .ok (.bipush 10, 2) := by decide +kernel
theorem d_Placement_findNamed_5 : decode prog_7_method_3_code 5 = .ok (.if_icmp .ge 16, 3) := by decide +kernel
theorem d_Placement_findNamed_8 : decode prog_7_method_3_code 8 = .ok (.aload_n 0, 1) := by decide +kernel
theorem d_Placement_findNamed_9 : decode prog_7_method_3_code 9 = .ok (.getfield 15, 3) := by decide +kernel
theorem d_Placement_findNamed_12 : decode prog_7_method_3_code 12 = .ok (.iload_n 2, 1) := by decide +kernel
theorem d_Placement_findNamed_13 : decode prog_7_method_3_code 13 = .ok (.iconst 0, 1) := by decide +kernel
theorem d_Placement_findNamed_14 : decode prog_7_method_3_code 14 = .ok (.bastore, 1) := by decide +kernel
theorem d_Placement_findNamed_15 : decode prog_7_method_3_code 15 = .ok (.iinc 2 1, 3) := by decide +kernel
theorem d_Placement_findNamed_18 : decode prog_7_method_3_code 18 = .ok (.goto (-16), 3) := by decide +kernel
theorem d_Placement_findNamed_21 : decode prog_7_method_3_code 21 = .ok (.iconst 0, 1) := by decide +kernel
theorem d_Placement_findNamed_22 : decode prog_7_method_3_code 22 = .ok (.istore_n 2, 1) := by decide +kernel
theorem d_Placement_findNamed_23 : decode prog_7_method_3_code 23 = .ok (.iload_n 2, 1) := by decide +kernel
theorem d_Placement_findNamed_24 : decode prog_7_method_3_code 24 = .ok (.aload_n 1, 1) := by decide +kernel
theorem d_Placement_findNamed_25 : decode prog_7_method_3_code 25 = .ok (.getfield 27, 3) := by decide +kernel
theorem d_Placement_findNamed_28 : decode prog_7_method_3_code 28 = .ok (.if_icmp .ge 55, 3) := by decide +kernel
theorem d_Placement_findNamed_31 : decode prog_7_method_3_code 31 = .ok (.aload_n 0, 1) := by decide +kernel
theorem d_Placement_findNamed_32 : decode prog_7_method_3_code 32 = .ok (.getfield 15, 3) := by decide +kernel
theorem d_Placement_findNamed_35 : decode prog_7_method_3_code 35 = .ok (.aload_n 1, 1) := by decide +kernel
theorem d_Placement_findNamed_36 : decode prog_7_method_3_code 36 = .ok (.getfield 32, 3) := by decide +kernel
theorem d_Placement_findNamed_39 : decode prog_7_method_3_code 39 = .ok (.iload_n 2, 1) := by decide +kernel
theorem d_Placement_findNamed_40 : decode prog_7_method_3_code 40 = .ok (.iaload, 1) := by decide +kernel
theorem d_Placement_findNamed_41 : decode prog_7_method_3_code 41 = .ok (.iconst 1, 1) := by decide +kernel
theorem d_Placement_findNamed_42 : decode prog_7_method_3_code 42 = .ok (.bastore, 1) := by decide +kernel
theorem d_Placement_findNamed_43 : decode prog_7_method_3_code 43 = .ok (.aload_n 1, 1) := by decide +kernel
theorem d_Placement_findNamed_44 : decode prog_7_method_3_code 44 = .ok (.iload_n 2, 1) := by decide +kernel
theorem d_Placement_findNamed_45 : decode prog_7_method_3_code 45 = .ok (.invokevirtual 35, 3) := by decide +kernel
theorem d_Placement_findNamed_48 : decode prog_7_method_3_code 48 = .ok (.istore_n 3, 1) := by decide +kernel
theorem d_Placement_findNamed_49 : decode prog_7_method_3_code 49 = .ok (.iconst 0, 1) := by decide +kernel
theorem d_Placement_findNamed_50 : decode prog_7_method_3_code 50 = .ok (.istore 4, 2) := by decide +kernel
theorem d_Placement_findNamed_52 : decode prog_7_method_3_code 52 = .ok (.iload 4, 2) := by decide +kernel
theorem d_Placement_findNamed_54 : decode prog_7_method_3_code 54 = .ok (.iload_n 3, 1) := by decide +kernel
theorem d_Placement_findNamed_55 : decode prog_7_method_3_code 55 = .ok (.if_icmp .ge 22, 3) := by decide +kernel
theorem d_Placement_findNamed_58 : decode prog_7_method_3_code 58 = .ok (.aload_n 0, 1) := by decide +kernel
theorem d_Placement_findNamed_59 : decode prog_7_method_3_code 59 = .ok (.getfield 15, 3) := by decide +kernel
theorem d_Placement_findNamed_62 : decode prog_7_method_3_code 62 = .ok (.aload_n 1, 1) := by decide +kernel
theorem d_Placement_findNamed_63 : decode prog_7_method_3_code 63 = .ok (.iload_n 2, 1) := by decide +kernel
theorem d_Placement_findNamed_64 : decode prog_7_method_3_code 64 = .ok (.iload 4, 2) := by decide +kernel
theorem d_Placement_findNamed_66 : decode prog_7_method_3_code 66 = .ok (.invokevirtual 39, 3) := by decide +kernel
theorem d_Placement_findNamed_69 : decode prog_7_method_3_code 69 = .ok (.iconst 1, 1) := by decide +kernel
theorem d_Placement_findNamed_70 : decode prog_7_method_3_code 70 = .ok (.bastore, 1) := by decide +kernel
theorem d_Placement_findNamed_71 : decode prog_7_method_3_code 71 = .ok (.iinc 4 1, 3) := by decide +kernel
theorem d_Placement_findNamed_74 : decode prog_7_method_3_code 74 = .ok (.goto (-22), 3) := by decide +kernel
theorem d_Placement_findNamed_77 : decode prog_7_method_3_code 77 = .ok (.iinc 2 1, 3) := by decide +kernel
theorem d_Placement_findNamed_80 : decode prog_7_method_3_code 80 = .ok (.goto (-57), 3) := by decide +kernel
theorem d_Placement_findNamed_83 : decode prog_7_method_3_code 83 = .ok (.return_, 1) := by decide +kernel
theorem d_Placement_mayDrive_0 : decode prog_7_method_4_code 0 = .ok (.iconst 0, 1) := by decide +kernel
theorem d_Placement_mayDrive_1 : decode prog_7_method_4_code 1 = .ok (.istore_n 3, 1) := by decide +kernel
theorem d_Placement_mayDrive_2 : decode prog_7_method_4_code 2 = .ok (.iload_n 3, 1) := by decide +kernel
theorem d_Placement_mayDrive_3 : decode prog_7_method_4_code 3 = .ok (.aload_n 1, 1) := by decide +kernel
theorem d_Placement_mayDrive_4 : decode prog_7_method_4_code 4 = .ok (.getfield 27, 3) := by decide +kernel
theorem d_Placement_mayDrive_7 : decode prog_7_method_4_code 7 = .ok (.if_icmp .ge 50, 3) := by decide +kernel
theorem d_Placement_mayDrive_10 : decode prog_7_method_4_code 10 = .ok (.aload_n 0, 1) := by decide +kernel
theorem d_Placement_mayDrive_11 : decode prog_7_method_4_code 11 = .ok (.getfield 9, 3) := by decide +kernel
theorem d_Placement_mayDrive_14 : decode prog_7_method_4_code 14 = .ok (.aload_n 1, 1) := by decide +kernel
theorem d_Placement_mayDrive_15 : decode prog_7_method_4_code 15 = .ok (.getfield 32, 3) := by decide +kernel
theorem d_Placement_mayDrive_18 : decode prog_7_method_4_code 18 = .ok (.iload_n 3, 1) := by decide +kernel
theorem d_Placement_mayDrive_19 : decode prog_7_method_4_code 19 = .ok (.iaload, 1) := by decide +kernel
theorem d_Placement_mayDrive_20 : decode prog_7_method_4_code 20 = .ok (.iaload, 1) := by decide +kernel
theorem d_Placement_mayDrive_21 : decode prog_7_method_4_code 21 = .ok (.istore 4, 2) := by decide +kernel
theorem d_Placement_mayDrive_23 : decode prog_7_method_4_code 23 = .ok (.aload_n 2, 1) := by decide +kernel
theorem d_Placement_mayDrive_24 : decode prog_7_method_4_code 24 = .ok (.iload 4, 2) := by decide +kernel
theorem d_Placement_mayDrive_26 : decode prog_7_method_4_code 26 = .ok (.aload_n 1, 1) := by decide +kernel
theorem d_Placement_mayDrive_27 : decode prog_7_method_4_code 27 = .ok (.getfield 43, 3) := by decide +kernel
theorem d_Placement_mayDrive_30 : decode prog_7_method_4_code 30 = .ok (.iload_n 3, 1) := by decide +kernel
theorem d_Placement_mayDrive_31 : decode prog_7_method_4_code 31 = .ok (.iaload, 1) := by decide +kernel
theorem d_Placement_mayDrive_32 : decode prog_7_method_4_code 32 = .ok (.invokevirtual 46, 3) := by decide +kernel
theorem d_Placement_mayDrive_35 : decode prog_7_method_4_code 35 = .ok (.ifCond .eq 14, 3) := by decide +kernel
theorem d_Placement_mayDrive_38 : decode prog_7_method_4_code 38 = .ok (.aload_n 0, 1) := by decide +kernel
theorem d_Placement_mayDrive_39 : decode prog_7_method_4_code 39 = .ok (.aload_n 1, 1) := by decide +kernel
theorem d_Placement_mayDrive_40 : decode prog_7_method_4_code 40 = .ok (.iload_n 3, 1) := by decide +kernel
theorem d_Placement_mayDrive_41 : decode prog_7_method_4_code 41 = .ok (.iload 4, 2) := by decide +kernel
theorem d_Placement_mayDrive_43 : decode prog_7_method_4_code 43 = .ok (.invokevirtual 50, 3) := by decide +kernel
theorem d_Placement_mayDrive_46 : decode prog_7_method_4_code 46 = .ok (.ifCond .eq 5, 3) := by decide +kernel
theorem d_Placement_mayDrive_49 : decode prog_7_method_4_code 49 = .ok (.iconst 0, 1) := by decide +kernel
theorem d_Placement_mayDrive_50 : decode prog_7_method_4_code 50 = .ok (.ireturn, 1) := by decide +kernel
theorem d_Placement_mayDrive_51 : decode prog_7_method_4_code 51 = .ok (.iinc 3 1, 3) := by decide +kernel
theorem d_Placement_mayDrive_54 : decode prog_7_method_4_code 54 = .ok (.goto (-52), 3) := by decide +kernel
theorem d_Placement_mayDrive_57 : decode prog_7_method_4_code 57 = .ok (.iconst 1, 1) := by decide +kernel
theorem d_Placement_mayDrive_58 : decode prog_7_method_4_code 58 = .ok (.ireturn, 1) := by decide +kernel
theorem d_Placement_clashesWithEarlier_0 : decode prog_7_method_5_code 0 = .ok (.iconst 0, 1) := by decide +kernel
theorem d_Placement_clashesWithEarlier_1 : decode prog_7_method_5_code 1 = .ok (.istore 4, 2) := by decide +kernel
theorem d_Placement_clashesWithEarlier_3 : decode prog_7_method_5_code 3 = .ok (.iload 4, 2) := by decide +kernel
theorem d_Placement_clashesWithEarlier_5 : decode prog_7_method_5_code 5 = .ok (.iload_n 2, 1) := by decide +kernel
theorem d_Placement_clashesWithEarlier_6 : decode prog_7_method_5_code 6 = .ok (.if_icmp .ge 62, 3) := by decide +kernel
theorem d_Placement_clashesWithEarlier_9 : decode prog_7_method_5_code 9 = .ok (.aload_n 1, 1) := by decide +kernel
theorem d_Placement_clashesWithEarlier_10 : decode prog_7_method_5_code 10 = .ok (.getfield 43, 3) := by decide +kernel
theorem d_Placement_clashesWithEarlier_13 : decode prog_7_method_5_code 13 = .ok (.iload 4, 2) := by decide +kernel
theorem d_Placement_clashesWithEarlier_15 : decode prog_7_method_5_code 15 = .ok (.iaload, 1) := by decide +kernel
theorem d_Placement_clashesWithEarlier_16 : decode prog_7_method_5_code 16 = .ok (.bipush 6, 2) := by decide +kernel
theorem d_Placement_clashesWithEarlier_18 : decode prog_7_method_5_code 18 = .ok (.if_icmp .ne 18, 3) := by decide +kernel
theorem d_Placement_clashesWithEarlier_21 : decode prog_7_method_5_code 21 = .ok (.aload_n 1, 1) := by decide +kernel
theorem d_Placement_clashesWithEarlier_22 : decode prog_7_method_5_code 22 = .ok (.getfield 43, 3) := by decide +kernel
theorem d_Placement_clashesWithEarlier_25 : decode prog_7_method_5_code 25 = .ok (.iload_n 2, 1) := by decide +kernel
theorem d_Placement_clashesWithEarlier_26 : decode prog_7_method_5_code 26 = .ok (.iaload, 1) := by decide +kernel
theorem d_Placement_clashesWithEarlier_27 : decode prog_7_method_5_code 27 = .ok (.bipush 6, 2) := by decide +kernel
theorem d_Placement_clashesWithEarlier_29 : decode prog_7_method_5_code 29 = .ok (.if_icmp .ne 7, 3) := by decide +kernel
theorem d_Placement_clashesWithEarlier_32 : decode prog_7_method_5_code 32 = .ok (.iconst 1, 1) := by decide +kernel
theorem d_Placement_clashesWithEarlier_33 : decode prog_7_method_5_code 33 = .ok (.goto 4, 3) := by decide +kernel
theorem d_Placement_clashesWithEarlier_36 : decode prog_7_method_5_code 36 = .ok (.iconst 0, 1) := by decide +kernel
theorem d_Placement_clashesWithEarlier_37 : decode prog_7_method_5_code 37 = .ok (.istore 5, 2) := by decide +kernel
theorem d_Placement_clashesWithEarlier_39 : decode prog_7_method_5_code 39 = .ok (.aload_n 0, 1) := by decide +kernel
theorem d_Placement_clashesWithEarlier_40 : decode prog_7_method_5_code 40 = .ok (.getfield 9, 3) := by decide +kernel
theorem d_Placement_clashesWithEarlier_43 : decode prog_7_method_5_code 43 = .ok (.aload_n 1, 1) := by decide +kernel
theorem d_Placement_clashesWithEarlier_44 : decode prog_7_method_5_code 44 = .ok (.getfield 32, 3) := by decide +kernel
theorem d_Placement_clashesWithEarlier_47 : decode prog_7_method_5_code 47 = .ok (.iload 4, 2) := by decide +kernel
theorem d_Placement_clashesWithEarlier_49 : decode prog_7_method_5_code 49 = .ok (.iaload, 1) := by decide +kernel
theorem d_Placement_clashesWithEarlier_50 : decode prog_7_method_5_code 50 = .ok (.iaload, 1) := by decide +kernel
theorem d_Placement_clashesWithEarlier_51 : decode prog_7_method_5_code 51 = .ok (.iload_n 3, 1) := by decide +kernel
theorem d_Placement_clashesWithEarlier_52 : decode prog_7_method_5_code 52 = .ok (.if_icmp .ne 10, 3) := by decide +kernel
theorem d_Placement_clashesWithEarlier_55 : decode prog_7_method_5_code 55 = .ok (.iload 5, 2) := by decide +kernel
theorem d_Placement_clashesWithEarlier_57 : decode prog_7_method_5_code 57 = .ok (.ifCond .ne 5, 3) := by decide +kernel
theorem d_Placement_clashesWithEarlier_60 : decode prog_7_method_5_code 60 = .ok (.iconst 1, 1) := by decide +kernel
theorem d_Placement_clashesWithEarlier_61 : decode prog_7_method_5_code 61 = .ok (.ireturn, 1) := by decide +kernel
theorem d_Placement_clashesWithEarlier_62 : decode prog_7_method_5_code 62 = .ok (.iinc 4 1, 3) := by decide +kernel
theorem d_Placement_clashesWithEarlier_65 : decode prog_7_method_5_code 65 = .ok (.goto (-62), 3) := by decide +kernel
theorem d_Placement_clashesWithEarlier_68 : decode prog_7_method_5_code 68 = .ok (.iconst 0, 1) := by decide +kernel
theorem d_Placement_clashesWithEarlier_69 : decode prog_7_method_5_code 69 = .ok (.ireturn, 1) := by decide +kernel
theorem d_Placement_copyInto_0 : decode prog_7_method_6_code 0 = .ok (.iconst 0, 1) := by decide +kernel
theorem d_Placement_copyInto_1 : decode prog_7_method_6_code 1 = .ok (.istore_n 3, 1) := by decide +kernel
theorem d_Placement_copyInto_2 : decode prog_7_method_6_code 2 = .ok (.iload_n 3, 1) := by decide +kernel
theorem d_Placement_copyInto_3 : decode prog_7_method_6_code 3 = .ok (.aload_n 1, 1) := by decide +kernel
theorem d_Placement_copyInto_4 : decode prog_7_method_6_code 4 = .ok (.getfield 27, 3) := by decide +kernel
theorem d_Placement_copyInto_7 : decode prog_7_method_6_code 7 = .ok (.if_icmp .ge 63, 3) := by decide +kernel
theorem d_Placement_copyInto_10 : decode prog_7_method_6_code 10 = .ok (.aload_n 0, 1) := by decide +kernel
theorem d_Placement_copyInto_11 : decode prog_7_method_6_code 11 = .ok (.aload_n 1, 1) := by decide +kernel
theorem d_Placement_copyInto_12 : decode prog_7_method_6_code 12 = .ok (.iload_n 3, 1) := by decide +kernel
theorem d_Placement_copyInto_13 : decode prog_7_method_6_code 13 = .ok (.iconst 0, 1) := by decide +kernel
theorem d_Placement_copyInto_14 : decode prog_7_method_6_code 14 = .ok (.invokevirtual 54, 3) := by decide +kernel
theorem d_Placement_copyInto_17 : decode prog_7_method_6_code 17 = .ok (.istore 4, 2) := by decide +kernel
theorem d_Placement_copyInto_19 : decode prog_7_method_6_code 19 = .ok (.aload_n 0, 1) := by decide +kernel
theorem d_Placement_copyInto_20 : decode prog_7_method_6_code 20 = .ok (.aload_n 1, 1) := by decide +kernel
theorem d_Placement_copyInto_21 : decode prog_7_method_6_code 21 = .ok (.iload_n 3, 1) := by decide +kernel
theorem d_Placement_copyInto_22 : decode prog_7_method_6_code 22 = .ok (.iconst 1, 1) := by decide +kernel
theorem d_Placement_copyInto_23 : decode prog_7_method_6_code 23 = .ok (.invokevirtual 54, 3) := by decide +kernel
theorem d_Placement_copyInto_26 : decode prog_7_method_6_code 26 = .ok (.istore 5, 2) := by decide +kernel
theorem d_Placement_copyInto_28 : decode prog_7_method_6_code 28 = .ok (.aload_n 0, 1) := by decide +kernel
theorem d_Placement_copyInto_29 : decode prog_7_method_6_code 29 = .ok (.aload_n 1, 1) := by decide +kernel
theorem d_Placement_copyInto_30 : decode prog_7_method_6_code 30 = .ok (.iload_n 3, 1) := by decide +kernel
theorem d_Placement_copyInto_31 : decode prog_7_method_6_code 31 = .ok (.iconst 2, 1) := by decide +kernel
theorem d_Placement_copyInto_32 : decode prog_7_method_6_code 32 = .ok (.invokevirtual 54, 3) := by decide +kernel
theorem d_Placement_copyInto_35 : decode prog_7_method_6_code 35 = .ok (.istore 6, 2) := by decide +kernel
theorem d_Placement_copyInto_37 : decode prog_7_method_6_code 37 = .ok (.aload_n 2, 1) := by decide +kernel
theorem d_Placement_copyInto_38 : decode prog_7_method_6_code 38 = .ok (.aload_n 1, 1) := by decide +kernel
theorem d_Placement_copyInto_39 : decode prog_7_method_6_code 39 = .ok (.getfield 43, 3) := by decide +kernel
theorem d_Placement_copyInto_42 : decode prog_7_method_6_code 42 = .ok (.iload_n 3, 1) := by decide +kernel
theorem d_Placement_copyInto_43 : decode prog_7_method_6_code 43 = .ok (.iaload, 1) := by decide +kernel
theorem d_Placement_copyInto_44 : decode prog_7_method_6_code 44 = .ok (.aload_n 0, 1) := by decide +kernel
theorem d_Placement_copyInto_45 : decode prog_7_method_6_code 45 = .ok (.getfield 9, 3) := by decide +kernel
theorem d_Placement_copyInto_48 : decode prog_7_method_6_code 48 = .ok (.aload_n 1, 1) := by decide +kernel
theorem d_Placement_copyInto_49 : decode prog_7_method_6_code 49 = .ok (.getfield 32, 3) := by decide +kernel
theorem d_Placement_copyInto_52 : decode prog_7_method_6_code 52 = .ok (.iload_n 3, 1) := by decide +kernel
theorem d_Placement_copyInto_53 : decode prog_7_method_6_code 53 = .ok (.iaload, 1) := by decide +kernel
theorem d_Placement_copyInto_54 : decode prog_7_method_6_code 54 = .ok (.iaload, 1) := by decide +kernel
theorem d_Placement_copyInto_55 : decode prog_7_method_6_code 55 = .ok (.iload 4, 2) := by decide +kernel
theorem d_Placement_copyInto_57 : decode prog_7_method_6_code 57 = .ok (.iload 5, 2) := by decide +kernel
theorem d_Placement_copyInto_59 : decode prog_7_method_6_code 59 = .ok (.iload 6, 2) := by decide +kernel
theorem d_Placement_copyInto_61 : decode prog_7_method_6_code 61 = .ok (.invokevirtual 58, 3) := by decide +kernel
theorem d_Placement_copyInto_64 : decode prog_7_method_6_code 64 = .ok (.iinc 3 1, 3) := by decide +kernel
theorem d_Placement_copyInto_67 : decode prog_7_method_6_code 67 = .ok (.goto (-65), 3) := by decide +kernel
theorem d_Placement_copyInto_70 : decode prog_7_method_6_code 70 = .ok (.return_, 1) := by decide +kernel
theorem d_Placement_placed_0 : decode prog_7_method_7_code 0 = .ok (.aload_n 1, 1) := by decide +kernel
theorem d_Placement_placed_1 : decode prog_7_method_7_code 1 = .ok (.iload_n 2, 1) := by decide +kernel
theorem d_Placement_placed_2 : decode prog_7_method_7_code 2 = .ok (.iload_n 3, 1) := by decide +kernel
theorem d_Placement_placed_3 : decode prog_7_method_7_code 3 = .ok (.invokevirtual 39, 3) := by decide +kernel
theorem d_Placement_placed_6 : decode prog_7_method_7_code 6 = .ok (.istore 4, 2) := by decide +kernel
theorem d_Placement_placed_8 : decode prog_7_method_7_code 8 = .ok (.iload_n 3, 1) := by decide +kernel
theorem d_Placement_placed_9 : decode prog_7_method_7_code 9 = .ok (.aload_n 1, 1) := by decide +kernel
theorem d_Placement_placed_10 : decode prog_7_method_7_code 10 = .ok (.iload_n 2, 1) := by decide +kernel
theorem d_Placement_placed_11 : decode prog_7_method_7_code 11 = .ok (.invokevirtual 35, 3) := by decide +kernel
theorem d_Placement_placed_14 : decode prog_7_method_7_code 14 = .ok (.if_icmp .ge 13, 3) := by decide +kernel
theorem d_Placement_placed_17 : decode prog_7_method_7_code 17 = .ok (.aload_n 0, 1) := by decide +kernel
theorem d_Placement_placed_18 : decode prog_7_method_7_code 18 = .ok (.getfield 9, 3) := by decide +kernel
theorem d_Placement_placed_21 : decode prog_7_method_7_code 21 = .ok (.iload 4, 2) := by decide +kernel
theorem d_Placement_placed_23 : decode prog_7_method_7_code 23 = .ok (.iaload, 1) := by decide +kernel
theorem d_Placement_placed_24 : decode prog_7_method_7_code 24 = .ok (.goto 5, 3) := by decide +kernel
theorem d_Placement_placed_27 : decode prog_7_method_7_code 27 = .ok (.iload 4, 2) := by decide +kernel
theorem d_Placement_placed_29 : decode prog_7_method_7_code 29 = .ok (.ireturn, 1) := by decide +kernel
