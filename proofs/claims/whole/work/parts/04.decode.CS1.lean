theorem d_CS_stick_54 : decode prog_1_method_9_code 54 = .ok (.if_icmp .ne 7, 3) := by decide +kernel
theorem d_CS_stick_57 : decode prog_1_method_9_code 57 = .ok (.iconst 0, 1) := by decide +kernel
theorem d_CS_stick_58 : decode prog_1_method_9_code 58 = .ok (.goto 4, 3) := by decide +kernel
theorem d_CS_stick_61 : decode prog_1_method_9_code 61 = .ok (.iconst 1, 1) := by decide +kernel
theorem d_CS_stick_62 : decode prog_1_method_9_code 62 = .ok (.istore_n 3, 1) := by decide +kernel
theorem d_CS_stick_63 : decode prog_1_method_9_code 63 = .ok (.aload_n 0, 1) := by decide +kernel
theorem d_CS_stick_64 : decode prog_1_method_9_code 64 = .ok (.getfield 27, 3) := by decide +kernel
theorem d_CS_stick_67 : decode prog_1_method_9_code 67 = .ok (.getfield 180, 3) := by decide +kernel
theorem d_CS_stick_70 : decode prog_1_method_9_code 70 = .ok (.iload_n 1, 1) := by decide +kernel
theorem d_CS_stick_71 : decode prog_1_method_9_code 71 = .ok (.iload_n 2, 1) := by decide +kernel
theorem d_CS_stick_72 : decode prog_1_method_9_code 72 = .ok (.iastore, 1) := by decide +kernel
theorem d_CS_stick_73 : decode prog_1_method_9_code 73 = .ok (.aload_n 0, 1) := by decide +kernel
theorem d_CS_stick_74 : decode prog_1_method_9_code 74 = .ok (.invokevirtual 183, 3) := by decide +kernel
theorem d_CS_stick_77 : decode prog_1_method_9_code 77 = .ok (.iload_n 3, 1) := by decide +kernel
theorem d_CS_stick_78 : decode prog_1_method_9_code 78 = .ok (.ireturn, 1) := by decide +kernel
theorem d_CS_value_0 : decode prog_1_method_10_code 0 = .ok (.iload_n 1, 1) := by decide +kernel
theorem d_CS_value_1 : decode prog_1_method_10_code 1 = .ok (.aload_n 0, 1) := by decide +kernel
theorem d_CS_value_2 : decode prog_1_method_10_code 2 = .ok (.getfield 27, 3) := by decide +kernel
theorem d_CS_value_5 : decode prog_1_method_10_code 5 = .ok (.getfield 60, 3) := by decide +kernel
theorem d_CS_value_8 : decode prog_1_method_10_code 8 = .ok (.invokestatic 93, 3) := by decide +kernel
theorem d_CS_value_11 : decode prog_1_method_10_code 11 = .ok (.ifCond .ne 13, 3) := by decide +kernel
theorem d_CS_value_14 : decode prog_1_method_10_code 14 = .ok (.new 140, 3) := by decide +kernel
theorem d_CS_value_17 : decode prog_1_method_10_code 17 = .ok (.dup, 1) := by decide +kernel
theorem d_CS_value_18 : decode prog_1_method_10_code 18 = .ok (.ldc 176, 2) := by decide +kernel
theorem d_CS_value_20 : decode prog_1_method_10_code 20 = .ok (.invokespecial 144, 3) := by decide +kernel
theorem d_CS_value_23 : decode prog_1_method_10_code 23 = .ok (.athrow, 1) := by decide +kernel
theorem d_CS_value_24 : decode prog_1_method_10_code 24 = .ok (.aload_n 0, 1) := by decide +kernel
theorem d_CS_value_25 : decode prog_1_method_10_code 25 = .ok (.getfield 27, 3) := by decide +kernel
theorem d_CS_value_28 : decode prog_1_method_10_code 28 = .ok (.getfield 158, 3) := by decide +kernel
theorem d_CS_value_31 : decode prog_1_method_10_code 31 = .ok (.iload_n 1, 1) := by decide +kernel
theorem d_CS_value_32 : decode prog_1_method_10_code 32 = .ok (.iaload, 1) := by decide +kernel
theorem d_CS_value_33 : decode prog_1_method_10_code 33 = .ok (.ireturn, 1) := by decide +kernel
theorem d_CS_level_0 : decode prog_1_method_11_code 0 = .ok (.iload_n 1, 1) := by decide +kernel
theorem d_CS_level_1 : decode prog_1_method_11_code 1 = .ok (.aload_n 0, 1) := by decide +kernel
theorem d_CS_level_2 : decode prog_1_method_11_code 2 = .ok (.getfield 27, 3) := by decide +kernel
theorem d_CS_level_5 : decode prog_1_method_11_code 5 = .ok (.getfield 60, 3) := by decide +kernel
theorem d_CS_level_8 : decode prog_1_method_11_code 8 = .ok (.invokestatic 93, 3) := by decide +kernel
theorem d_CS_level_11 : decode prog_1_method_11_code 11 = .ok (.ifCond .ne 13, 3) := by decide +kernel
theorem d_CS_level_14 : decode prog_1_method_11_code 14 = .ok (.new 140, 3) := by decide +kernel
theorem d_CS_level_17 : decode prog_1_method_11_code 17 = .ok (.dup, 1) := by decide +kernel
theorem d_CS_level_18 : decode prog_1_method_11_code 18 = .ok (.ldc 176, 2) := by decide +kernel
theorem d_CS_level_20 : decode prog_1_method_11_code 20 = .ok (.invokespecial 144, 3) := by decide +kernel
theorem d_CS_level_23 : decode prog_1_method_11_code 23 = .ok (.athrow, 1) := by decide +kernel
theorem d_CS_level_24 : decode prog_1_method_11_code 24 = .ok (.aload_n 0, 1) := by decide +kernel
theorem d_CS_level_25 : decode prog_1_method_11_code 25 = .ok (.getfield 52, 3) := by decide +kernel
theorem d_CS_level_28 : decode prog_1_method_11_code 28 = .ok (.ifCond .ne 13, 3) := by decide +kernel
theorem d_CS_level_31 : decode prog_1_method_11_code 31 = .ok (.new 84, 3) := by decide +kernel
theorem d_CS_level_34 : decode prog_1_method_11_code 34 = .ok (.dup, 1) := by decide +kernel
theorem d_CS_level_35 : decode prog_1_method_11_code 35 = .ok (.ldc 152, 2) := by decide +kernel
theorem d_CS_level_37 : decode prog_1_method_11_code 37 = .ok (.invokespecial 88, 3) := by decide +kernel
theorem d_CS_level_40 : decode prog_1_method_11_code 40 = .ok (.athrow, 1) := by decide +kernel
theorem d_CS_level_41 : decode prog_1_method_11_code 41 = .ok (.aload_n 0, 1) := by decide +kernel
theorem d_CS_level_42 : decode prog_1_method_11_code 42 = .ok (.getfield 34, 3) := by decide +kernel
theorem d_CS_level_45 : decode prog_1_method_11_code 45 = .ok (.getfield 186, 3) := by decide +kernel
theorem d_CS_level_48 : decode prog_1_method_11_code 48 = .ok (.iload_n 1, 1) := by decide +kernel
theorem d_CS_level_49 : decode prog_1_method_11_code 49 = .ok (.iaload, 1) := by decide +kernel
theorem d_CS_level_50 : decode prog_1_method_11_code 50 = .ok (.ireturn, 1) := by decide +kernel
theorem d_CS_flips_0 : decode prog_1_method_12_code 0 = .ok (.iload_n 1, 1) := by decide +kernel
theorem d_CS_flips_1 : decode prog_1_method_12_code 1 = .ok (.aload_n 0, 1) := by decide +kernel
theorem d_CS_flips_2 : decode prog_1_method_12_code 2 = .ok (.getfield 27, 3) := by decide +kernel
theorem d_CS_flips_5 : decode prog_1_method_12_code 5 = .ok (.getfield 60, 3) := by decide +kernel
theorem d_CS_flips_8 : decode prog_1_method_12_code 8 = .ok (.invokestatic 93, 3) := by decide +kernel
theorem d_CS_flips_11 : decode prog_1_method_12_code 11 = .ok (.ifCond .ne 13, 3) := by decide +kernel
theorem d_CS_flips_14 : decode prog_1_method_12_code 14 = .ok (.new 140, 3) := by decide +kernel
theorem d_CS_flips_17 : decode prog_1_method_12_code 17 = .ok (.dup, 1) := by decide +kernel
theorem d_CS_flips_18 : decode prog_1_method_12_code 18 = .ok (.ldc 176, 2) := by decide +kernel
theorem d_CS_flips_20 : decode prog_1_method_12_code 20 = .ok (.invokespecial 144, 3) := by decide +kernel
theorem d_CS_flips_23 : decode prog_1_method_12_code 23 = .ok (.athrow, 1) := by decide +kernel
theorem d_CS_flips_24 : decode prog_1_method_12_code 24 = .ok (.aload_n 0, 1) := by decide +kernel
theorem d_CS_flips_25 : decode prog_1_method_12_code 25 = .ok (.getfield 27, 3) := by decide +kernel
theorem d_CS_flips_28 : decode prog_1_method_12_code 28 = .ok (.getfield 189, 3) := by decide +kernel
theorem d_CS_flips_31 : decode prog_1_method_12_code 31 = .ok (.iload_n 1, 1) := by decide +kernel
theorem d_CS_flips_32 : decode prog_1_method_12_code 32 = .ok (.iaload, 1) := by decide +kernel
theorem d_CS_flips_33 : decode prog_1_method_12_code 33 = .ok (.ireturn, 1) := by decide +kernel
theorem d_CS_state_0 : decode prog_1_method_13_code 0 = .ok (.aload_n 0, 1) := by decide +kernel
theorem d_CS_state_1 : decode prog_1_method_13_code 1 = .ok (.getfield 14, 3) := by decide +kernel
theorem d_CS_state_4 : decode prog_1_method_13_code 4 = .ok (.iload_n 1, 1) := by decide +kernel
theorem d_CS_state_5 : decode prog_1_method_13_code 5 = .ok (.bipush 8, 2) := by decide +kernel
theorem d_CS_state_7 : decode prog_1_method_13_code 7 = .ok (.invokevirtual 145, 3) := by decide +kernel
theorem d_CS_state_10 : decode prog_1_method_13_code 10 = .ok (.ifCond .ne 26, 3) := by decide +kernel
theorem d_CS_state_13 : decode prog_1_method_13_code 13 = .ok (.aload_n 0, 1) := by decide +kernel
theorem d_CS_state_14 : decode prog_1_method_13_code 14 = .ok (.getfield 14, 3) := by decide +kernel
theorem d_CS_state_17 : decode prog_1_method_13_code 17 = .ok (.iload_n 1, 1) := by decide +kernel
theorem d_CS_state_18 : decode prog_1_method_13_code 18 = .ok (.bipush 7, 2) := by decide +kernel
theorem d_CS_state_20 : decode prog_1_method_13_code 20 = .ok (.invokevirtual 145, 3) := by decide +kernel
theorem d_CS_state_23 : decode prog_1_method_13_code 23 = .ok (.ifCond .ne 13, 3) := by decide +kernel
theorem d_CS_state_26 : decode prog_1_method_13_code 26 = .ok (.new 140, 3) := by decide +kernel
theorem d_CS_state_29 : decode prog_1_method_13_code 29 = .ok (.dup, 1) := by decide +kernel
theorem d_CS_state_30 : decode prog_1_method_13_code 30 = .ok (.ldc 192, 2) := by decide +kernel
theorem d_CS_state_32 : decode prog_1_method_13_code 32 = .ok (.invokespecial 144, 3) := by decide +kernel
theorem d_CS_state_35 : decode prog_1_method_13_code 35 = .ok (.athrow, 1) := by decide +kernel
theorem d_CS_state_36 : decode prog_1_method_13_code 36 = .ok (.aload_n 0, 1) := by decide +kernel
theorem d_CS_state_37 : decode prog_1_method_13_code 37 = .ok (.getfield 14, 3) := by decide +kernel
theorem d_CS_state_40 : decode prog_1_method_13_code 40 = .ok (.getfield 154, 3) := by decide +kernel
theorem d_CS_state_43 : decode prog_1_method_13_code 43 = .ok (.iload_n 1, 1) := by decide +kernel
theorem d_CS_state_44 : decode prog_1_method_13_code 44 = .ok (.iaload, 1) := by decide +kernel
theorem d_CS_state_45 : decode prog_1_method_13_code 45 = .ok (.ireturn, 1) := by decide +kernel
theorem d_CS_reset_0 : decode prog_1_method_14_code 0 = .ok (.aload_n 0, 1) := by decide +kernel
theorem d_CS_reset_1 : decode prog_1_method_14_code 1 = .ok (.getfield 27, 3) := by decide +kernel
theorem d_CS_reset_4 : decode prog_1_method_14_code 4 = .ok (.invokevirtual 194, 3) := by decide +kernel
theorem d_CS_reset_7 : decode prog_1_method_14_code 7 = .ok (.istore_n 1, 1) := by decide +kernel
theorem d_CS_reset_8 : decode prog_1_method_14_code 8 = .ok (.aload_n 0, 1) := by decide +kernel
theorem d_CS_reset_9 : decode prog_1_method_14_code 9 = .ok (.getfield 14, 3) := by decide +kernel
theorem d_CS_reset_12 : decode prog_1_method_14_code 12 = .ok (.invokevirtual 198, 3) := by decide +kernel
theorem d_CS_reset_15 : decode prog_1_method_14_code 15 = .ok (.aload_n 0, 1) := by decide +kernel
theorem d_CS_reset_16 : decode prog_1_method_14_code 16 = .ok (.getfield 27, 3) := by decide +kernel
theorem d_CS_reset_19 : decode prog_1_method_14_code 19 = .ok (.invokevirtual 201, 3) := by decide +kernel
theorem d_CS_reset_22 : decode prog_1_method_14_code 22 = .ok (.aload_n 0, 1) := by decide +kernel
theorem d_CS_reset_23 : decode prog_1_method_14_code 23 = .ok (.invokevirtual 183, 3) := by decide +kernel
theorem d_CS_reset_26 : decode prog_1_method_14_code 26 = .ok (.iload_n 1, 1) := by decide +kernel
theorem d_CS_reset_27 : decode prog_1_method_14_code 27 = .ok (.ireturn, 1) := by decide +kernel
theorem d_CS_count_0 : decode prog_1_method_15_code 0 = .ok (.iload_n 1, 1) := by decide +kernel
theorem d_CS_count_1 : decode prog_1_method_15_code 1 = .ok (.tableswitch 125 0 7 #[47, 55, 63, 71, 84, 102, 111, 120], 47) := by decide +kernel
theorem d_CS_count_48 : decode prog_1_method_15_code 48 = .ok (.aload_n 0, 1) := by decide +kernel
theorem d_CS_count_49 : decode prog_1_method_15_code 49 = .ok (.getfield 27, 3) := by decide +kernel
theorem d_CS_count_52 : decode prog_1_method_15_code 52 = .ok (.getfield 60, 3) := by decide +kernel
theorem d_CS_count_55 : decode prog_1_method_15_code 55 = .ok (.ireturn, 1) := by decide +kernel
theorem d_CS_count_56 : decode prog_1_method_15_code 56 = .ok (.aload_n 0, 1) := by decide +kernel
theorem d_CS_count_57 : decode prog_1_method_15_code 57 = .ok (.getfield 14, 3) := by decide +kernel
theorem d_CS_count_60 : decode prog_1_method_15_code 60 = .ok (.getfield 83, 3) := by decide +kernel
theorem d_CS_count_63 : decode prog_1_method_15_code 63 = .ok (.ireturn, 1) := by decide +kernel
theorem d_CS_count_64 : decode prog_1_method_15_code 64 = .ok (.aload_n 0, 1) := by decide +kernel
theorem d_CS_count_65 : decode prog_1_method_15_code 65 = .ok (.getfield 14, 3) := by decide +kernel
theorem d_CS_count_68 : decode prog_1_method_15_code 68 = .ok (.invokevirtual 204, 3) := by decide +kernel
theorem d_CS_count_71 : decode prog_1_method_15_code 71 = .ok (.ireturn, 1) := by decide +kernel
theorem d_CS_count_72 : decode prog_1_method_15_code 72 = .ok (.aload_n 0, 1) := by decide +kernel
theorem d_CS_count_73 : decode prog_1_method_15_code 73 = .ok (.getfield 52, 3) := by decide +kernel
theorem d_CS_count_76 : decode prog_1_method_15_code 76 = .ok (.ifCond .eq 7, 3) := by decide +kernel
theorem d_CS_count_79 : decode prog_1_method_15_code 79 = .ok (.iconst 1, 1) := by decide +kernel
theorem d_CS_count_80 : decode prog_1_method_15_code 80 = .ok (.goto 4, 3) := by decide +kernel
theorem d_CS_count_83 : decode prog_1_method_15_code 83 = .ok (.iconst 0, 1) := by decide +kernel
theorem d_CS_count_84 : decode prog_1_method_15_code 84 = .ok (.ireturn, 1) := by decide +kernel
theorem d_CS_count_85 : decode prog_1_method_15_code 85 = .ok (.aload_n 0, 1) := by decide +kernel
theorem d_CS_count_86 : decode prog_1_method_15_code 86 = .ok (.getfield 27, 3) := by decide +kernel
theorem d_CS_count_89 : decode prog_1_method_15_code 89 = .ok (.iconst 0, 1) := by decide +kernel
theorem d_CS_count_90 : decode prog_1_method_15_code 90 = .ok (.invokevirtual 207, 3) := by decide +kernel
theorem d_CS_count_93 : decode prog_1_method_15_code 93 = .ok (.aload_n 0, 1) := by decide +kernel
theorem d_CS_count_94 : decode prog_1_method_15_code 94 = .ok (.getfield 27, 3) := by decide +kernel
theorem d_CS_count_97 : decode prog_1_method_15_code 97 = .ok (.iconst 1, 1) := by decide +kernel
theorem d_CS_count_98 : decode prog_1_method_15_code 98 = .ok (.invokevirtual 207, 3) := by decide +kernel
theorem d_CS_count_101 : decode prog_1_method_15_code 101 = .ok (.iadd, 1) := by decide +kernel
theorem d_CS_count_102 : decode prog_1_method_15_code 102 = .ok (.ireturn, 1) := by decide +kernel
theorem d_CS_count_103 : decode prog_1_method_15_code 103 = .ok (.aload_n 0, 1) := by decide +kernel
theorem d_CS_count_104 : decode prog_1_method_15_code 104 = .ok (.getfield 27, 3) := by decide +kernel
theorem d_CS_count_107 : decode prog_1_method_15_code 107 = .ok (.iconst 2, 1) := by decide +kernel
theorem d_CS_count_108 : decode prog_1_method_15_code 108 = .ok (.invokevirtual 207, 3) := by decide +kernel
theorem d_CS_count_111 : decode prog_1_method_15_code 111 = .ok (.ireturn, 1) := by decide +kernel
theorem d_CS_count_112 : decode prog_1_method_15_code 112 = .ok (.aload_n 0, 1) := by decide +kernel
theorem d_CS_count_113 : decode prog_1_method_15_code 113 = .ok (.getfield 27, 3) := by decide +kernel
theorem d_CS_count_116 : decode prog_1_method_15_code 116 = .ok (.iconst 3, 1) := by decide +kernel
theorem d_CS_count_117 : decode prog_1_method_15_code 117 = .ok (.invokevirtual 207, 3) := by decide +kernel
theorem d_CS_count_120 : decode prog_1_method_15_code 120 = .ok (.ireturn, 1) := by decide +kernel
theorem d_CS_count_121 : decode prog_1_method_15_code 121 = .ok (.aload_n 0, 1) := by decide +kernel
theorem d_CS_count_122 : decode prog_1_method_15_code 122 = .ok (.getfield 56, 3) := by decide +kernel
theorem d_CS_count_125 : decode prog_1_method_15_code 125 = .ok (.ireturn, 1) := by decide +kernel
theorem d_CS_count_126 : decode prog_1_method_15_code 126 = .ok (.new 67, 3) := by decide +kernel
theorem d_CS_count_129 : decode prog_1_method_15_code 129 = .ok (.dup, 1) := by decide +kernel
theorem d_CS_count_130 : decode prog_1_method_15_code 130 = .ok (.ldc 211, 2) := by decide +kernel
theorem d_CS_count_132 : decode prog_1_method_15_code 132 = .ok (.invokespecial 71, 3) := by decide +kernel
theorem d_CS_count_135 : decode prog_1_method_15_code 135 = .ok (.athrow, 1) := by decide +kernel
theorem d_CS_within_0 : decode prog_1_method_16_code 0 = .ok (.iload_n 0, 1) := by decide +kernel
theorem d_CS_within_1 : decode prog_1_method_16_code 1 = .ok (.ifCond .lt 12, 3) := by decide +kernel
theorem d_CS_within_4 : decode prog_1_method_16_code 4 = .ok (.iload_n 0, 1) := by decide +kernel
theorem d_CS_within_5 : decode prog_1_method_16_code 5 = .ok (.iload_n 1, 1) := by decide +kernel
theorem d_CS_within_6 : decode prog_1_method_16_code 6 = .ok (.if_icmp .ge 7, 3) := by decide +kernel
theorem d_CS_within_9 : decode prog_1_method_16_code 9 = .ok (.iconst 1, 1) := by decide +kernel
theorem d_CS_within_10 : decode prog_1_method_16_code 10 = .ok (.goto 4, 3) := by decide +kernel
theorem d_CS_within_13 : decode prog_1_method_16_code 13 = .ok (.iconst 0, 1) := by decide +kernel
theorem d_CS_within_14 : decode prog_1_method_16_code 14 = .ok (.ireturn, 1) := by decide +kernel
theorem d_CS_fits_0 : decode prog_1_method_17_code 0 = .ok (.iload_n 0, 1) := by decide +kernel
theorem d_CS_fits_1 : decode prog_1_method_17_code 1 = .ok (.bipush 9, 2) := by decide +kernel
theorem d_CS_fits_3 : decode prog_1_method_17_code 3 = .ok (.invokestatic 93, 3) := by decide +kernel
theorem d_CS_fits_6 : decode prog_1_method_17_code 6 = .ok (.ifCond .eq 12, 3) := by decide +kernel
theorem d_CS_fits_9 : decode prog_1_method_17_code 9 = .ok (.iload_n 1, 1) := by decide +kernel
theorem d_CS_fits_10 : decode prog_1_method_17_code 10 = .ok (.iload 5, 2) := by decide +kernel
theorem d_CS_fits_12 : decode prog_1_method_17_code 12 = .ok (.invokestatic 93, 3) := by decide +kernel
theorem d_CS_fits_15 : decode prog_1_method_17_code 15 = .ok (.ifCond .ne 5, 3) := by decide +kernel
theorem d_CS_fits_18 : decode prog_1_method_17_code 18 = .ok (.iconst 0, 1) := by decide +kernel
theorem d_CS_fits_19 : decode prog_1_method_17_code 19 = .ok (.ireturn, 1) := by decide +kernel
theorem d_CS_fits_20 : decode prog_1_method_17_code 20 = .ok (.getstatic 213, 3) := by decide +kernel
theorem d_CS_fits_23 : decode prog_1_method_17_code 23 = .ok (.iload_n 0, 1) := by decide +kernel
theorem d_CS_fits_24 : decode prog_1_method_17_code 24 = .ok (.iaload, 1) := by decide +kernel
theorem d_CS_fits_25 : decode prog_1_method_17_code 25 = .ok (.istore 6, 2) := by decide +kernel
theorem d_CS_fits_27 : decode prog_1_method_17_code 27 = .ok (.iload 6, 2) := by decide +kernel
theorem d_CS_fits_29 : decode prog_1_method_17_code 29 = .ok (.ifCond .le 14, 3) := by decide +kernel
theorem d_CS_fits_32 : decode prog_1_method_17_code 32 = .ok (.iload_n 2, 1) := by decide +kernel
theorem d_CS_fits_33 : decode prog_1_method_17_code 33 = .ok (.iload 5, 2) := by decide +kernel
theorem d_CS_fits_35 : decode prog_1_method_17_code 35 = .ok (.invokestatic 93, 3) := by decide +kernel
theorem d_CS_fits_38 : decode prog_1_method_17_code 38 = .ok (.ifCond .ne 5, 3) := by decide +kernel
theorem d_CS_fits_41 : decode prog_1_method_17_code 41 = .ok (.iconst 0, 1) := by decide +kernel
theorem d_CS_fits_42 : decode prog_1_method_17_code 42 = .ok (.ireturn, 1) := by decide +kernel
theorem d_CS_fits_43 : decode prog_1_method_17_code 43 = .ok (.iload 6, 2) := by decide +kernel
theorem d_CS_fits_45 : decode prog_1_method_17_code 45 = .ok (.iconst 1, 1) := by decide +kernel
theorem d_CS_fits_46 : decode prog_1_method_17_code 46 = .ok (.if_icmp .le 14, 3) := by decide +kernel
theorem d_CS_fits_49 : decode prog_1_method_17_code 49 = .ok (.iload_n 3, 1) := by decide +kernel
theorem d_CS_fits_50 : decode prog_1_method_17_code 50 = .ok (.iload 5, 2) := by decide +kernel
theorem d_CS_fits_52 : decode prog_1_method_17_code 52 = .ok (.invokestatic 93, 3) := by decide +kernel
theorem d_CS_fits_55 : decode prog_1_method_17_code 55 = .ok (.ifCond .ne 5, 3) := by decide +kernel
theorem d_CS_fits_58 : decode prog_1_method_17_code 58 = .ok (.iconst 0, 1) := by decide +kernel
theorem d_CS_fits_59 : decode prog_1_method_17_code 59 = .ok (.ireturn, 1) := by decide +kernel
theorem d_CS_fits_60 : decode prog_1_method_17_code 60 = .ok (.iload 6, 2) := by decide +kernel
theorem d_CS_fits_62 : decode prog_1_method_17_code 62 = .ok (.iconst 2, 1) := by decide +kernel
theorem d_CS_fits_63 : decode prog_1_method_17_code 63 = .ok (.if_icmp .le 15, 3) := by decide +kernel
theorem d_CS_fits_66 : decode prog_1_method_17_code 66 = .ok (.iload 4, 2) := by decide +kernel
theorem d_CS_fits_68 : decode prog_1_method_17_code 68 = .ok (.iload 5, 2) := by decide +kernel
theorem d_CS_fits_70 : decode prog_1_method_17_code 70 = .ok (.invokestatic 93, 3) := by decide +kernel
theorem d_CS_fits_73 : decode prog_1_method_17_code 73 = .ok (.ifCond .ne 5, 3) := by decide +kernel
theorem d_CS_fits_76 : decode prog_1_method_17_code 76 = .ok (.iconst 0, 1) := by decide +kernel
theorem d_CS_fits_77 : decode prog_1_method_17_code 77 = .ok (.ireturn, 1) := by decide +kernel
theorem d_CS_fits_78 : decode prog_1_method_17_code 78 = .ok (.iload_n 0, 1) := by decide +kernel
theorem d_CS_fits_79 : decode prog_1_method_17_code 79 = .ok (.bipush 8, 2) := by decide +kernel
theorem d_CS_fits_81 : decode prog_1_method_17_code 81 = .ok (.if_icmp .ne 20, 3) := by decide +kernel
theorem d_CS_fits_84 : decode prog_1_method_17_code 84 = .ok (.iload_n 3, 1) := by decide +kernel
theorem d_CS_fits_85 : decode prog_1_method_17_code 85 = .ok (.iconst 2, 1) := by decide +kernel
theorem d_CS_fits_86 : decode prog_1_method_17_code 86 = .ok (.invokestatic 93, 3) := by decide +kernel
theorem d_CS_fits_89 : decode prog_1_method_17_code 89 = .ok (.ifCond .eq 16, 3) := by decide +kernel
theorem d_CS_fits_92 : decode prog_1_method_17_code 92 = .ok (.iload 4, 2) := by decide +kernel
theorem d_CS_fits_94 : decode prog_1_method_17_code 94 = .ok (.iconst 3, 1) := by decide +kernel
theorem d_CS_fits_95 : decode prog_1_method_17_code 95 = .ok (.invokestatic 93, 3) := by decide +kernel
theorem d_CS_fits_98 : decode prog_1_method_17_code 98 = .ok (.ifCond .eq 7, 3) := by decide +kernel
theorem d_CS_fits_101 : decode prog_1_method_17_code 101 = .ok (.iconst 1, 1) := by decide +kernel
theorem d_CS_fits_102 : decode prog_1_method_17_code 102 = .ok (.goto 4, 3) := by decide +kernel
theorem d_CS_fits_105 : decode prog_1_method_17_code 105 = .ok (.iconst 0, 1) := by decide +kernel
theorem d_CS_fits_106 : decode prog_1_method_17_code 106 = .ok (.ireturn, 1) := by decide +kernel
theorem d_CS_partsOf_0 : decode prog_1_method_18_code 0 = .ok (.iload_n 1, 1) := by decide +kernel
theorem d_CS_partsOf_1 : decode prog_1_method_18_code 1 = .ok (.ifCond .ne 10, 3) := by decide +kernel
theorem d_CS_partsOf_4 : decode prog_1_method_18_code 4 = .ok (.aload_n 0, 1) := by decide +kernel
theorem d_CS_partsOf_5 : decode prog_1_method_18_code 5 = .ok (.getfield 18, 3) := by decide +kernel
theorem d_CS_partsOf_8 : decode prog_1_method_18_code 8 = .ok (.goto 7, 3) := by decide +kernel
theorem d_CS_partsOf_11 : decode prog_1_method_18_code 11 = .ok (.aload_n 0, 1) := by decide +kernel
theorem d_CS_partsOf_12 : decode prog_1_method_18_code 12 = .ok (.getfield 21, 3) := by decide +kernel
theorem d_CS_partsOf_15 : decode prog_1_method_18_code 15 = .ok (.areturn, 1) := by decide +kernel
theorem d_CS_settleIfBuilt_0 : decode prog_1_method_19_code 0 = .ok (.aload_n 0, 1) := by decide +kernel
theorem d_CS_settleIfBuilt_1 : decode prog_1_method_19_code 1 = .ok (.getfield 52, 3) := by decide +kernel
theorem d_CS_settleIfBuilt_4 : decode prog_1_method_19_code 4 = .ok (.ifCond .eq 7, 3) := by decide +kernel
theorem d_CS_settleIfBuilt_7 : decode prog_1_method_19_code 7 = .ok (.aload_n 0, 1) := by decide +kernel
theorem d_CS_settleIfBuilt_8 : decode prog_1_method_19_code 8 = .ok (.invokevirtual 133, 3) := by decide +kernel
theorem d_CS_settleIfBuilt_11 : decode prog_1_method_19_code 11 = .ok (.return_, 1) := by decide +kernel
theorem d_CS_settle_0 : decode prog_1_method_20_code 0 = .ok (.aload_n 0, 1) := by decide +kernel
theorem d_CS_settle_1 : decode prog_1_method_20_code 1 = .ok (.getfield 27, 3) := by decide +kernel
theorem d_CS_settle_4 : decode prog_1_method_20_code 4 = .ok (.invokevirtual 216, 3) := by decide +kernel
theorem d_CS_settle_7 : decode prog_1_method_20_code 7 = .ok (.iconst 0, 1) := by decide +kernel
theorem d_CS_settle_8 : decode prog_1_method_20_code 8 = .ok (.istore_n 1, 1) := by decide +kernel
theorem d_CS_settle_9 : decode prog_1_method_20_code 9 = .ok (.iload_n 1, 1) := by decide +kernel
theorem d_CS_settle_10 : decode prog_1_method_20_code 10 = .ok (.aload_n 0, 1) := by decide +kernel
theorem d_CS_settle_11 : decode prog_1_method_20_code 11 = .ok (.getfield 14, 3) := by decide +kernel
theorem d_CS_settle_14 : decode prog_1_method_20_code 14 = .ok (.getfield 83, 3) := by decide +kernel
theorem d_CS_settle_17 : decode prog_1_method_20_code 17 = .ok (.if_icmp .ge 40, 3) := by decide +kernel
theorem d_CS_settle_20 : decode prog_1_method_20_code 20 = .ok (.aload_n 0, 1) := by decide +kernel
theorem d_CS_settle_21 : decode prog_1_method_20_code 21 = .ok (.getfield 34, 3) := by decide +kernel
theorem d_CS_settle_24 : decode prog_1_method_20_code 24 = .ok (.getfield 219, 3) := by decide +kernel
theorem d_CS_settle_27 : decode prog_1_method_20_code 27 = .ok (.iload_n 1, 1) := by decide +kernel
theorem d_CS_settle_28 : decode prog_1_method_20_code 28 = .ok (.iaload, 1) := by decide +kernel
theorem d_CS_settle_29 : decode prog_1_method_20_code 29 = .ok (.istore_n 2, 1) := by decide +kernel
theorem d_CS_settle_30 : decode prog_1_method_20_code 30 = .ok (.aload_n 0, 1) := by decide +kernel
theorem d_CS_settle_31 : decode prog_1_method_20_code 31 = .ok (.getfield 27, 3) := by decide +kernel
theorem d_CS_settle_34 : decode prog_1_method_20_code 34 = .ok (.aload_n 0, 1) := by decide +kernel
theorem d_CS_settle_35 : decode prog_1_method_20_code 35 = .ok (.getfield 14, 3) := by decide +kernel
theorem d_CS_settle_38 : decode prog_1_method_20_code 38 = .ok (.getfield 161, 3) := by decide +kernel
theorem d_CS_settle_41 : decode prog_1_method_20_code 41 = .ok (.iload_n 2, 1) := by decide +kernel
theorem d_CS_settle_42 : decode prog_1_method_20_code 42 = .ok (.iaload, 1) := by decide +kernel
theorem d_CS_settle_43 : decode prog_1_method_20_code 43 = .ok (.aload_n 0, 1) := by decide +kernel
theorem d_CS_settle_44 : decode prog_1_method_20_code 44 = .ok (.iload_n 2, 1) := by decide +kernel
theorem d_CS_settle_45 : decode prog_1_method_20_code 45 = .ok (.invokevirtual 222, 3) := by decide +kernel
theorem d_CS_settle_48 : decode prog_1_method_20_code 48 = .ok (.invokevirtual 225, 3) := by decide +kernel
theorem d_CS_settle_51 : decode prog_1_method_20_code 51 = .ok (.iinc 1 1, 3) := by decide +kernel
theorem d_CS_settle_54 : decode prog_1_method_20_code 54 = .ok (.goto (-45), 3) := by decide +kernel
theorem d_CS_settle_57 : decode prog_1_method_20_code 57 = .ok (.aload_n 0, 1) := by decide +kernel
theorem d_CS_settle_58 : decode prog_1_method_20_code 58 = .ok (.getfield 27, 3) := by decide +kernel
theorem d_CS_settle_61 : decode prog_1_method_20_code 61 = .ok (.invokevirtual 229, 3) := by decide +kernel
theorem d_CS_settle_64 : decode prog_1_method_20_code 64 = .ok (.aload_n 0, 1) := by decide +kernel
theorem d_CS_settle_65 : decode prog_1_method_20_code 65 = .ok (.dup, 1) := by decide +kernel
theorem d_CS_settle_66 : decode prog_1_method_20_code 66 = .ok (.getfield 56, 3) := by decide +kernel
theorem d_CS_settle_69 : decode prog_1_method_20_code 69 = .ok (.iconst 1, 1) := by decide +kernel
theorem d_CS_settle_70 : decode prog_1_method_20_code 70 = .ok (.iadd, 1) := by decide +kernel
theorem d_CS_settle_71 : decode prog_1_method_20_code 71 = .ok (.putfield 56, 3) := by decide +kernel
theorem d_CS_settle_74 : decode prog_1_method_20_code 74 = .ok (.return_, 1) := by decide +kernel
theorem d_CS_driven_0 : decode prog_1_method_21_code 0 = .ok (.aload_n 0, 1) := by decide +kernel
theorem d_CS_driven_1 : decode prog_1_method_21_code 1 = .ok (.iload_n 1, 1) := by decide +kernel
theorem d_CS_driven_2 : decode prog_1_method_21_code 2 = .ok (.iconst 0, 1) := by decide +kernel
theorem d_CS_driven_3 : decode prog_1_method_21_code 3 = .ok (.invokevirtual 232, 3) := by decide +kernel
theorem d_CS_driven_6 : decode prog_1_method_21_code 6 = .ok (.istore_n 2, 1) := by decide +kernel
theorem d_CS_driven_7 : decode prog_1_method_21_code 7 = .ok (.aload_n 0, 1) := by decide +kernel
theorem d_CS_driven_8 : decode prog_1_method_21_code 8 = .ok (.iload_n 1, 1) := by decide +kernel
theorem d_CS_driven_9 : decode prog_1_method_21_code 9 = .ok (.iconst 1, 1) := by decide +kernel
theorem d_CS_driven_10 : decode prog_1_method_21_code 10 = .ok (.invokevirtual 232, 3) := by decide +kernel
theorem d_CS_driven_13 : decode prog_1_method_21_code 13 = .ok (.istore_n 3, 1) := by decide +kernel
theorem d_CS_driven_14 : decode prog_1_method_21_code 14 = .ok (.aload_n 0, 1) := by decide +kernel
theorem d_CS_driven_15 : decode prog_1_method_21_code 15 = .ok (.getfield 14, 3) := by decide +kernel
theorem d_CS_driven_18 : decode prog_1_method_21_code 18 = .ok (.getfield 166, 3) := by decide +kernel
theorem d_CS_driven_21 : decode prog_1_method_21_code 21 = .ok (.iload_n 1, 1) := by decide +kernel
theorem d_CS_driven_22 : decode prog_1_method_21_code 22 = .ok (.iaload, 1) := by decide +kernel
theorem d_CS_driven_23 : decode prog_1_method_21_code 23 = .ok (.tableswitch 115 1 7 #[41, 46, 52, 58, 64, 76, 82], 41) := by decide +kernel
theorem d_CS_driven_64 : decode prog_1_method_21_code 64 = .ok (.iload_n 2, 1) := by decide +kernel
theorem d_CS_driven_65 : decode prog_1_method_21_code 65 = .ok (.invokestatic 236, 3) := by decide +kernel
theorem d_CS_driven_68 : decode prog_1_method_21_code 68 = .ok (.ireturn, 1) := by decide +kernel
theorem d_CS_driven_69 : decode prog_1_method_21_code 69 = .ok (.iload_n 2, 1) := by decide +kernel
theorem d_CS_driven_70 : decode prog_1_method_21_code 70 = .ok (.iload_n 3, 1) := by decide +kernel
theorem d_CS_driven_71 : decode prog_1_method_21_code 71 = .ok (.invokestatic 241, 3) := by decide +kernel
theorem d_CS_driven_74 : decode prog_1_method_21_code 74 = .ok (.ireturn, 1) := by decide +kernel
theorem d_CS_driven_75 : decode prog_1_method_21_code 75 = .ok (.iload_n 2, 1) := by decide +kernel
theorem d_CS_driven_76 : decode prog_1_method_21_code 76 = .ok (.iload_n 3, 1) := by decide +kernel
theorem d_CS_driven_77 : decode prog_1_method_21_code 77 = .ok (.invokestatic 244, 3) := by decide +kernel
theorem d_CS_driven_80 : decode prog_1_method_21_code 80 = .ok (.ireturn, 1) := by decide +kernel
theorem d_CS_driven_81 : decode prog_1_method_21_code 81 = .ok (.iload_n 2, 1) := by decide +kernel
theorem d_CS_driven_82 : decode prog_1_method_21_code 82 = .ok (.iload_n 3, 1) := by decide +kernel
theorem d_CS_driven_83 : decode prog_1_method_21_code 83 = .ok (.invokestatic 247, 3) := by decide +kernel
theorem d_CS_driven_86 : decode prog_1_method_21_code 86 = .ok (.ireturn, 1) := by decide +kernel
theorem d_CS_driven_87 : decode prog_1_method_21_code 87 = .ok (.iload_n 2, 1) := by decide +kernel
theorem d_CS_driven_88 : decode prog_1_method_21_code 88 = .ok (.iload_n 3, 1) := by decide +kernel
theorem d_CS_driven_89 : decode prog_1_method_21_code 89 = .ok (.aload_n 0, 1) := by decide +kernel
theorem d_CS_driven_90 : decode prog_1_method_21_code 90 = .ok (.iload_n 1, 1) := by decide +kernel
theorem d_CS_driven_91 : decode prog_1_method_21_code 91 = .ok (.iconst 2, 1) := by decide +kernel
theorem d_CS_driven_92 : decode prog_1_method_21_code 92 = .ok (.invokevirtual 232, 3) := by decide +kernel
theorem d_CS_driven_95 : decode prog_1_method_21_code 95 = .ok (.invokestatic 250, 3) := by decide +kernel
theorem d_CS_driven_98 : decode prog_1_method_21_code 98 = .ok (.ireturn, 1) := by decide +kernel
theorem d_CS_driven_99 : decode prog_1_method_21_code 99 = .ok (.iload_n 2, 1) := by decide +kernel
theorem d_CS_driven_100 : decode prog_1_method_21_code 100 = .ok (.iload_n 3, 1) := by decide +kernel
theorem d_CS_driven_101 : decode prog_1_method_21_code 101 = .ok (.invokestatic 254, 3) := by decide +kernel
theorem d_CS_driven_104 : decode prog_1_method_21_code 104 = .ok (.ireturn, 1) := by decide +kernel
theorem d_CS_driven_105 : decode prog_1_method_21_code 105 = .ok (.aload_n 0, 1) := by decide +kernel
theorem d_CS_driven_106 : decode prog_1_method_21_code 106 = .ok (.getfield 14, 3) := by decide +kernel
theorem d_CS_driven_109 : decode prog_1_method_21_code 109 = .ok (.getfield 154, 3) := by decide +kernel
theorem d_CS_driven_112 : decode prog_1_method_21_code 112 = .ok (.iload_n 1, 1) := by decide +kernel
theorem d_CS_driven_113 : decode prog_1_method_21_code 113 = .ok (.iload_n 2, 1) := by decide +kernel
theorem d_CS_driven_114 : decode prog_1_method_21_code 114 = .ok (.iload_n 3, 1) := by decide +kernel
theorem d_CS_driven_115 : decode prog_1_method_21_code 115 = .ok (.aload_n 0, 1) := by decide +kernel
theorem d_CS_driven_116 : decode prog_1_method_21_code 116 = .ok (.getfield 14, 3) := by decide +kernel
theorem d_CS_driven_119 : decode prog_1_method_21_code 119 = .ok (.getfield 154, 3) := by decide +kernel
theorem d_CS_driven_122 : decode prog_1_method_21_code 122 = .ok (.iload_n 1, 1) := by decide +kernel
theorem d_CS_driven_123 : decode prog_1_method_21_code 123 = .ok (.iaload, 1) := by decide +kernel
theorem d_CS_driven_124 : decode prog_1_method_21_code 124 = .ok (.invokestatic 257, 3) := by decide +kernel
theorem d_CS_driven_127 : decode prog_1_method_21_code 127 = .ok (.iastore, 1) := by decide +kernel
theorem d_CS_driven_128 : decode prog_1_method_21_code 128 = .ok (.aload_n 0, 1) := by decide +kernel
theorem d_CS_driven_129 : decode prog_1_method_21_code 129 = .ok (.getfield 14, 3) := by decide +kernel
theorem d_CS_driven_132 : decode prog_1_method_21_code 132 = .ok (.getfield 154, 3) := by decide +kernel
theorem d_CS_driven_135 : decode prog_1_method_21_code 135 = .ok (.iload_n 1, 1) := by decide +kernel
theorem d_CS_driven_136 : decode prog_1_method_21_code 136 = .ok (.iaload, 1) := by decide +kernel
theorem d_CS_driven_137 : decode prog_1_method_21_code 137 = .ok (.ireturn, 1) := by decide +kernel
theorem d_CS_driven_138 : decode prog_1_method_21_code 138 = .ok (.aload_n 0, 1) := by decide +kernel
theorem d_CS_driven_139 : decode prog_1_method_21_code 139 = .ok (.getfield 14, 3) := by decide +kernel
theorem d_CS_driven_142 : decode prog_1_method_21_code 142 = .ok (.getfield 154, 3) := by decide +kernel
theorem d_CS_driven_145 : decode prog_1_method_21_code 145 = .ok (.iload_n 1, 1) := by decide +kernel
theorem d_CS_driven_146 : decode prog_1_method_21_code 146 = .ok (.iaload, 1) := by decide +kernel
theorem d_CS_driven_147 : decode prog_1_method_21_code 147 = .ok (.ireturn, 1) := by decide +kernel
theorem d_CS_inputAt_0 : decode prog_1_method_22_code 0 = .ok (.iload_n 2, 1) := by decide +kernel
theorem d_CS_inputAt_1 : decode prog_1_method_22_code 1 = .ok (.aload_n 0, 1) := by decide +kernel
theorem d_CS_inputAt_2 : decode prog_1_method_22_code 2 = .ok (.getfield 14, 3) := by decide +kernel
theorem d_CS_inputAt_5 : decode prog_1_method_22_code 5 = .ok (.iload_n 1, 1) := by decide +kernel
theorem d_CS_inputAt_6 : decode prog_1_method_22_code 6 = .ok (.invokevirtual 260, 3) := by decide +kernel
theorem d_CS_inputAt_9 : decode prog_1_method_22_code 9 = .ok (.if_icmp .lt 5, 3) := by decide +kernel
theorem d_CS_inputAt_12 : decode prog_1_method_22_code 12 = .ok (.iconst 2, 1) := by decide +kernel
theorem d_CS_inputAt_13 : decode prog_1_method_22_code 13 = .ok (.ireturn, 1) := by decide +kernel
theorem d_CS_inputAt_14 : decode prog_1_method_22_code 14 = .ok (.aload_n 0, 1) := by decide +kernel
theorem d_CS_inputAt_15 : decode prog_1_method_22_code 15 = .ok (.getfield 27, 3) := by decide +kernel
theorem d_CS_inputAt_18 : decode prog_1_method_22_code 18 = .ok (.getfield 263, 3) := by decide +kernel
theorem d_CS_inputAt_21 : decode prog_1_method_22_code 21 = .ok (.aload_n 0, 1) := by decide +kernel
theorem d_CS_inputAt_22 : decode prog_1_method_22_code 22 = .ok (.getfield 14, 3) := by decide +kernel
theorem d_CS_inputAt_25 : decode prog_1_method_22_code 25 = .ok (.iload_n 1, 1) := by decide +kernel
theorem d_CS_inputAt_26 : decode prog_1_method_22_code 26 = .ok (.iload_n 2, 1) := by decide +kernel
theorem d_CS_inputAt_27 : decode prog_1_method_22_code 27 = .ok (.invokevirtual 266, 3) := by decide +kernel
theorem d_CS_inputAt_30 : decode prog_1_method_22_code 30 = .ok (.iaload, 1) := by decide +kernel
theorem d_CS_inputAt_31 : decode prog_1_method_22_code 31 = .ok (.invokestatic 269, 3) := by decide +kernel
theorem d_CS_inputAt_34 : decode prog_1_method_22_code 34 = .ok (.ireturn, 1) := by decide +kernel
theorem d_CS_takeInput_0 : decode prog_1_method_23_code 0 = .ok (.aload_n 0, 1) := by decide +kernel
theorem d_CS_takeInput_1 : decode prog_1_method_23_code 1 = .ok (.getfield 27, 3) := by decide +kernel
theorem d_CS_takeInput_4 : decode prog_1_method_23_code 4 = .ok (.getfield 158, 3) := by decide +kernel
theorem d_CS_takeInput_7 : decode prog_1_method_23_code 7 = .ok (.aload_n 0, 1) := by decide +kernel
theorem d_CS_takeInput_8 : decode prog_1_method_23_code 8 = .ok (.getfield 14, 3) := by decide +kernel
theorem d_CS_takeInput_11 : decode prog_1_method_23_code 11 = .ok (.getfield 272, 3) := by decide +kernel
theorem d_CS_takeInput_14 : decode prog_1_method_23_code 14 = .ok (.iload_n 1, 1) := by decide +kernel
theorem d_CS_takeInput_15 : decode prog_1_method_23_code 15 = .ok (.iaload, 1) := by decide +kernel
theorem d_CS_takeInput_16 : decode prog_1_method_23_code 16 = .ok (.iaload, 1) := by decide +kernel
theorem d_CS_takeInput_17 : decode prog_1_method_23_code 17 = .ok (.invokestatic 269, 3) := by decide +kernel
theorem d_CS_takeInput_20 : decode prog_1_method_23_code 20 = .ok (.istore_n 2, 1) := by decide +kernel
theorem d_CS_takeInput_21 : decode prog_1_method_23_code 21 = .ok (.aload_n 0, 1) := by decide +kernel
theorem d_CS_takeInput_22 : decode prog_1_method_23_code 22 = .ok (.getfield 14, 3) := by decide +kernel
theorem d_CS_takeInput_25 : decode prog_1_method_23_code 25 = .ok (.getfield 154, 3) := by decide +kernel
theorem d_CS_takeInput_28 : decode prog_1_method_23_code 28 = .ok (.iload_n 1, 1) := by decide +kernel
theorem d_CS_takeInput_29 : decode prog_1_method_23_code 29 = .ok (.iaload, 1) := by decide +kernel
theorem d_CS_takeInput_30 : decode prog_1_method_23_code 30 = .ok (.iload_n 2, 1) := by decide +kernel
theorem d_CS_takeInput_31 : decode prog_1_method_23_code 31 = .ok (.if_icmp .eq 7, 3) := by decide +kernel
theorem d_CS_takeInput_34 : decode prog_1_method_23_code 34 = .ok (.iconst 1, 1) := by decide +kernel
theorem d_CS_takeInput_35 : decode prog_1_method_23_code 35 = .ok (.goto 4, 3) := by decide +kernel
theorem d_CS_takeInput_38 : decode prog_1_method_23_code 38 = .ok (.iconst 0, 1) := by decide +kernel
theorem d_CS_takeInput_39 : decode prog_1_method_23_code 39 = .ok (.istore_n 3, 1) := by decide +kernel
theorem d_CS_takeInput_40 : decode prog_1_method_23_code 40 = .ok (.aload_n 0, 1) := by decide +kernel
theorem d_CS_takeInput_41 : decode prog_1_method_23_code 41 = .ok (.getfield 14, 3) := by decide +kernel
theorem d_CS_takeInput_44 : decode prog_1_method_23_code 44 = .ok (.getfield 154, 3) := by decide +kernel
theorem d_CS_takeInput_47 : decode prog_1_method_23_code 47 = .ok (.iload_n 1, 1) := by decide +kernel
theorem d_CS_takeInput_48 : decode prog_1_method_23_code 48 = .ok (.iload_n 2, 1) := by decide +kernel
theorem d_CS_takeInput_49 : decode prog_1_method_23_code 49 = .ok (.iastore, 1) := by decide +kernel
theorem d_CS_takeInput_50 : decode prog_1_method_23_code 50 = .ok (.iload_n 3, 1) := by decide +kernel
theorem d_CS_takeInput_51 : decode prog_1_method_23_code 51 = .ok (.ireturn, 1) := by decide +kernel
