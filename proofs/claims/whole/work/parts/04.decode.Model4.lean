theorem d_Model_stick_16 : decode prog_9_method_30_code 16 = .ok (.ifCond .ne 9, 3) := by decide +kernel
theorem d_Model_stick_19 : decode prog_9_method_30_code 19 = .ok (.aload_n 0, 1) := by decide +kernel
theorem d_Model_stick_20 : decode prog_9_method_30_code 20 = .ok (.iconst 1, 1) := by decide +kernel
theorem d_Model_stick_21 : decode prog_9_method_30_code 21 = .ok (.invokevirtual 97, 3) := by decide +kernel
theorem d_Model_stick_24 : decode prog_9_method_30_code 24 = .ok (.ireturn, 1) := by decide +kernel
theorem d_Model_stick_25 : decode prog_9_method_30_code 25 = .ok (.iload_n 2, 1) := by decide +kernel
theorem d_Model_stick_26 : decode prog_9_method_30_code 26 = .ok (.iconst (-1), 1) := by decide +kernel
theorem d_Model_stick_27 : decode prog_9_method_30_code 27 = .ok (.iconst 2, 1) := by decide +kernel
theorem d_Model_stick_28 : decode prog_9_method_30_code 28 = .ok (.invokestatic 82, 3) := by decide +kernel
theorem d_Model_stick_31 : decode prog_9_method_30_code 31 = .ok (.ifCond .ne 9, 3) := by decide +kernel
theorem d_Model_stick_34 : decode prog_9_method_30_code 34 = .ok (.aload_n 0, 1) := by decide +kernel
theorem d_Model_stick_35 : decode prog_9_method_30_code 35 = .ok (.iconst 2, 1) := by decide +kernel
theorem d_Model_stick_36 : decode prog_9_method_30_code 36 = .ok (.invokevirtual 97, 3) := by decide +kernel
theorem d_Model_stick_39 : decode prog_9_method_30_code 39 = .ok (.ireturn, 1) := by decide +kernel
theorem d_Model_stick_40 : decode prog_9_method_30_code 40 = .ok (.aload_n 0, 1) := by decide +kernel
theorem d_Model_stick_41 : decode prog_9_method_30_code 41 = .ok (.getfield 20, 3) := by decide +kernel
theorem d_Model_stick_44 : decode prog_9_method_30_code 44 = .ok (.iload_n 1, 1) := by decide +kernel
theorem d_Model_stick_45 : decode prog_9_method_30_code 45 = .ok (.iaload, 1) := by decide +kernel
theorem d_Model_stick_46 : decode prog_9_method_30_code 46 = .ok (.iload_n 2, 1) := by decide +kernel
theorem d_Model_stick_47 : decode prog_9_method_30_code 47 = .ok (.if_icmp .eq 7, 3) := by decide +kernel
theorem d_Model_stick_50 : decode prog_9_method_30_code 50 = .ok (.iconst 1, 1) := by decide +kernel
theorem d_Model_stick_51 : decode prog_9_method_30_code 51 = .ok (.goto 4, 3) := by decide +kernel
theorem d_Model_stick_54 : decode prog_9_method_30_code 54 = .ok (.iconst 0, 1) := by decide +kernel
theorem d_Model_stick_55 : decode prog_9_method_30_code 55 = .ok (.istore_n 3, 1) := by decide +kernel
theorem d_Model_stick_56 : decode prog_9_method_30_code 56 = .ok (.aload_n 0, 1) := by decide +kernel
theorem d_Model_stick_57 : decode prog_9_method_30_code 57 = .ok (.getfield 20, 3) := by decide +kernel
theorem d_Model_stick_60 : decode prog_9_method_30_code 60 = .ok (.iload_n 1, 1) := by decide +kernel
theorem d_Model_stick_61 : decode prog_9_method_30_code 61 = .ok (.iload_n 2, 1) := by decide +kernel
theorem d_Model_stick_62 : decode prog_9_method_30_code 62 = .ok (.iastore, 1) := by decide +kernel
theorem d_Model_stick_63 : decode prog_9_method_30_code 63 = .ok (.aload_n 0, 1) := by decide +kernel
theorem d_Model_stick_64 : decode prog_9_method_30_code 64 = .ok (.getfield 89, 3) := by decide +kernel
theorem d_Model_stick_67 : decode prog_9_method_30_code 67 = .ok (.ifCond .eq 7, 3) := by decide +kernel
theorem d_Model_stick_70 : decode prog_9_method_30_code 70 = .ok (.aload_n 0, 1) := by decide +kernel
theorem d_Model_stick_71 : decode prog_9_method_30_code 71 = .ok (.invokevirtual 155, 3) := by decide +kernel
theorem d_Model_stick_74 : decode prog_9_method_30_code 74 = .ok (.iload_n 3, 1) := by decide +kernel
theorem d_Model_stick_75 : decode prog_9_method_30_code 75 = .ok (.ifCond .eq 7, 3) := by decide +kernel
theorem d_Model_stick_78 : decode prog_9_method_30_code 78 = .ok (.iconst 1, 1) := by decide +kernel
theorem d_Model_stick_79 : decode prog_9_method_30_code 79 = .ok (.goto 4, 3) := by decide +kernel
theorem d_Model_stick_82 : decode prog_9_method_30_code 82 = .ok (.iconst 0, 1) := by decide +kernel
theorem d_Model_stick_83 : decode prog_9_method_30_code 83 = .ok (.ireturn, 1) := by decide +kernel
theorem d_Model_value_0 : decode prog_9_method_31_code 0 = .ok (.aload_n 0, 1) := by decide +kernel
theorem d_Model_value_1 : decode prog_9_method_31_code 1 = .ok (.iconst 0, 1) := by decide +kernel
theorem d_Model_value_2 : decode prog_9_method_31_code 2 = .ok (.putfield 75, 3) := by decide +kernel
theorem d_Model_value_5 : decode prog_9_method_31_code 5 = .ok (.iload_n 1, 1) := by decide +kernel
theorem d_Model_value_6 : decode prog_9_method_31_code 6 = .ok (.iconst 0, 1) := by decide +kernel
theorem d_Model_value_7 : decode prog_9_method_31_code 7 = .ok (.aload_n 0, 1) := by decide +kernel
theorem d_Model_value_8 : decode prog_9_method_31_code 8 = .ok (.getfield 7, 3) := by decide +kernel
theorem d_Model_value_11 : decode prog_9_method_31_code 11 = .ok (.iconst 1, 1) := by decide +kernel
theorem d_Model_value_12 : decode prog_9_method_31_code 12 = .ok (.isub, 1) := by decide +kernel
theorem d_Model_value_13 : decode prog_9_method_31_code 13 = .ok (.invokestatic 82, 3) := by decide +kernel
theorem d_Model_value_16 : decode prog_9_method_31_code 16 = .ok (.ifCond .eq 12, 3) := by decide +kernel
theorem d_Model_value_19 : decode prog_9_method_31_code 19 = .ok (.aload_n 0, 1) := by decide +kernel
theorem d_Model_value_20 : decode prog_9_method_31_code 20 = .ok (.getfield 13, 3) := by decide +kernel
theorem d_Model_value_23 : decode prog_9_method_31_code 23 = .ok (.iload_n 1, 1) := by decide +kernel
theorem d_Model_value_24 : decode prog_9_method_31_code 24 = .ok (.iaload, 1) := by decide +kernel
theorem d_Model_value_25 : decode prog_9_method_31_code 25 = .ok (.goto 8, 3) := by decide +kernel
theorem d_Model_value_28 : decode prog_9_method_31_code 28 = .ok (.aload_n 0, 1) := by decide +kernel
theorem d_Model_value_29 : decode prog_9_method_31_code 29 = .ok (.iconst 1, 1) := by decide +kernel
theorem d_Model_value_30 : decode prog_9_method_31_code 30 = .ok (.invokevirtual 97, 3) := by decide +kernel
theorem d_Model_value_33 : decode prog_9_method_31_code 33 = .ok (.ireturn, 1) := by decide +kernel
theorem d_Model_level_0 : decode prog_9_method_32_code 0 = .ok (.aload_n 0, 1) := by decide +kernel
theorem d_Model_level_1 : decode prog_9_method_32_code 1 = .ok (.iconst 0, 1) := by decide +kernel
theorem d_Model_level_2 : decode prog_9_method_32_code 2 = .ok (.putfield 75, 3) := by decide +kernel
theorem d_Model_level_5 : decode prog_9_method_32_code 5 = .ok (.iload_n 1, 1) := by decide +kernel
theorem d_Model_level_6 : decode prog_9_method_32_code 6 = .ok (.iconst 0, 1) := by decide +kernel
theorem d_Model_level_7 : decode prog_9_method_32_code 7 = .ok (.aload_n 0, 1) := by decide +kernel
theorem d_Model_level_8 : decode prog_9_method_32_code 8 = .ok (.getfield 7, 3) := by decide +kernel
theorem d_Model_level_11 : decode prog_9_method_32_code 11 = .ok (.iconst 1, 1) := by decide +kernel
theorem d_Model_level_12 : decode prog_9_method_32_code 12 = .ok (.isub, 1) := by decide +kernel
theorem d_Model_level_13 : decode prog_9_method_32_code 13 = .ok (.invokestatic 82, 3) := by decide +kernel
theorem d_Model_level_16 : decode prog_9_method_32_code 16 = .ok (.ifCond .ne 9, 3) := by decide +kernel
theorem d_Model_level_19 : decode prog_9_method_32_code 19 = .ok (.aload_n 0, 1) := by decide +kernel
theorem d_Model_level_20 : decode prog_9_method_32_code 20 = .ok (.iconst 1, 1) := by decide +kernel
theorem d_Model_level_21 : decode prog_9_method_32_code 21 = .ok (.invokevirtual 97, 3) := by decide +kernel
theorem d_Model_level_24 : decode prog_9_method_32_code 24 = .ok (.ireturn, 1) := by decide +kernel
theorem d_Model_level_25 : decode prog_9_method_32_code 25 = .ok (.aload_n 0, 1) := by decide +kernel
theorem d_Model_level_26 : decode prog_9_method_32_code 26 = .ok (.getfield 89, 3) := by decide +kernel
theorem d_Model_level_29 : decode prog_9_method_32_code 29 = .ok (.ifCond .eq 11, 3) := by decide +kernel
theorem d_Model_level_32 : decode prog_9_method_32_code 32 = .ok (.aload_n 0, 1) := by decide +kernel
theorem d_Model_level_33 : decode prog_9_method_32_code 33 = .ok (.iload_n 1, 1) := by decide +kernel
theorem d_Model_level_34 : decode prog_9_method_32_code 34 = .ok (.invokevirtual 152, 3) := by decide +kernel
theorem d_Model_level_37 : decode prog_9_method_32_code 37 = .ok (.goto 8, 3) := by decide +kernel
theorem d_Model_level_40 : decode prog_9_method_32_code 40 = .ok (.aload_n 0, 1) := by decide +kernel
theorem d_Model_level_41 : decode prog_9_method_32_code 41 = .ok (.iconst 2, 1) := by decide +kernel
theorem d_Model_level_42 : decode prog_9_method_32_code 42 = .ok (.invokevirtual 97, 3) := by decide +kernel
theorem d_Model_level_45 : decode prog_9_method_32_code 45 = .ok (.ireturn, 1) := by decide +kernel
theorem d_Model_flips_0 : decode prog_9_method_33_code 0 = .ok (.aload_n 0, 1) := by decide +kernel
theorem d_Model_flips_1 : decode prog_9_method_33_code 1 = .ok (.iconst 0, 1) := by decide +kernel
theorem d_Model_flips_2 : decode prog_9_method_33_code 2 = .ok (.putfield 75, 3) := by decide +kernel
theorem d_Model_flips_5 : decode prog_9_method_33_code 5 = .ok (.iload_n 1, 1) := by decide +kernel
theorem d_Model_flips_6 : decode prog_9_method_33_code 6 = .ok (.iconst 0, 1) := by decide +kernel
theorem d_Model_flips_7 : decode prog_9_method_33_code 7 = .ok (.aload_n 0, 1) := by decide +kernel
theorem d_Model_flips_8 : decode prog_9_method_33_code 8 = .ok (.getfield 7, 3) := by decide +kernel
theorem d_Model_flips_11 : decode prog_9_method_33_code 11 = .ok (.iconst 1, 1) := by decide +kernel
theorem d_Model_flips_12 : decode prog_9_method_33_code 12 = .ok (.isub, 1) := by decide +kernel
theorem d_Model_flips_13 : decode prog_9_method_33_code 13 = .ok (.invokestatic 82, 3) := by decide +kernel
theorem d_Model_flips_16 : decode prog_9_method_33_code 16 = .ok (.ifCond .eq 12, 3) := by decide +kernel
theorem d_Model_flips_19 : decode prog_9_method_33_code 19 = .ok (.aload_n 0, 1) := by decide +kernel
theorem d_Model_flips_20 : decode prog_9_method_33_code 20 = .ok (.getfield 23, 3) := by decide +kernel
theorem d_Model_flips_23 : decode prog_9_method_33_code 23 = .ok (.iload_n 1, 1) := by decide +kernel
theorem d_Model_flips_24 : decode prog_9_method_33_code 24 = .ok (.iaload, 1) := by decide +kernel
theorem d_Model_flips_25 : decode prog_9_method_33_code 25 = .ok (.goto 8, 3) := by decide +kernel
theorem d_Model_flips_28 : decode prog_9_method_33_code 28 = .ok (.aload_n 0, 1) := by decide +kernel
theorem d_Model_flips_29 : decode prog_9_method_33_code 29 = .ok (.iconst 1, 1) := by decide +kernel
theorem d_Model_flips_30 : decode prog_9_method_33_code 30 = .ok (.invokevirtual 97, 3) := by decide +kernel
theorem d_Model_flips_33 : decode prog_9_method_33_code 33 = .ok (.ireturn, 1) := by decide +kernel
theorem d_Model_state_0 : decode prog_9_method_34_code 0 = .ok (.aload_n 0, 1) := by decide +kernel
theorem d_Model_state_1 : decode prog_9_method_34_code 1 = .ok (.iconst 0, 1) := by decide +kernel
theorem d_Model_state_2 : decode prog_9_method_34_code 2 = .ok (.putfield 75, 3) := by decide +kernel
theorem d_Model_state_5 : decode prog_9_method_34_code 5 = .ok (.iload_n 1, 1) := by decide +kernel
theorem d_Model_state_6 : decode prog_9_method_34_code 6 = .ok (.iconst 0, 1) := by decide +kernel
theorem d_Model_state_7 : decode prog_9_method_34_code 7 = .ok (.aload_n 0, 1) := by decide +kernel
theorem d_Model_state_8 : decode prog_9_method_34_code 8 = .ok (.getfield 86, 3) := by decide +kernel
theorem d_Model_state_11 : decode prog_9_method_34_code 11 = .ok (.iconst 1, 1) := by decide +kernel
theorem d_Model_state_12 : decode prog_9_method_34_code 12 = .ok (.isub, 1) := by decide +kernel
theorem d_Model_state_13 : decode prog_9_method_34_code 13 = .ok (.invokestatic 82, 3) := by decide +kernel
theorem d_Model_state_16 : decode prog_9_method_34_code 16 = .ok (.ifCond .eq 23, 3) := by decide +kernel
theorem d_Model_state_19 : decode prog_9_method_34_code 19 = .ok (.aload_n 0, 1) := by decide +kernel
theorem d_Model_state_20 : decode prog_9_method_34_code 20 = .ok (.getfield 26, 3) := by decide +kernel
theorem d_Model_state_23 : decode prog_9_method_34_code 23 = .ok (.iload_n 1, 1) := by decide +kernel
theorem d_Model_state_24 : decode prog_9_method_34_code 24 = .ok (.iaload, 1) := by decide +kernel
theorem d_Model_state_25 : decode prog_9_method_34_code 25 = .ok (.bipush 6, 2) := by decide +kernel
theorem d_Model_state_27 : decode prog_9_method_34_code 27 = .ok (.if_icmp .le 12, 3) := by decide +kernel
theorem d_Model_state_30 : decode prog_9_method_34_code 30 = .ok (.aload_n 0, 1) := by decide +kernel
theorem d_Model_state_31 : decode prog_9_method_34_code 31 = .ok (.getfield 41, 3) := by decide +kernel
theorem d_Model_state_34 : decode prog_9_method_34_code 34 = .ok (.iload_n 1, 1) := by decide +kernel
theorem d_Model_state_35 : decode prog_9_method_34_code 35 = .ok (.iaload, 1) := by decide +kernel
theorem d_Model_state_36 : decode prog_9_method_34_code 36 = .ok (.goto 8, 3) := by decide +kernel
theorem d_Model_state_39 : decode prog_9_method_34_code 39 = .ok (.aload_n 0, 1) := by decide +kernel
theorem d_Model_state_40 : decode prog_9_method_34_code 40 = .ok (.iconst 1, 1) := by decide +kernel
theorem d_Model_state_41 : decode prog_9_method_34_code 41 = .ok (.invokevirtual 97, 3) := by decide +kernel
theorem d_Model_state_44 : decode prog_9_method_34_code 44 = .ok (.ireturn, 1) := by decide +kernel
theorem d_Model_reset_0 : decode prog_9_method_35_code 0 = .ok (.aload_n 0, 1) := by decide +kernel
theorem d_Model_reset_1 : decode prog_9_method_35_code 1 = .ok (.iconst 0, 1) := by decide +kernel
theorem d_Model_reset_2 : decode prog_9_method_35_code 2 = .ok (.putfield 75, 3) := by decide +kernel
theorem d_Model_reset_5 : decode prog_9_method_35_code 5 = .ok (.iconst 0, 1) := by decide +kernel
theorem d_Model_reset_6 : decode prog_9_method_35_code 6 = .ok (.istore_n 1, 1) := by decide +kernel
theorem d_Model_reset_7 : decode prog_9_method_35_code 7 = .ok (.iconst 0, 1) := by decide +kernel
theorem d_Model_reset_8 : decode prog_9_method_35_code 8 = .ok (.istore_n 2, 1) := by decide +kernel
theorem d_Model_reset_9 : decode prog_9_method_35_code 9 = .ok (.iload_n 2, 1) := by decide +kernel
theorem d_Model_reset_10 : decode prog_9_method_35_code 10 = .ok (.bipush 80, 2) := by decide +kernel
theorem d_Model_reset_12 : decode prog_9_method_35_code 12 = .ok (.if_icmp .ge 32, 3) := by decide +kernel
theorem d_Model_reset_15 : decode prog_9_method_35_code 15 = .ok (.iload_n 1, 1) := by decide +kernel
theorem d_Model_reset_16 : decode prog_9_method_35_code 16 = .ok (.aload_n 0, 1) := by decide +kernel
theorem d_Model_reset_17 : decode prog_9_method_35_code 17 = .ok (.getfield 23, 3) := by decide +kernel
theorem d_Model_reset_20 : decode prog_9_method_35_code 20 = .ok (.iload_n 2, 1) := by decide +kernel
theorem d_Model_reset_21 : decode prog_9_method_35_code 21 = .ok (.iaload, 1) := by decide +kernel
theorem d_Model_reset_22 : decode prog_9_method_35_code 22 = .ok (.iadd, 1) := by decide +kernel
theorem d_Model_reset_23 : decode prog_9_method_35_code 23 = .ok (.istore_n 1, 1) := by decide +kernel
theorem d_Model_reset_24 : decode prog_9_method_35_code 24 = .ok (.aload_n 0, 1) := by decide +kernel
theorem d_Model_reset_25 : decode prog_9_method_35_code 25 = .ok (.getfield 13, 3) := by decide +kernel
theorem d_Model_reset_28 : decode prog_9_method_35_code 28 = .ok (.iload_n 2, 1) := by decide +kernel
theorem d_Model_reset_29 : decode prog_9_method_35_code 29 = .ok (.iconst 2, 1) := by decide +kernel
theorem d_Model_reset_30 : decode prog_9_method_35_code 30 = .ok (.iastore, 1) := by decide +kernel
theorem d_Model_reset_31 : decode prog_9_method_35_code 31 = .ok (.aload_n 0, 1) := by decide +kernel
theorem d_Model_reset_32 : decode prog_9_method_35_code 32 = .ok (.getfield 20, 3) := by decide +kernel
theorem d_Model_reset_35 : decode prog_9_method_35_code 35 = .ok (.iload_n 2, 1) := by decide +kernel
theorem d_Model_reset_36 : decode prog_9_method_35_code 36 = .ok (.iconst (-1), 1) := by decide +kernel
theorem d_Model_reset_37 : decode prog_9_method_35_code 37 = .ok (.iastore, 1) := by decide +kernel
theorem d_Model_reset_38 : decode prog_9_method_35_code 38 = .ok (.iinc 2 1, 3) := by decide +kernel
theorem d_Model_reset_41 : decode prog_9_method_35_code 41 = .ok (.goto (-32), 3) := by decide +kernel
theorem d_Model_reset_44 : decode prog_9_method_35_code 44 = .ok (.iconst 0, 1) := by decide +kernel
theorem d_Model_reset_45 : decode prog_9_method_35_code 45 = .ok (.istore_n 2, 1) := by decide +kernel
theorem d_Model_reset_46 : decode prog_9_method_35_code 46 = .ok (.iload_n 2, 1) := by decide +kernel
theorem d_Model_reset_47 : decode prog_9_method_35_code 47 = .ok (.aload_n 0, 1) := by decide +kernel
theorem d_Model_reset_48 : decode prog_9_method_35_code 48 = .ok (.getfield 86, 3) := by decide +kernel
theorem d_Model_reset_51 : decode prog_9_method_35_code 51 = .ok (.if_icmp .ge 47, 3) := by decide +kernel
theorem d_Model_reset_54 : decode prog_9_method_35_code 54 = .ok (.aload_n 0, 1) := by decide +kernel
theorem d_Model_reset_55 : decode prog_9_method_35_code 55 = .ok (.getfield 26, 3) := by decide +kernel
theorem d_Model_reset_58 : decode prog_9_method_35_code 58 = .ok (.iload_n 2, 1) := by decide +kernel
theorem d_Model_reset_59 : decode prog_9_method_35_code 59 = .ok (.iaload, 1) := by decide +kernel
theorem d_Model_reset_60 : decode prog_9_method_35_code 60 = .ok (.bipush 6, 2) := by decide +kernel
theorem d_Model_reset_62 : decode prog_9_method_35_code 62 = .ok (.if_icmp .le 30, 3) := by decide +kernel
theorem d_Model_reset_65 : decode prog_9_method_35_code 65 = .ok (.aload_n 0, 1) := by decide +kernel
theorem d_Model_reset_66 : decode prog_9_method_35_code 66 = .ok (.getfield 41, 3) := by decide +kernel
theorem d_Model_reset_69 : decode prog_9_method_35_code 69 = .ok (.iload_n 2, 1) := by decide +kernel
theorem d_Model_reset_70 : decode prog_9_method_35_code 70 = .ok (.aload_n 0, 1) := by decide +kernel
theorem d_Model_reset_71 : decode prog_9_method_35_code 71 = .ok (.getfield 26, 3) := by decide +kernel
theorem d_Model_reset_74 : decode prog_9_method_35_code 74 = .ok (.iload_n 2, 1) := by decide +kernel
theorem d_Model_reset_75 : decode prog_9_method_35_code 75 = .ok (.iaload, 1) := by decide +kernel
theorem d_Model_reset_76 : decode prog_9_method_35_code 76 = .ok (.bipush 8, 2) := by decide +kernel
theorem d_Model_reset_78 : decode prog_9_method_35_code 78 = .ok (.if_icmp .ne 12, 3) := by decide +kernel
theorem d_Model_reset_81 : decode prog_9_method_35_code 81 = .ok (.aload_n 0, 1) := by decide +kernel
theorem d_Model_reset_82 : decode prog_9_method_35_code 82 = .ok (.getfield 38, 3) := by decide +kernel
theorem d_Model_reset_85 : decode prog_9_method_35_code 85 = .ok (.iload_n 2, 1) := by decide +kernel
theorem d_Model_reset_86 : decode prog_9_method_35_code 86 = .ok (.iaload, 1) := by decide +kernel
theorem d_Model_reset_87 : decode prog_9_method_35_code 87 = .ok (.goto 4, 3) := by decide +kernel
theorem d_Model_reset_90 : decode prog_9_method_35_code 90 = .ok (.iconst 2, 1) := by decide +kernel
theorem d_Model_reset_91 : decode prog_9_method_35_code 91 = .ok (.iastore, 1) := by decide +kernel
theorem d_Model_reset_92 : decode prog_9_method_35_code 92 = .ok (.iinc 2 1, 3) := by decide +kernel
theorem d_Model_reset_95 : decode prog_9_method_35_code 95 = .ok (.goto (-49), 3) := by decide +kernel
theorem d_Model_reset_98 : decode prog_9_method_35_code 98 = .ok (.aload_n 0, 1) := by decide +kernel
theorem d_Model_reset_99 : decode prog_9_method_35_code 99 = .ok (.getfield 89, 3) := by decide +kernel
theorem d_Model_reset_102 : decode prog_9_method_35_code 102 = .ok (.ifCond .eq 7, 3) := by decide +kernel
theorem d_Model_reset_105 : decode prog_9_method_35_code 105 = .ok (.aload_n 0, 1) := by decide +kernel
theorem d_Model_reset_106 : decode prog_9_method_35_code 106 = .ok (.invokevirtual 155, 3) := by decide +kernel
theorem d_Model_reset_109 : decode prog_9_method_35_code 109 = .ok (.iconst 0, 1) := by decide +kernel
theorem d_Model_reset_110 : decode prog_9_method_35_code 110 = .ok (.istore_n 2, 1) := by decide +kernel
theorem d_Model_reset_111 : decode prog_9_method_35_code 111 = .ok (.iload_n 2, 1) := by decide +kernel
theorem d_Model_reset_112 : decode prog_9_method_35_code 112 = .ok (.bipush 80, 2) := by decide +kernel
theorem d_Model_reset_114 : decode prog_9_method_35_code 114 = .ok (.if_icmp .ge 16, 3) := by decide +kernel
theorem d_Model_reset_117 : decode prog_9_method_35_code 117 = .ok (.aload_n 0, 1) := by decide +kernel
theorem d_Model_reset_118 : decode prog_9_method_35_code 118 = .ok (.getfield 23, 3) := by decide +kernel
theorem d_Model_reset_121 : decode prog_9_method_35_code 121 = .ok (.iload_n 2, 1) := by decide +kernel
theorem d_Model_reset_122 : decode prog_9_method_35_code 122 = .ok (.iconst 0, 1) := by decide +kernel
theorem d_Model_reset_123 : decode prog_9_method_35_code 123 = .ok (.iastore, 1) := by decide +kernel
theorem d_Model_reset_124 : decode prog_9_method_35_code 124 = .ok (.iinc 2 1, 3) := by decide +kernel
theorem d_Model_reset_127 : decode prog_9_method_35_code 127 = .ok (.goto (-16), 3) := by decide +kernel
theorem d_Model_reset_130 : decode prog_9_method_35_code 130 = .ok (.iload_n 1, 1) := by decide +kernel
theorem d_Model_reset_131 : decode prog_9_method_35_code 131 = .ok (.ireturn, 1) := by decide +kernel
theorem d_Model_count_0 : decode prog_9_method_36_code 0 = .ok (.aload_n 0, 1) := by decide +kernel
theorem d_Model_count_1 : decode prog_9_method_36_code 1 = .ok (.iconst 0, 1) := by decide +kernel
theorem d_Model_count_2 : decode prog_9_method_36_code 2 = .ok (.putfield 75, 3) := by decide +kernel
theorem d_Model_count_5 : decode prog_9_method_36_code 5 = .ok (.iconst 0, 1) := by decide +kernel
theorem d_Model_count_6 : decode prog_9_method_36_code 6 = .ok (.istore_n 2, 1) := by decide +kernel
theorem d_Model_count_7 : decode prog_9_method_36_code 7 = .ok (.iload_n 1, 1) := by decide +kernel
theorem d_Model_count_8 : decode prog_9_method_36_code 8 = .ok (.tableswitch 159 0 7 #[48, 53, 58, 90, 103, 103, 103, 154], 48) := by decide +kernel
theorem d_Model_count_56 : decode prog_9_method_36_code 56 = .ok (.aload_n 0, 1) := by decide +kernel
theorem d_Model_count_57 : decode prog_9_method_36_code 57 = .ok (.getfield 7, 3) := by decide +kernel
theorem d_Model_count_60 : decode prog_9_method_36_code 60 = .ok (.ireturn, 1) := by decide +kernel
theorem d_Model_count_61 : decode prog_9_method_36_code 61 = .ok (.aload_n 0, 1) := by decide +kernel
theorem d_Model_count_62 : decode prog_9_method_36_code 62 = .ok (.getfield 86, 3) := by decide +kernel
theorem d_Model_count_65 : decode prog_9_method_36_code 65 = .ok (.ireturn, 1) := by decide +kernel
theorem d_Model_count_66 : decode prog_9_method_36_code 66 = .ok (.iconst 0, 1) := by decide +kernel
theorem d_Model_count_67 : decode prog_9_method_36_code 67 = .ok (.istore_n 3, 1) := by decide +kernel
theorem d_Model_count_68 : decode prog_9_method_36_code 68 = .ok (.iload_n 3, 1) := by decide +kernel
theorem d_Model_count_69 : decode prog_9_method_36_code 69 = .ok (.aload_n 0, 1) := by decide +kernel
theorem d_Model_count_70 : decode prog_9_method_36_code 70 = .ok (.getfield 86, 3) := by decide +kernel
theorem d_Model_count_73 : decode prog_9_method_36_code 73 = .ok (.if_icmp .ge 23, 3) := by decide +kernel
theorem d_Model_count_76 : decode prog_9_method_36_code 76 = .ok (.aload_n 0, 1) := by decide +kernel
theorem d_Model_count_77 : decode prog_9_method_36_code 77 = .ok (.getfield 26, 3) := by decide +kernel
theorem d_Model_count_80 : decode prog_9_method_36_code 80 = .ok (.iload_n 3, 1) := by decide +kernel
theorem d_Model_count_81 : decode prog_9_method_36_code 81 = .ok (.iaload, 1) := by decide +kernel
theorem d_Model_count_82 : decode prog_9_method_36_code 82 = .ok (.bipush 8, 2) := by decide +kernel
theorem d_Model_count_84 : decode prog_9_method_36_code 84 = .ok (.if_icmp .ne 6, 3) := by decide +kernel
theorem d_Model_count_87 : decode prog_9_method_36_code 87 = .ok (.iinc 2 1, 3) := by decide +kernel
theorem d_Model_count_90 : decode prog_9_method_36_code 90 = .ok (.iinc 3 1, 3) := by decide +kernel
theorem d_Model_count_93 : decode prog_9_method_36_code 93 = .ok (.goto (-25), 3) := by decide +kernel
theorem d_Model_count_96 : decode prog_9_method_36_code 96 = .ok (.iload_n 2, 1) := by decide +kernel
theorem d_Model_count_97 : decode prog_9_method_36_code 97 = .ok (.ireturn, 1) := by decide +kernel
theorem d_Model_count_98 : decode prog_9_method_36_code 98 = .ok (.aload_n 0, 1) := by decide +kernel
theorem d_Model_count_99 : decode prog_9_method_36_code 99 = .ok (.getfield 89, 3) := by decide +kernel
theorem d_Model_count_102 : decode prog_9_method_36_code 102 = .ok (.ifCond .eq 7, 3) := by decide +kernel
theorem d_Model_count_105 : decode prog_9_method_36_code 105 = .ok (.iconst 1, 1) := by decide +kernel
theorem d_Model_count_106 : decode prog_9_method_36_code 106 = .ok (.goto 4, 3) := by decide +kernel
theorem d_Model_count_109 : decode prog_9_method_36_code 109 = .ok (.iconst 0, 1) := by decide +kernel
theorem d_Model_count_110 : decode prog_9_method_36_code 110 = .ok (.ireturn, 1) := by decide +kernel
theorem d_Model_count_111 : decode prog_9_method_36_code 111 = .ok (.iconst 0, 1) := by decide +kernel
theorem d_Model_count_112 : decode prog_9_method_36_code 112 = .ok (.istore_n 3, 1) := by decide +kernel
theorem d_Model_count_113 : decode prog_9_method_36_code 113 = .ok (.iload_n 3, 1) := by decide +kernel
theorem d_Model_count_114 : decode prog_9_method_36_code 114 = .ok (.aload_n 0, 1) := by decide +kernel
theorem d_Model_count_115 : decode prog_9_method_36_code 115 = .ok (.getfield 7, 3) := by decide +kernel
theorem d_Model_count_118 : decode prog_9_method_36_code 118 = .ok (.if_icmp .ge 42, 3) := by decide +kernel
theorem d_Model_count_121 : decode prog_9_method_36_code 121 = .ok (.iload_n 1, 1) := by decide +kernel
theorem d_Model_count_122 : decode prog_9_method_36_code 122 = .ok (.iconst 4, 1) := by decide +kernel
theorem d_Model_count_123 : decode prog_9_method_36_code 123 = .ok (.if_icmp .ne 16, 3) := by decide +kernel
theorem d_Model_count_126 : decode prog_9_method_36_code 126 = .ok (.aload_n 0, 1) := by decide +kernel
theorem d_Model_count_127 : decode prog_9_method_36_code 127 = .ok (.getfield 13, 3) := by decide +kernel
theorem d_Model_count_130 : decode prog_9_method_36_code 130 = .ok (.iload_n 3, 1) := by decide +kernel
theorem d_Model_count_131 : decode prog_9_method_36_code 131 = .ok (.iaload, 1) := by decide +kernel
theorem d_Model_count_132 : decode prog_9_method_36_code 132 = .ok (.iconst 2, 1) := by decide +kernel
theorem d_Model_count_133 : decode prog_9_method_36_code 133 = .ok (.if_icmp .ge 21, 3) := by decide +kernel
theorem d_Model_count_136 : decode prog_9_method_36_code 136 = .ok (.goto 15, 3) := by decide +kernel
theorem d_Model_count_139 : decode prog_9_method_36_code 139 = .ok (.aload_n 0, 1) := by decide +kernel
theorem d_Model_count_140 : decode prog_9_method_36_code 140 = .ok (.getfield 13, 3) := by decide +kernel
theorem d_Model_count_143 : decode prog_9_method_36_code 143 = .ok (.iload_n 3, 1) := by decide +kernel
theorem d_Model_count_144 : decode prog_9_method_36_code 144 = .ok (.iaload, 1) := by decide +kernel
theorem d_Model_count_145 : decode prog_9_method_36_code 145 = .ok (.iload_n 1, 1) := by decide +kernel
theorem d_Model_count_146 : decode prog_9_method_36_code 146 = .ok (.iconst 3, 1) := by decide +kernel
theorem d_Model_count_147 : decode prog_9_method_36_code 147 = .ok (.isub, 1) := by decide +kernel
theorem d_Model_count_148 : decode prog_9_method_36_code 148 = .ok (.if_icmp .ne 6, 3) := by decide +kernel
theorem d_Model_count_151 : decode prog_9_method_36_code 151 = .ok (.iinc 2 1, 3) := by decide +kernel
theorem d_Model_count_154 : decode prog_9_method_36_code 154 = .ok (.iinc 3 1, 3) := by decide +kernel
theorem d_Model_count_157 : decode prog_9_method_36_code 157 = .ok (.goto (-44), 3) := by decide +kernel
theorem d_Model_count_160 : decode prog_9_method_36_code 160 = .ok (.iload_n 2, 1) := by decide +kernel
theorem d_Model_count_161 : decode prog_9_method_36_code 161 = .ok (.ireturn, 1) := by decide +kernel
theorem d_Model_count_162 : decode prog_9_method_36_code 162 = .ok (.aload_n 0, 1) := by decide +kernel
theorem d_Model_count_163 : decode prog_9_method_36_code 163 = .ok (.getfield 145, 3) := by decide +kernel
theorem d_Model_count_166 : decode prog_9_method_36_code 166 = .ok (.ireturn, 1) := by decide +kernel
theorem d_Model_count_167 : decode prog_9_method_36_code 167 = .ok (.aload_n 0, 1) := by decide +kernel
theorem d_Model_count_168 : decode prog_9_method_36_code 168 = .ok (.iconst 1, 1) := by decide +kernel
theorem d_Model_count_169 : decode prog_9_method_36_code 169 = .ok (.invokevirtual 97, 3) := by decide +kernel
theorem d_Model_count_172 : decode prog_9_method_36_code 172 = .ok (.ireturn, 1) := by decide +kernel
