theorem d_Law_cell_7_0 : decode method_3_code 0 = .ok (.aload 6, 2) := by decide +kernel
theorem d_Law_cell_7_2 : decode method_3_code 2 = .ok (.iconst 0, 1) := by decide +kernel
theorem d_Law_cell_7_3 : decode method_3_code 3 = .ok (.aload_n 0, 1) := by decide +kernel
theorem d_Law_cell_7_4 : decode method_3_code 4 = .ok (.iload_n 1, 1) := by decide +kernel
theorem d_Law_cell_7_5 : decode method_3_code 5 = .ok (.iload_n 2, 1) := by decide +kernel
theorem d_Law_cell_7_6 : decode method_3_code 6 = .ok (.iload_n 3, 1) := by decide +kernel
theorem d_Law_cell_7_7 : decode method_3_code 7 = .ok (.iload 4, 2) := by decide +kernel
theorem d_Law_cell_7_9 : decode method_3_code 9 = .ok (.iload 5, 2) := by decide +kernel
theorem d_Law_cell_7_11 : decode method_3_code 11 = .ok (.invokevirtual 7, 3) := by decide +kernel
theorem d_Law_cell_7_14 : decode method_3_code 14 = .ok (.i2l, 1) := by decide +kernel
theorem d_Law_cell_7_15 : decode method_3_code 15 = .ok (.lastore, 1) := by decide +kernel
theorem d_Law_cell_7_16 : decode method_3_code 16 = .ok (.goto 15, 3) := by decide +kernel
theorem d_Law_cell_7_19 : decode method_3_code 19 = .ok (.astore 7, 2) := by decide +kernel
theorem d_Law_cell_7_21 : decode method_3_code 21 = .ok (.iconst 1, 1) := by decide +kernel
theorem d_Law_cell_7_22 : decode method_3_code 22 = .ok (.ireturn, 1) := by decide +kernel
theorem d_Law_cell_7_23 : decode method_3_code 23 = .ok (.astore 7, 2) := by decide +kernel
theorem d_Law_cell_7_25 : decode method_3_code 25 = .ok (.iconst 2, 1) := by decide +kernel
theorem d_Law_cell_7_26 : decode method_3_code 26 = .ok (.ireturn, 1) := by decide +kernel
theorem d_Law_cell_7_27 : decode method_3_code 27 = .ok (.astore 7, 2) := by decide +kernel
theorem d_Law_cell_7_29 : decode method_3_code 29 = .ok (.iconst 3, 1) := by decide +kernel
theorem d_Law_cell_7_30 : decode method_3_code 30 = .ok (.ireturn, 1) := by decide +kernel
theorem d_Law_cell_7_31 : decode method_3_code 31 = .ok (.iconst 0, 1) := by decide +kernel
theorem d_Law_cell_7_32 : decode method_3_code 32 = .ok (.ireturn, 1) := by decide +kernel
theorem d_Law_part_0 : decode method_4_code 0 = .ok (.aload 7, 2) := by decide +kernel
theorem d_Law_part_2 : decode method_4_code 2 = .ok (.iconst 0, 1) := by decide +kernel
theorem d_Law_part_3 : decode method_4_code 3 = .ok (.aload_n 0, 1) := by decide +kernel
theorem d_Law_part_4 : decode method_4_code 4 = .ok (.iload_n 1, 1) := by decide +kernel
theorem d_Law_part_5 : decode method_4_code 5 = .ok (.iload_n 2, 1) := by decide +kernel
theorem d_Law_part_6 : decode method_4_code 6 = .ok (.iload_n 3, 1) := by decide +kernel
theorem d_Law_part_7 : decode method_4_code 7 = .ok (.iload 4, 2) := by decide +kernel
theorem d_Law_part_9 : decode method_4_code 9 = .ok (.iload 5, 2) := by decide +kernel
theorem d_Law_part_11 : decode method_4_code 11 = .ok (.iload 6, 2) := by decide +kernel
theorem d_Law_part_13 : decode method_4_code 13 = .ok (.invokevirtual 19, 3) := by decide +kernel
theorem d_Law_part_16 : decode method_4_code 16 = .ok (.i2l, 1) := by decide +kernel
theorem d_Law_part_17 : decode method_4_code 17 = .ok (.lastore, 1) := by decide +kernel
theorem d_Law_part_18 : decode method_4_code 18 = .ok (.goto 11, 3) := by decide +kernel
theorem d_Law_part_21 : decode method_4_code 21 = .ok (.astore 8, 2) := by decide +kernel
theorem d_Law_part_23 : decode method_4_code 23 = .ok (.iconst 1, 1) := by decide +kernel
theorem d_Law_part_24 : decode method_4_code 24 = .ok (.ireturn, 1) := by decide +kernel
theorem d_Law_part_25 : decode method_4_code 25 = .ok (.astore 8, 2) := by decide +kernel
theorem d_Law_part_27 : decode method_4_code 27 = .ok (.iconst 2, 1) := by decide +kernel
theorem d_Law_part_28 : decode method_4_code 28 = .ok (.ireturn, 1) := by decide +kernel
theorem d_Law_part_29 : decode method_4_code 29 = .ok (.iconst 0, 1) := by decide +kernel
theorem d_Law_part_30 : decode method_4_code 30 = .ok (.ireturn, 1) := by decide +kernel
theorem d_Law_instance_0 : decode method_5_code 0 = .ok (.aload 4, 2) := by decide +kernel
theorem d_Law_instance_2 : decode method_5_code 2 = .ok (.iconst 0, 1) := by decide +kernel
theorem d_Law_instance_3 : decode method_5_code 3 = .ok (.aload_n 0, 1) := by decide +kernel
theorem d_Law_instance_4 : decode method_5_code 4 = .ok (.iload_n 1, 1) := by decide +kernel
theorem d_Law_instance_5 : decode method_5_code 5 = .ok (.iload_n 2, 1) := by decide +kernel
theorem d_Law_instance_6 : decode method_5_code 6 = .ok (.iload_n 3, 1) := by decide +kernel
theorem d_Law_instance_7 : decode method_5_code 7 = .ok (.invokevirtual 23, 3) := by decide +kernel
theorem d_Law_instance_10 : decode method_5_code 10 = .ok (.i2l, 1) := by decide +kernel
theorem d_Law_instance_11 : decode method_5_code 11 = .ok (.lastore, 1) := by decide +kernel
theorem d_Law_instance_12 : decode method_5_code 12 = .ok (.goto 15, 3) := by decide +kernel
theorem d_Law_instance_15 : decode method_5_code 15 = .ok (.astore 5, 2) := by decide +kernel
theorem d_Law_instance_17 : decode method_5_code 17 = .ok (.iconst 1, 1) := by decide +kernel
theorem d_Law_instance_18 : decode method_5_code 18 = .ok (.ireturn, 1) := by decide +kernel
theorem d_Law_instance_19 : decode method_5_code 19 = .ok (.astore 5, 2) := by decide +kernel
theorem d_Law_instance_21 : decode method_5_code 21 = .ok (.iconst 2, 1) := by decide +kernel
theorem d_Law_instance_22 : decode method_5_code 22 = .ok (.ireturn, 1) := by decide +kernel
theorem d_Law_instance_23 : decode method_5_code 23 = .ok (.astore 5, 2) := by decide +kernel
theorem d_Law_instance_25 : decode method_5_code 25 = .ok (.iconst 3, 1) := by decide +kernel
theorem d_Law_instance_26 : decode method_5_code 26 = .ok (.ireturn, 1) := by decide +kernel
theorem d_Law_instance_27 : decode method_5_code 27 = .ok (.iconst 0, 1) := by decide +kernel
theorem d_Law_instance_28 : decode method_5_code 28 = .ok (.ireturn, 1) := by decide +kernel
theorem d_Law_build_0 : decode method_6_code 0 = .ok (.aload_n 1, 1) := by decide +kernel
theorem d_Law_build_1 : decode method_6_code 1 = .ok (.iconst 0, 1) := by decide +kernel
theorem d_Law_build_2 : decode method_6_code 2 = .ok (.aload_n 0, 1) := by decide +kernel
theorem d_Law_build_3 : decode method_6_code 3 = .ok (.invokevirtual 27, 3) := by decide +kernel
theorem d_Law_build_6 : decode method_6_code 6 = .ok (.i2l, 1) := by decide +kernel
theorem d_Law_build_7 : decode method_6_code 7 = .ok (.lastore, 1) := by decide +kernel
theorem d_Law_build_8 : decode method_6_code 8 = .ok (.goto 6, 3) := by decide +kernel
theorem d_Law_build_11 : decode method_6_code 11 = .ok (.astore_n 2, 1) := by decide +kernel
theorem d_Law_build_12 : decode method_6_code 12 = .ok (.iconst 1, 1) := by decide +kernel
theorem d_Law_build_13 : decode method_6_code 13 = .ok (.ireturn, 1) := by decide +kernel
theorem d_Law_build_14 : decode method_6_code 14 = .ok (.iconst 0, 1) := by decide +kernel
theorem d_Law_build_15 : decode method_6_code 15 = .ok (.ireturn, 1) := by decide +kernel
theorem d_Law_loop_0 : decode method_7_code 0 = .ok (.aload_n 1, 1) := by decide +kernel
theorem d_Law_loop_1 : decode method_7_code 1 = .ok (.iconst 0, 1) := by decide +kernel
theorem d_Law_loop_2 : decode method_7_code 2 = .ok (.aload_n 0, 1) := by decide +kernel
theorem d_Law_loop_3 : decode method_7_code 3 = .ok (.invokevirtual 31, 3) := by decide +kernel
theorem d_Law_loop_6 : decode method_7_code 6 = .ok (.i2l, 1) := by decide +kernel
theorem d_Law_loop_7 : decode method_7_code 7 = .ok (.lastore, 1) := by decide +kernel
theorem d_Law_loop_8 : decode method_7_code 8 = .ok (.goto 6, 3) := by decide +kernel
theorem d_Law_loop_11 : decode method_7_code 11 = .ok (.astore_n 2, 1) := by decide +kernel
theorem d_Law_loop_12 : decode method_7_code 12 = .ok (.iconst 1, 1) := by decide +kernel
theorem d_Law_loop_13 : decode method_7_code 13 = .ok (.ireturn, 1) := by decide +kernel
theorem d_Law_loop_14 : decode method_7_code 14 = .ok (.iconst 0, 1) := by decide +kernel
theorem d_Law_loop_15 : decode method_7_code 15 = .ok (.ireturn, 1) := by decide +kernel
theorem d_Law_set_0 : decode method_8_code 0 = .ok (.aload_n 3, 1) := by decide +kernel
theorem d_Law_set_1 : decode method_8_code 1 = .ok (.iconst 0, 1) := by decide +kernel
theorem d_Law_set_2 : decode method_8_code 2 = .ok (.aload_n 0, 1) := by decide +kernel
theorem d_Law_set_3 : decode method_8_code 3 = .ok (.iload_n 1, 1) := by decide +kernel
theorem d_Law_set_4 : decode method_8_code 4 = .ok (.iload_n 2, 1) := by decide +kernel
theorem d_Law_set_5 : decode method_8_code 5 = .ok (.invokevirtual 36, 3) := by decide +kernel
theorem d_Law_set_8 : decode method_8_code 8 = .ok (.i2l, 1) := by decide +kernel
theorem d_Law_set_9 : decode method_8_code 9 = .ok (.lastore, 1) := by decide +kernel
theorem d_Law_set_10 : decode method_8_code 10 = .ok (.goto 15, 3) := by decide +kernel
theorem d_Law_set_13 : decode method_8_code 13 = .ok (.astore 4, 2) := by decide +kernel
theorem d_Law_set_15 : decode method_8_code 15 = .ok (.iconst 1, 1) := by decide +kernel
theorem d_Law_set_16 : decode method_8_code 16 = .ok (.ireturn, 1) := by decide +kernel
theorem d_Law_set_17 : decode method_8_code 17 = .ok (.astore 4, 2) := by decide +kernel
theorem d_Law_set_19 : decode method_8_code 19 = .ok (.iconst 2, 1) := by decide +kernel
theorem d_Law_set_20 : decode method_8_code 20 = .ok (.ireturn, 1) := by decide +kernel
theorem d_Law_set_21 : decode method_8_code 21 = .ok (.astore 4, 2) := by decide +kernel
theorem d_Law_set_23 : decode method_8_code 23 = .ok (.iconst 3, 1) := by decide +kernel
theorem d_Law_set_24 : decode method_8_code 24 = .ok (.ireturn, 1) := by decide +kernel
theorem d_Law_set_25 : decode method_8_code 25 = .ok (.iconst 0, 1) := by decide +kernel
theorem d_Law_set_26 : decode method_8_code 26 = .ok (.ireturn, 1) := by decide +kernel
theorem d_Law_tick_0 : decode method_9_code 0 = .ok (.aload_n 2, 1) := by decide +kernel
theorem d_Law_tick_1 : decode method_9_code 1 = .ok (.iconst 0, 1) := by decide +kernel
theorem d_Law_tick_2 : decode method_9_code 2 = .ok (.aload_n 0, 1) := by decide +kernel
theorem d_Law_tick_3 : decode method_9_code 3 = .ok (.iload_n 1, 1) := by decide +kernel
theorem d_Law_tick_4 : decode method_9_code 4 = .ok (.invokevirtual 40, 3) := by decide +kernel
theorem d_Law_tick_7 : decode method_9_code 7 = .ok (.i2l, 1) := by decide +kernel
theorem d_Law_tick_8 : decode method_9_code 8 = .ok (.lastore, 1) := by decide +kernel
theorem d_Law_tick_9 : decode method_9_code 9 = .ok (.goto 9, 3) := by decide +kernel
theorem d_Law_tick_12 : decode method_9_code 12 = .ok (.astore_n 3, 1) := by decide +kernel
theorem d_Law_tick_13 : decode method_9_code 13 = .ok (.iconst 1, 1) := by decide +kernel
theorem d_Law_tick_14 : decode method_9_code 14 = .ok (.ireturn, 1) := by decide +kernel
theorem d_Law_tick_15 : decode method_9_code 15 = .ok (.astore_n 3, 1) := by decide +kernel
theorem d_Law_tick_16 : decode method_9_code 16 = .ok (.iconst 2, 1) := by decide +kernel
theorem d_Law_tick_17 : decode method_9_code 17 = .ok (.ireturn, 1) := by decide +kernel
theorem d_Law_tick_18 : decode method_9_code 18 = .ok (.iconst 0, 1) := by decide +kernel
theorem d_Law_tick_19 : decode method_9_code 19 = .ok (.ireturn, 1) := by decide +kernel
theorem d_Law_stick_0 : decode method_10_code 0 = .ok (.aload_n 3, 1) := by decide +kernel
theorem d_Law_stick_1 : decode method_10_code 1 = .ok (.iconst 0, 1) := by decide +kernel
theorem d_Law_stick_2 : decode method_10_code 2 = .ok (.aload_n 0, 1) := by decide +kernel
theorem d_Law_stick_3 : decode method_10_code 3 = .ok (.iload_n 1, 1) := by decide +kernel
theorem d_Law_stick_4 : decode method_10_code 4 = .ok (.iload_n 2, 1) := by decide +kernel
theorem d_Law_stick_5 : decode method_10_code 5 = .ok (.invokevirtual 44, 3) := by decide +kernel
theorem d_Law_stick_8 : decode method_10_code 8 = .ok (.i2l, 1) := by decide +kernel
theorem d_Law_stick_9 : decode method_10_code 9 = .ok (.lastore, 1) := by decide +kernel
theorem d_Law_stick_10 : decode method_10_code 10 = .ok (.goto 11, 3) := by decide +kernel
theorem d_Law_stick_13 : decode method_10_code 13 = .ok (.astore 4, 2) := by decide +kernel
theorem d_Law_stick_15 : decode method_10_code 15 = .ok (.iconst 1, 1) := by decide +kernel
theorem d_Law_stick_16 : decode method_10_code 16 = .ok (.ireturn, 1) := by decide +kernel
theorem d_Law_stick_17 : decode method_10_code 17 = .ok (.astore 4, 2) := by decide +kernel
theorem d_Law_stick_19 : decode method_10_code 19 = .ok (.iconst 2, 1) := by decide +kernel
theorem d_Law_stick_20 : decode method_10_code 20 = .ok (.ireturn, 1) := by decide +kernel
theorem d_Law_stick_21 : decode method_10_code 21 = .ok (.iconst 0, 1) := by decide +kernel
theorem d_Law_stick_22 : decode method_10_code 22 = .ok (.ireturn, 1) := by decide +kernel
theorem d_Law_value_0 : decode method_11_code 0 = .ok (.aload_n 2, 1) := by decide +kernel
theorem d_Law_value_1 : decode method_11_code 1 = .ok (.iconst 0, 1) := by decide +kernel
theorem d_Law_value_2 : decode method_11_code 2 = .ok (.aload_n 0, 1) := by decide +kernel
theorem d_Law_value_3 : decode method_11_code 3 = .ok (.iload_n 1, 1) := by decide +kernel
theorem d_Law_value_4 : decode method_11_code 4 = .ok (.invokevirtual 47, 3) := by decide +kernel
theorem d_Law_value_7 : decode method_11_code 7 = .ok (.i2l, 1) := by decide +kernel
theorem d_Law_value_8 : decode method_11_code 8 = .ok (.lastore, 1) := by decide +kernel
theorem d_Law_value_9 : decode method_11_code 9 = .ok (.goto 6, 3) := by decide +kernel
theorem d_Law_value_12 : decode method_11_code 12 = .ok (.astore_n 3, 1) := by decide +kernel
theorem d_Law_value_13 : decode method_11_code 13 = .ok (.iconst 1, 1) := by decide +kernel
theorem d_Law_value_14 : decode method_11_code 14 = .ok (.ireturn, 1) := by decide +kernel
theorem d_Law_value_15 : decode method_11_code 15 = .ok (.iconst 0, 1) := by decide +kernel
theorem d_Law_value_16 : decode method_11_code 16 = .ok (.ireturn, 1) := by decide +kernel
theorem d_Law_level_0 : decode method_12_code 0 = .ok (.aload_n 2, 1) := by decide +kernel
theorem d_Law_level_1 : decode method_12_code 1 = .ok (.iconst 0, 1) := by decide +kernel
theorem d_Law_level_2 : decode method_12_code 2 = .ok (.aload_n 0, 1) := by decide +kernel
theorem d_Law_level_3 : decode method_12_code 3 = .ok (.iload_n 1, 1) := by decide +kernel
theorem d_Law_level_4 : decode method_12_code 4 = .ok (.invokevirtual 50, 3) := by decide +kernel
theorem d_Law_level_7 : decode method_12_code 7 = .ok (.i2l, 1) := by decide +kernel
theorem d_Law_level_8 : decode method_12_code 8 = .ok (.lastore, 1) := by decide +kernel
theorem d_Law_level_9 : decode method_12_code 9 = .ok (.goto 9, 3) := by decide +kernel
theorem d_Law_level_12 : decode method_12_code 12 = .ok (.astore_n 3, 1) := by decide +kernel
theorem d_Law_level_13 : decode method_12_code 13 = .ok (.iconst 1, 1) := by decide +kernel
theorem d_Law_level_14 : decode method_12_code 14 = .ok (.ireturn, 1) := by decide +kernel
theorem d_Law_level_15 : decode method_12_code 15 = .ok (.astore_n 3, 1) := by decide +kernel
theorem d_Law_level_16 : decode method_12_code 16 = .ok (.iconst 2, 1) := by decide +kernel
theorem d_Law_level_17 : decode method_12_code 17 = .ok (.ireturn, 1) := by decide +kernel
theorem d_Law_level_18 : decode method_12_code 18 = .ok (.iconst 0, 1) := by decide +kernel
theorem d_Law_level_19 : decode method_12_code 19 = .ok (.ireturn, 1) := by decide +kernel
theorem d_Law_flips_0 : decode method_13_code 0 = .ok (.aload_n 2, 1) := by decide +kernel
theorem d_Law_flips_1 : decode method_13_code 1 = .ok (.iconst 0, 1) := by decide +kernel
theorem d_Law_flips_2 : decode method_13_code 2 = .ok (.aload_n 0, 1) := by decide +kernel
theorem d_Law_flips_3 : decode method_13_code 3 = .ok (.iload_n 1, 1) := by decide +kernel
theorem d_Law_flips_4 : decode method_13_code 4 = .ok (.invokevirtual 53, 3) := by decide +kernel
theorem d_Law_flips_7 : decode method_13_code 7 = .ok (.i2l, 1) := by decide +kernel
theorem d_Law_flips_8 : decode method_13_code 8 = .ok (.lastore, 1) := by decide +kernel
theorem d_Law_flips_9 : decode method_13_code 9 = .ok (.goto 6, 3) := by decide +kernel
theorem d_Law_flips_12 : decode method_13_code 12 = .ok (.astore_n 3, 1) := by decide +kernel
theorem d_Law_flips_13 : decode method_13_code 13 = .ok (.iconst 1, 1) := by decide +kernel
theorem d_Law_flips_14 : decode method_13_code 14 = .ok (.ireturn, 1) := by decide +kernel
theorem d_Law_flips_15 : decode method_13_code 15 = .ok (.iconst 0, 1) := by decide +kernel
theorem d_Law_flips_16 : decode method_13_code 16 = .ok (.ireturn, 1) := by decide +kernel
theorem d_Law_state_0 : decode method_14_code 0 = .ok (.aload_n 2, 1) := by decide +kernel
theorem d_Law_state_1 : decode method_14_code 1 = .ok (.iconst 0, 1) := by decide +kernel
theorem d_Law_state_2 : decode method_14_code 2 = .ok (.aload_n 0, 1) := by decide +kernel
theorem d_Law_state_3 : decode method_14_code 3 = .ok (.iload_n 1, 1) := by decide +kernel
theorem d_Law_state_4 : decode method_14_code 4 = .ok (.invokevirtual 56, 3) := by decide +kernel
theorem d_Law_state_7 : decode method_14_code 7 = .ok (.i2l, 1) := by decide +kernel
theorem d_Law_state_8 : decode method_14_code 8 = .ok (.lastore, 1) := by decide +kernel
theorem d_Law_state_9 : decode method_14_code 9 = .ok (.goto 6, 3) := by decide +kernel
theorem d_Law_state_12 : decode method_14_code 12 = .ok (.astore_n 3, 1) := by decide +kernel
theorem d_Law_state_13 : decode method_14_code 13 = .ok (.iconst 1, 1) := by decide +kernel
theorem d_Law_state_14 : decode method_14_code 14 = .ok (.ireturn, 1) := by decide +kernel
theorem d_Law_state_15 : decode method_14_code 15 = .ok (.iconst 0, 1) := by decide +kernel
theorem d_Law_state_16 : decode method_14_code 16 = .ok (.ireturn, 1) := by decide +kernel
theorem d_Law_count_0 : decode method_15_code 0 = .ok (.aload_n 2, 1) := by decide +kernel
theorem d_Law_count_1 : decode method_15_code 1 = .ok (.iconst 0, 1) := by decide +kernel
theorem d_Law_count_2 : decode method_15_code 2 = .ok (.aload_n 0, 1) := by decide +kernel
theorem d_Law_count_3 : decode method_15_code 3 = .ok (.iload_n 1, 1) := by decide +kernel
theorem d_Law_count_4 : decode method_15_code 4 = .ok (.invokevirtual 59, 3) := by decide +kernel
theorem d_Law_count_7 : decode method_15_code 7 = .ok (.i2l, 1) := by decide +kernel
theorem d_Law_count_8 : decode method_15_code 8 = .ok (.lastore, 1) := by decide +kernel
theorem d_Law_count_9 : decode method_15_code 9 = .ok (.goto 6, 3) := by decide +kernel
theorem d_Law_count_12 : decode method_15_code 12 = .ok (.astore_n 3, 1) := by decide +kernel
theorem d_Law_count_13 : decode method_15_code 13 = .ok (.iconst 1, 1) := by decide +kernel
theorem d_Law_count_14 : decode method_15_code 14 = .ok (.ireturn, 1) := by decide +kernel
theorem d_Law_count_15 : decode method_15_code 15 = .ok (.iconst 0, 1) := by decide +kernel
theorem d_Law_count_16 : decode method_15_code 16 = .ok (.ireturn, 1) := by decide +kernel
