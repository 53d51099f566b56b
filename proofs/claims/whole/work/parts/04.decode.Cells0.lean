theorem d_Cells_init_0 : decode prog_2_method_1_code 0 = .ok (.aload_n 0, 1) := by decide +kernel
theorem d_Cells_init_1 : decode prog_2_method_1_code 1 = .ok (.invokespecial 3, 3) := by decide +kernel
theorem d_Cells_init_4 : decode prog_2_method_1_code 4 = .ok (.aload_n 0, 1) := by decide +kernel
theorem d_Cells_init_5 : decode prog_2_method_1_code 5 = .ok (.iconst 0, 1) := by decide +kernel
theorem d_Cells_init_6 : decode prog_2_method_1_code 6 = .ok (.putfield 9, 3) := by decide +kernel
theorem d_Cells_init_9 : decode prog_2_method_1_code 9 = .ok (.aload_n 0, 1) := by decide +kernel
theorem d_Cells_init_10 : decode prog_2_method_1_code 10 = .ok (.iload_n 1, 1) := by decide +kernel
theorem d_Cells_init_11 : decode prog_2_method_1_code 11 = .ok (.newarray .int, 2) := by decide +kernel
theorem d_Cells_init_13 : decode prog_2_method_1_code 13 = .ok (.putfield 15, 3) := by decide +kernel
theorem d_Cells_init_16 : decode prog_2_method_1_code 16 = .ok (.aload_n 0, 1) := by decide +kernel
theorem d_Cells_init_17 : decode prog_2_method_1_code 17 = .ok (.iload_n 1, 1) := by decide +kernel
theorem d_Cells_init_18 : decode prog_2_method_1_code 18 = .ok (.newarray .int, 2) := by decide +kernel
theorem d_Cells_init_20 : decode prog_2_method_1_code 20 = .ok (.putfield 19, 3) := by decide +kernel
theorem d_Cells_init_23 : decode prog_2_method_1_code 23 = .ok (.aload_n 0, 1) := by decide +kernel
theorem d_Cells_init_24 : decode prog_2_method_1_code 24 = .ok (.iload_n 1, 1) := by decide +kernel
theorem d_Cells_init_25 : decode prog_2_method_1_code 25 = .ok (.newarray .int, 2) := by decide +kernel
theorem d_Cells_init_27 : decode prog_2_method_1_code 27 = .ok (.putfield 22, 3) := by decide +kernel
theorem d_Cells_init_30 : decode prog_2_method_1_code 30 = .ok (.aload_n 0, 1) := by decide +kernel
theorem d_Cells_init_31 : decode prog_2_method_1_code 31 = .ok (.iload_n 1, 1) := by decide +kernel
theorem d_Cells_init_32 : decode prog_2_method_1_code 32 = .ok (.newarray .int, 2) := by decide +kernel
theorem d_Cells_init_34 : decode prog_2_method_1_code 34 = .ok (.putfield 25, 3) := by decide +kernel
theorem d_Cells_init_37 : decode prog_2_method_1_code 37 = .ok (.aload_n 0, 1) := by decide +kernel
theorem d_Cells_init_38 : decode prog_2_method_1_code 38 = .ok (.iload_n 1, 1) := by decide +kernel
theorem d_Cells_init_39 : decode prog_2_method_1_code 39 = .ok (.newarray .int, 2) := by decide +kernel
theorem d_Cells_init_41 : decode prog_2_method_1_code 41 = .ok (.putfield 28, 3) := by decide +kernel
theorem d_Cells_init_44 : decode prog_2_method_1_code 44 = .ok (.aload_n 0, 1) := by decide +kernel
theorem d_Cells_init_45 : decode prog_2_method_1_code 45 = .ok (.iload_n 1, 1) := by decide +kernel
theorem d_Cells_init_46 : decode prog_2_method_1_code 46 = .ok (.newarray .int, 2) := by decide +kernel
theorem d_Cells_init_48 : decode prog_2_method_1_code 48 = .ok (.putfield 31, 3) := by decide +kernel
theorem d_Cells_init_51 : decode prog_2_method_1_code 51 = .ok (.return_, 1) := by decide +kernel
theorem d_Cells_add_0 : decode prog_2_method_2_code 0 = .ok (.aload_n 0, 1) := by decide +kernel
theorem d_Cells_add_1 : decode prog_2_method_2_code 1 = .ok (.getfield 15, 3) := by decide +kernel
theorem d_Cells_add_4 : decode prog_2_method_2_code 4 = .ok (.aload_n 0, 1) := by decide +kernel
theorem d_Cells_add_5 : decode prog_2_method_2_code 5 = .ok (.getfield 9, 3) := by decide +kernel
theorem d_Cells_add_8 : decode prog_2_method_2_code 8 = .ok (.iload_n 1, 1) := by decide +kernel
theorem d_Cells_add_9 : decode prog_2_method_2_code 9 = .ok (.iastore, 1) := by decide +kernel
theorem d_Cells_add_10 : decode prog_2_method_2_code 10 = .ok (.aload_n 0, 1) := by decide +kernel
theorem d_Cells_add_11 : decode prog_2_method_2_code 11 = .ok (.getfield 19, 3) := by decide +kernel
theorem d_Cells_add_14 : decode prog_2_method_2_code 14 = .ok (.aload_n 0, 1) := by decide +kernel
theorem d_Cells_add_15 : decode prog_2_method_2_code 15 = .ok (.getfield 9, 3) := by decide +kernel
theorem d_Cells_add_18 : decode prog_2_method_2_code 18 = .ok (.iload_n 2, 1) := by decide +kernel
theorem d_Cells_add_19 : decode prog_2_method_2_code 19 = .ok (.iastore, 1) := by decide +kernel
theorem d_Cells_add_20 : decode prog_2_method_2_code 20 = .ok (.aload_n 0, 1) := by decide +kernel
theorem d_Cells_add_21 : decode prog_2_method_2_code 21 = .ok (.getfield 22, 3) := by decide +kernel
theorem d_Cells_add_24 : decode prog_2_method_2_code 24 = .ok (.aload_n 0, 1) := by decide +kernel
theorem d_Cells_add_25 : decode prog_2_method_2_code 25 = .ok (.getfield 9, 3) := by decide +kernel
theorem d_Cells_add_28 : decode prog_2_method_2_code 28 = .ok (.iload_n 3, 1) := by decide +kernel
theorem d_Cells_add_29 : decode prog_2_method_2_code 29 = .ok (.iastore, 1) := by decide +kernel
theorem d_Cells_add_30 : decode prog_2_method_2_code 30 = .ok (.aload_n 0, 1) := by decide +kernel
theorem d_Cells_add_31 : decode prog_2_method_2_code 31 = .ok (.getfield 25, 3) := by decide +kernel
theorem d_Cells_add_34 : decode prog_2_method_2_code 34 = .ok (.aload_n 0, 1) := by decide +kernel
theorem d_Cells_add_35 : decode prog_2_method_2_code 35 = .ok (.getfield 9, 3) := by decide +kernel
theorem d_Cells_add_38 : decode prog_2_method_2_code 38 = .ok (.iload 4, 2) := by decide +kernel
theorem d_Cells_add_40 : decode prog_2_method_2_code 40 = .ok (.iastore, 1) := by decide +kernel
theorem d_Cells_add_41 : decode prog_2_method_2_code 41 = .ok (.aload_n 0, 1) := by decide +kernel
theorem d_Cells_add_42 : decode prog_2_method_2_code 42 = .ok (.getfield 28, 3) := by decide +kernel
theorem d_Cells_add_45 : decode prog_2_method_2_code 45 = .ok (.aload_n 0, 1) := by decide +kernel
theorem d_Cells_add_46 : decode prog_2_method_2_code 46 = .ok (.getfield 9, 3) := by decide +kernel
theorem d_Cells_add_49 : decode prog_2_method_2_code 49 = .ok (.iload 5, 2) := by decide +kernel
theorem d_Cells_add_51 : decode prog_2_method_2_code 51 = .ok (.iastore, 1) := by decide +kernel
theorem d_Cells_add_52 : decode prog_2_method_2_code 52 = .ok (.aload_n 0, 1) := by decide +kernel
theorem d_Cells_add_53 : decode prog_2_method_2_code 53 = .ok (.getfield 31, 3) := by decide +kernel
theorem d_Cells_add_56 : decode prog_2_method_2_code 56 = .ok (.aload_n 0, 1) := by decide +kernel
theorem d_Cells_add_57 : decode prog_2_method_2_code 57 = .ok (.getfield 9, 3) := by decide +kernel
theorem d_Cells_add_60 : decode prog_2_method_2_code 60 = .ok (.iload_n 1, 1) := by decide +kernel
theorem d_Cells_add_61 : decode prog_2_method_2_code 61 = .ok (.bipush 8, 2) := by decide +kernel
theorem d_Cells_add_63 : decode prog_2_method_2_code 63 = .ok (.if_icmp .ne 8, 3) := by decide +kernel
theorem d_Cells_add_66 : decode prog_2_method_2_code 66 = .ok (.iload 5, 2) := by decide +kernel
theorem d_Cells_add_68 : decode prog_2_method_2_code 68 = .ok (.goto 4, 3) := by decide +kernel
theorem d_Cells_add_71 : decode prog_2_method_2_code 71 = .ok (.iconst 2, 1) := by decide +kernel
theorem d_Cells_add_72 : decode prog_2_method_2_code 72 = .ok (.iastore, 1) := by decide +kernel
theorem d_Cells_add_73 : decode prog_2_method_2_code 73 = .ok (.aload_n 0, 1) := by decide +kernel
theorem d_Cells_add_74 : decode prog_2_method_2_code 74 = .ok (.dup, 1) := by decide +kernel
theorem d_Cells_add_75 : decode prog_2_method_2_code 75 = .ok (.getfield 9, 3) := by decide +kernel
theorem d_Cells_add_78 : decode prog_2_method_2_code 78 = .ok (.iconst 1, 1) := by decide +kernel
theorem d_Cells_add_79 : decode prog_2_method_2_code 79 = .ok (.iadd, 1) := by decide +kernel
theorem d_Cells_add_80 : decode prog_2_method_2_code 80 = .ok (.putfield 9, 3) := by decide +kernel
theorem d_Cells_add_83 : decode prog_2_method_2_code 83 = .ok (.return_, 1) := by decide +kernel
theorem d_Cells_isOfKind_0 : decode prog_2_method_3_code 0 = .ok (.iload_n 1, 1) := by decide +kernel
theorem d_Cells_isOfKind_1 : decode prog_2_method_3_code 1 = .ok (.aload_n 0, 1) := by decide +kernel
theorem d_Cells_isOfKind_2 : decode prog_2_method_3_code 2 = .ok (.getfield 9, 3) := by decide +kernel
theorem d_Cells_isOfKind_5 : decode prog_2_method_3_code 5 = .ok (.invokestatic 34, 3) := by decide +kernel
theorem d_Cells_isOfKind_8 : decode prog_2_method_3_code 8 = .ok (.ifCond .eq 17, 3) := by decide +kernel
theorem d_Cells_isOfKind_11 : decode prog_2_method_3_code 11 = .ok (.aload_n 0, 1) := by decide +kernel
theorem d_Cells_isOfKind_12 : decode prog_2_method_3_code 12 = .ok (.getfield 15, 3) := by decide +kernel
theorem d_Cells_isOfKind_15 : decode prog_2_method_3_code 15 = .ok (.iload_n 1, 1) := by decide +kernel
theorem d_Cells_isOfKind_16 : decode prog_2_method_3_code 16 = .ok (.iaload, 1) := by decide +kernel
theorem d_Cells_isOfKind_17 : decode prog_2_method_3_code 17 = .ok (.iload_n 2, 1) := by decide +kernel
theorem d_Cells_isOfKind_18 : decode prog_2_method_3_code 18 = .ok (.if_icmp .ne 7, 3) := by decide +kernel
theorem d_Cells_isOfKind_21 : decode prog_2_method_3_code 21 = .ok (.iconst 1, 1) := by decide +kernel
theorem d_Cells_isOfKind_22 : decode prog_2_method_3_code 22 = .ok (.goto 4, 3) := by decide +kernel
theorem d_Cells_isOfKind_25 : decode prog_2_method_3_code 25 = .ok (.iconst 0, 1) := by decide +kernel
theorem d_Cells_isOfKind_26 : decode prog_2_method_3_code 26 = .ok (.ireturn, 1) := by decide +kernel
theorem d_Cells_inputs_0 : decode prog_2_method_4_code 0 = .ok (.getstatic 38, 3) := by decide +kernel
theorem d_Cells_inputs_3 : decode prog_2_method_4_code 3 = .ok (.aload_n 0, 1) := by decide +kernel
theorem d_Cells_inputs_4 : decode prog_2_method_4_code 4 = .ok (.getfield 15, 3) := by decide +kernel
theorem d_Cells_inputs_7 : decode prog_2_method_4_code 7 = .ok (.iload_n 1, 1) := by decide +kernel
theorem d_Cells_inputs_8 : decode prog_2_method_4_code 8 = .ok (.iaload, 1) := by decide +kernel
theorem d_Cells_inputs_9 : decode prog_2_method_4_code 9 = .ok (.iaload, 1) := by decide +kernel
theorem d_Cells_inputs_10 : decode prog_2_method_4_code 10 = .ok (.ireturn, 1) := by decide +kernel
theorem d_Cells_dependencies_0 : decode prog_2_method_5_code 0 = .ok (.aload_n 0, 1) := by decide +kernel
theorem d_Cells_dependencies_1 : decode prog_2_method_5_code 1 = .ok (.getfield 15, 3) := by decide +kernel
theorem d_Cells_dependencies_4 : decode prog_2_method_5_code 4 = .ok (.iload_n 1, 1) := by decide +kernel
theorem d_Cells_dependencies_5 : decode prog_2_method_5_code 5 = .ok (.iaload, 1) := by decide +kernel
theorem d_Cells_dependencies_6 : decode prog_2_method_5_code 6 = .ok (.bipush 8, 2) := by decide +kernel
theorem d_Cells_dependencies_8 : decode prog_2_method_5_code 8 = .ok (.if_icmp .ne 7, 3) := by decide +kernel
theorem d_Cells_dependencies_11 : decode prog_2_method_5_code 11 = .ok (.iconst 0, 1) := by decide +kernel
theorem d_Cells_dependencies_12 : decode prog_2_method_5_code 12 = .ok (.goto 8, 3) := by decide +kernel
theorem d_Cells_dependencies_15 : decode prog_2_method_5_code 15 = .ok (.aload_n 0, 1) := by decide +kernel
theorem d_Cells_dependencies_16 : decode prog_2_method_5_code 16 = .ok (.iload_n 1, 1) := by decide +kernel
theorem d_Cells_dependencies_17 : decode prog_2_method_5_code 17 = .ok (.invokevirtual 41, 3) := by decide +kernel
theorem d_Cells_dependencies_20 : decode prog_2_method_5_code 20 = .ok (.ireturn, 1) := by decide +kernel
theorem d_Cells_input_0 : decode prog_2_method_6_code 0 = .ok (.iload_n 2, 1) := by decide +kernel
theorem d_Cells_input_1 : decode prog_2_method_6_code 1 = .ok (.ifCond .ne 10, 3) := by decide +kernel
theorem d_Cells_input_4 : decode prog_2_method_6_code 4 = .ok (.aload_n 0, 1) := by decide +kernel
theorem d_Cells_input_5 : decode prog_2_method_6_code 5 = .ok (.getfield 22, 3) := by decide +kernel
theorem d_Cells_input_8 : decode prog_2_method_6_code 8 = .ok (.iload_n 1, 1) := by decide +kernel
theorem d_Cells_input_9 : decode prog_2_method_6_code 9 = .ok (.iaload, 1) := by decide +kernel
theorem d_Cells_input_10 : decode prog_2_method_6_code 10 = .ok (.ireturn, 1) := by decide +kernel
theorem d_Cells_input_11 : decode prog_2_method_6_code 11 = .ok (.iload_n 2, 1) := by decide +kernel
theorem d_Cells_input_12 : decode prog_2_method_6_code 12 = .ok (.iconst 1, 1) := by decide +kernel
theorem d_Cells_input_13 : decode prog_2_method_6_code 13 = .ok (.if_icmp .ne 12, 3) := by decide +kernel
theorem d_Cells_input_16 : decode prog_2_method_6_code 16 = .ok (.aload_n 0, 1) := by decide +kernel
theorem d_Cells_input_17 : decode prog_2_method_6_code 17 = .ok (.getfield 25, 3) := by decide +kernel
theorem d_Cells_input_20 : decode prog_2_method_6_code 20 = .ok (.iload_n 1, 1) := by decide +kernel
theorem d_Cells_input_21 : decode prog_2_method_6_code 21 = .ok (.iaload, 1) := by decide +kernel
theorem d_Cells_input_22 : decode prog_2_method_6_code 22 = .ok (.goto 9, 3) := by decide +kernel
theorem d_Cells_input_25 : decode prog_2_method_6_code 25 = .ok (.aload_n 0, 1) := by decide +kernel
theorem d_Cells_input_26 : decode prog_2_method_6_code 26 = .ok (.getfield 28, 3) := by decide +kernel
theorem d_Cells_input_29 : decode prog_2_method_6_code 29 = .ok (.iload_n 1, 1) := by decide +kernel
theorem d_Cells_input_30 : decode prog_2_method_6_code 30 = .ok (.iaload, 1) := by decide +kernel
theorem d_Cells_input_31 : decode prog_2_method_6_code 31 = .ok (.ireturn, 1) := by decide +kernel
theorem d_Cells_mayDrive_0 : decode prog_2_method_7_code 0 = .ok (.iconst 0, 1) := by decide +kernel
theorem d_Cells_mayDrive_1 : decode prog_2_method_7_code 1 = .ok (.istore_n 3, 1) := by decide +kernel
theorem d_Cells_mayDrive_2 : decode prog_2_method_7_code 2 = .ok (.iload_n 3, 1) := by decide +kernel
theorem d_Cells_mayDrive_3 : decode prog_2_method_7_code 3 = .ok (.aload_n 0, 1) := by decide +kernel
theorem d_Cells_mayDrive_4 : decode prog_2_method_7_code 4 = .ok (.getfield 9, 3) := by decide +kernel
theorem d_Cells_mayDrive_7 : decode prog_2_method_7_code 7 = .ok (.if_icmp .ge 38, 3) := by decide +kernel
theorem d_Cells_mayDrive_10 : decode prog_2_method_7_code 10 = .ok (.aload_n 0, 1) := by decide +kernel
theorem d_Cells_mayDrive_11 : decode prog_2_method_7_code 11 = .ok (.getfield 19, 3) := by decide +kernel
theorem d_Cells_mayDrive_14 : decode prog_2_method_7_code 14 = .ok (.iload_n 3, 1) := by decide +kernel
theorem d_Cells_mayDrive_15 : decode prog_2_method_7_code 15 = .ok (.iaload, 1) := by decide +kernel
theorem d_Cells_mayDrive_16 : decode prog_2_method_7_code 16 = .ok (.iload_n 1, 1) := by decide +kernel
theorem d_Cells_mayDrive_17 : decode prog_2_method_7_code 17 = .ok (.if_icmp .ne 22, 3) := by decide +kernel
theorem d_Cells_mayDrive_20 : decode prog_2_method_7_code 20 = .ok (.aload_n 0, 1) := by decide +kernel
theorem d_Cells_mayDrive_21 : decode prog_2_method_7_code 21 = .ok (.getfield 15, 3) := by decide +kernel
theorem d_Cells_mayDrive_24 : decode prog_2_method_7_code 24 = .ok (.iload_n 3, 1) := by decide +kernel
theorem d_Cells_mayDrive_25 : decode prog_2_method_7_code 25 = .ok (.iaload, 1) := by decide +kernel
theorem d_Cells_mayDrive_26 : decode prog_2_method_7_code 26 = .ok (.bipush 6, 2) := by decide +kernel
theorem d_Cells_mayDrive_28 : decode prog_2_method_7_code 28 = .ok (.if_icmp .ne 9, 3) := by decide +kernel
theorem d_Cells_mayDrive_31 : decode prog_2_method_7_code 31 = .ok (.iload_n 2, 1) := by decide +kernel
theorem d_Cells_mayDrive_32 : decode prog_2_method_7_code 32 = .ok (.bipush 6, 2) := by decide +kernel
theorem d_Cells_mayDrive_34 : decode prog_2_method_7_code 34 = .ok (.if_icmp .eq 5, 3) := by decide +kernel
theorem d_Cells_mayDrive_37 : decode prog_2_method_7_code 37 = .ok (.iconst 0, 1) := by decide +kernel
theorem d_Cells_mayDrive_38 : decode prog_2_method_7_code 38 = .ok (.ireturn, 1) := by decide +kernel
theorem d_Cells_mayDrive_39 : decode prog_2_method_7_code 39 = .ok (.iinc 3 1, 3) := by decide +kernel
theorem d_Cells_mayDrive_42 : decode prog_2_method_7_code 42 = .ok (.goto (-40), 3) := by decide +kernel
theorem d_Cells_mayDrive_45 : decode prog_2_method_7_code 45 = .ok (.iconst 1, 1) := by decide +kernel
theorem d_Cells_mayDrive_46 : decode prog_2_method_7_code 46 = .ok (.ireturn, 1) := by decide +kernel
theorem d_Cells_registers_0 : decode prog_2_method_8_code 0 = .ok (.iconst 0, 1) := by decide +kernel
theorem d_Cells_registers_1 : decode prog_2_method_8_code 1 = .ok (.istore_n 1, 1) := by decide +kernel
theorem d_Cells_registers_2 : decode prog_2_method_8_code 2 = .ok (.iconst 0, 1) := by decide +kernel
theorem d_Cells_registers_3 : decode prog_2_method_8_code 3 = .ok (.istore_n 2, 1) := by decide +kernel
theorem d_Cells_registers_4 : decode prog_2_method_8_code 4 = .ok (.iload_n 2, 1) := by decide +kernel
theorem d_Cells_registers_5 : decode prog_2_method_8_code 5 = .ok (.aload_n 0, 1) := by decide +kernel
theorem d_Cells_registers_6 : decode prog_2_method_8_code 6 = .ok (.getfield 9, 3) := by decide +kernel
theorem d_Cells_registers_9 : decode prog_2_method_8_code 9 = .ok (.if_icmp .ge 23, 3) := by decide +kernel
theorem d_Cells_registers_12 : decode prog_2_method_8_code 12 = .ok (.aload_n 0, 1) := by decide +kernel
theorem d_Cells_registers_13 : decode prog_2_method_8_code 13 = .ok (.getfield 15, 3) := by decide +kernel
theorem d_Cells_registers_16 : decode prog_2_method_8_code 16 = .ok (.iload_n 2, 1) := by decide +kernel
theorem d_Cells_registers_17 : decode prog_2_method_8_code 17 = .ok (.iaload, 1) := by decide +kernel
theorem d_Cells_registers_18 : decode prog_2_method_8_code 18 = .ok (.bipush 8, 2) := by decide +kernel
theorem d_Cells_registers_20 : decode prog_2_method_8_code 20 = .ok (.if_icmp .ne 6, 3) := by decide +kernel
theorem d_Cells_registers_23 : decode prog_2_method_8_code 23 = .ok (.iinc 1 1, 3) := by decide +kernel
theorem d_Cells_registers_26 : decode prog_2_method_8_code 26 = .ok (.iinc 2 1, 3) := by decide +kernel
theorem d_Cells_registers_29 : decode prog_2_method_8_code 29 = .ok (.goto (-25), 3) := by decide +kernel
theorem d_Cells_registers_32 : decode prog_2_method_8_code 32 = .ok (.iload_n 1, 1) := by decide +kernel
theorem d_Cells_registers_33 : decode prog_2_method_8_code 33 = .ok (.ireturn, 1) := by decide +kernel
theorem d_Cells_holdAsAtFirst_0 : decode prog_2_method_9_code 0 = .ok (.iconst 0, 1) := by decide +kernel
theorem d_Cells_holdAsAtFirst_1 : decode prog_2_method_9_code 1 = .ok (.istore_n 1, 1) := by decide +kernel
theorem d_Cells_holdAsAtFirst_2 : decode prog_2_method_9_code 2 = .ok (.iload_n 1, 1) := by decide +kernel
theorem d_Cells_holdAsAtFirst_3 : decode prog_2_method_9_code 3 = .ok (.aload_n 0, 1) := by decide +kernel
theorem d_Cells_holdAsAtFirst_4 : decode prog_2_method_9_code 4 = .ok (.getfield 9, 3) := by decide +kernel
theorem d_Cells_holdAsAtFirst_7 : decode prog_2_method_9_code 7 = .ok (.if_icmp .ge 53, 3) := by decide +kernel
theorem d_Cells_holdAsAtFirst_10 : decode prog_2_method_9_code 10 = .ok (.aload_n 0, 1) := by decide +kernel
theorem d_Cells_holdAsAtFirst_11 : decode prog_2_method_9_code 11 = .ok (.getfield 15, 3) := by decide +kernel
theorem d_Cells_holdAsAtFirst_14 : decode prog_2_method_9_code 14 = .ok (.iload_n 1, 1) := by decide +kernel
theorem d_Cells_holdAsAtFirst_15 : decode prog_2_method_9_code 15 = .ok (.iaload, 1) := by decide +kernel
theorem d_Cells_holdAsAtFirst_16 : decode prog_2_method_9_code 16 = .ok (.bipush 8, 2) := by decide +kernel
theorem d_Cells_holdAsAtFirst_18 : decode prog_2_method_9_code 18 = .ok (.if_icmp .ne 18, 3) := by decide +kernel
theorem d_Cells_holdAsAtFirst_21 : decode prog_2_method_9_code 21 = .ok (.aload_n 0, 1) := by decide +kernel
theorem d_Cells_holdAsAtFirst_22 : decode prog_2_method_9_code 22 = .ok (.getfield 31, 3) := by decide +kernel
theorem d_Cells_holdAsAtFirst_25 : decode prog_2_method_9_code 25 = .ok (.iload_n 1, 1) := by decide +kernel
theorem d_Cells_holdAsAtFirst_26 : decode prog_2_method_9_code 26 = .ok (.aload_n 0, 1) := by decide +kernel
theorem d_Cells_holdAsAtFirst_27 : decode prog_2_method_9_code 27 = .ok (.getfield 28, 3) := by decide +kernel
theorem d_Cells_holdAsAtFirst_30 : decode prog_2_method_9_code 30 = .ok (.iload_n 1, 1) := by decide +kernel
theorem d_Cells_holdAsAtFirst_31 : decode prog_2_method_9_code 31 = .ok (.iaload, 1) := by decide +kernel
theorem d_Cells_holdAsAtFirst_32 : decode prog_2_method_9_code 32 = .ok (.iastore, 1) := by decide +kernel
theorem d_Cells_holdAsAtFirst_33 : decode prog_2_method_9_code 33 = .ok (.goto 21, 3) := by decide +kernel
theorem d_Cells_holdAsAtFirst_36 : decode prog_2_method_9_code 36 = .ok (.aload_n 0, 1) := by decide +kernel
theorem d_Cells_holdAsAtFirst_37 : decode prog_2_method_9_code 37 = .ok (.getfield 15, 3) := by decide +kernel
theorem d_Cells_holdAsAtFirst_40 : decode prog_2_method_9_code 40 = .ok (.iload_n 1, 1) := by decide +kernel
theorem d_Cells_holdAsAtFirst_41 : decode prog_2_method_9_code 41 = .ok (.iaload, 1) := by decide +kernel
theorem d_Cells_holdAsAtFirst_42 : decode prog_2_method_9_code 42 = .ok (.bipush 7, 2) := by decide +kernel
theorem d_Cells_holdAsAtFirst_44 : decode prog_2_method_9_code 44 = .ok (.if_icmp .ne 10, 3) := by decide +kernel
theorem d_Cells_holdAsAtFirst_47 : decode prog_2_method_9_code 47 = .ok (.aload_n 0, 1) := by decide +kernel
theorem d_Cells_holdAsAtFirst_48 : decode prog_2_method_9_code 48 = .ok (.getfield 31, 3) := by decide +kernel
theorem d_Cells_holdAsAtFirst_51 : decode prog_2_method_9_code 51 = .ok (.iload_n 1, 1) := by decide +kernel
theorem d_Cells_holdAsAtFirst_52 : decode prog_2_method_9_code 52 = .ok (.iconst 2, 1) := by decide +kernel
theorem d_Cells_holdAsAtFirst_53 : decode prog_2_method_9_code 53 = .ok (.iastore, 1) := by decide +kernel
theorem d_Cells_holdAsAtFirst_54 : decode prog_2_method_9_code 54 = .ok (.iinc 1 1, 3) := by decide +kernel
theorem d_Cells_holdAsAtFirst_57 : decode prog_2_method_9_code 57 = .ok (.goto (-55), 3) := by decide +kernel
theorem d_Cells_holdAsAtFirst_60 : decode prog_2_method_9_code 60 = .ok (.return_, 1) := by decide +kernel
