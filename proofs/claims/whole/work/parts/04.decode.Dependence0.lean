theorem d_Dependence_init_0 : decode prog_3_method_1_code 0 = .ok (.aload_n 0, 1) := by decide +kernel
theorem d_Dependence_init_1 : decode prog_3_method_1_code 1 = .ok (.invokespecial 3, 3) := by decide +kernel
theorem d_Dependence_init_4 : decode prog_3_method_1_code 4 = .ok (.aload_n 0, 1) := by decide +kernel
theorem d_Dependence_init_5 : decode prog_3_method_1_code 5 = .ok (.bipush 80, 2) := by decide +kernel
theorem d_Dependence_init_7 : decode prog_3_method_1_code 7 = .ok (.newarray .long, 2) := by decide +kernel
theorem d_Dependence_init_9 : decode prog_3_method_1_code 9 = .ok (.putfield 9, 3) := by decide +kernel
theorem d_Dependence_init_12 : decode prog_3_method_1_code 12 = .ok (.aload_n 0, 1) := by decide +kernel
theorem d_Dependence_init_13 : decode prog_3_method_1_code 13 = .ok (.bipush 80, 2) := by decide +kernel
theorem d_Dependence_init_15 : decode prog_3_method_1_code 15 = .ok (.newarray .long, 2) := by decide +kernel
theorem d_Dependence_init_17 : decode prog_3_method_1_code 17 = .ok (.putfield 15, 3) := by decide +kernel
theorem d_Dependence_init_20 : decode prog_3_method_1_code 20 = .ok (.return_, 1) := by decide +kernel
theorem d_Dependence_leastLoop_0 : decode prog_3_method_2_code 0 = .ok (.aload_n 0, 1) := by decide +kernel
theorem d_Dependence_leastLoop_1 : decode prog_3_method_2_code 1 = .ok (.aload_n 1, 1) := by decide +kernel
theorem d_Dependence_leastLoop_2 : decode prog_3_method_2_code 2 = .ok (.invokevirtual 18, 3) := by decide +kernel
theorem d_Dependence_leastLoop_5 : decode prog_3_method_2_code 5 = .ok (.iconst 0, 1) := by decide +kernel
theorem d_Dependence_leastLoop_6 : decode prog_3_method_2_code 6 = .ok (.istore_n 3, 1) := by decide +kernel
theorem d_Dependence_leastLoop_7 : decode prog_3_method_2_code 7 = .ok (.iload_n 3, 1) := by decide +kernel
theorem d_Dependence_leastLoop_8 : decode prog_3_method_2_code 8 = .ok (.iload_n 2, 1) := by decide +kernel
theorem d_Dependence_leastLoop_9 : decode prog_3_method_2_code 9 = .ok (.if_icmp .ge 15, 3) := by decide +kernel
theorem d_Dependence_leastLoop_12 : decode prog_3_method_2_code 12 = .ok (.aload_n 0, 1) := by decide +kernel
theorem d_Dependence_leastLoop_13 : decode prog_3_method_2_code 13 = .ok (.iload_n 3, 1) := by decide +kernel
theorem d_Dependence_leastLoop_14 : decode prog_3_method_2_code 14 = .ok (.iload_n 2, 1) := by decide +kernel
theorem d_Dependence_leastLoop_15 : decode prog_3_method_2_code 15 = .ok (.invokevirtual 22, 3) := by decide +kernel
theorem d_Dependence_leastLoop_18 : decode prog_3_method_2_code 18 = .ok (.iinc 3 1, 3) := by decide +kernel
theorem d_Dependence_leastLoop_21 : decode prog_3_method_2_code 21 = .ok (.goto (-14), 3) := by decide +kernel
theorem d_Dependence_leastLoop_24 : decode prog_3_method_2_code 24 = .ok (.iconst 0, 1) := by decide +kernel
theorem d_Dependence_leastLoop_25 : decode prog_3_method_2_code 25 = .ok (.istore_n 3, 1) := by decide +kernel
theorem d_Dependence_leastLoop_26 : decode prog_3_method_2_code 26 = .ok (.iload_n 3, 1) := by decide +kernel
theorem d_Dependence_leastLoop_27 : decode prog_3_method_2_code 27 = .ok (.iload_n 2, 1) := by decide +kernel
theorem d_Dependence_leastLoop_28 : decode prog_3_method_2_code 28 = .ok (.if_icmp .ge 20, 3) := by decide +kernel
theorem d_Dependence_leastLoop_31 : decode prog_3_method_2_code 31 = .ok (.aload_n 0, 1) := by decide +kernel
theorem d_Dependence_leastLoop_32 : decode prog_3_method_2_code 32 = .ok (.iload_n 3, 1) := by decide +kernel
theorem d_Dependence_leastLoop_33 : decode prog_3_method_2_code 33 = .ok (.iload_n 3, 1) := by decide +kernel
theorem d_Dependence_leastLoop_34 : decode prog_3_method_2_code 34 = .ok (.invokevirtual 26, 3) := by decide +kernel
theorem d_Dependence_leastLoop_37 : decode prog_3_method_2_code 37 = .ok (.ifCond .eq 5, 3) := by decide +kernel
theorem d_Dependence_leastLoop_40 : decode prog_3_method_2_code 40 = .ok (.iload_n 3, 1) := by decide +kernel
theorem d_Dependence_leastLoop_41 : decode prog_3_method_2_code 41 = .ok (.ireturn, 1) := by decide +kernel
theorem d_Dependence_leastLoop_42 : decode prog_3_method_2_code 42 = .ok (.iinc 3 1, 3) := by decide +kernel
theorem d_Dependence_leastLoop_45 : decode prog_3_method_2_code 45 = .ok (.goto (-19), 3) := by decide +kernel
theorem d_Dependence_leastLoop_48 : decode prog_3_method_2_code 48 = .ok (.iconst (-1), 1) := by decide +kernel
theorem d_Dependence_leastLoop_49 : decode prog_3_method_2_code 49 = .ok (.ireturn, 1) := by decide +kernel
theorem d_Dependence_begin_0 : decode prog_3_method_3_code 0 = .ok (.aload_n 0, 1) := by decide +kernel
theorem d_Dependence_begin_1 : decode prog_3_method_3_code 1 = .ok (.getfield 9, 3) := by decide +kernel
theorem d_Dependence_begin_4 : decode prog_3_method_3_code 4 = .ok (.lconst 0, 1) := by decide +kernel
theorem d_Dependence_begin_5 : decode prog_3_method_3_code 5 = .ok (.invokestatic 30, 3) := by decide +kernel
theorem d_Dependence_begin_8 : decode prog_3_method_3_code 8 = .ok (.aload_n 0, 1) := by decide +kernel
theorem d_Dependence_begin_9 : decode prog_3_method_3_code 9 = .ok (.getfield 15, 3) := by decide +kernel
theorem d_Dependence_begin_12 : decode prog_3_method_3_code 12 = .ok (.lconst 0, 1) := by decide +kernel
theorem d_Dependence_begin_13 : decode prog_3_method_3_code 13 = .ok (.invokestatic 30, 3) := by decide +kernel
theorem d_Dependence_begin_16 : decode prog_3_method_3_code 16 = .ok (.iconst 0, 1) := by decide +kernel
theorem d_Dependence_begin_17 : decode prog_3_method_3_code 17 = .ok (.istore_n 2, 1) := by decide +kernel
theorem d_Dependence_begin_18 : decode prog_3_method_3_code 18 = .ok (.iload_n 2, 1) := by decide +kernel
theorem d_Dependence_begin_19 : decode prog_3_method_3_code 19 = .ok (.aload_n 1, 1) := by decide +kernel
theorem d_Dependence_begin_20 : decode prog_3_method_3_code 20 = .ok (.getfield 36, 3) := by decide +kernel
theorem d_Dependence_begin_23 : decode prog_3_method_3_code 23 = .ok (.if_icmp .ge 47, 3) := by decide +kernel
theorem d_Dependence_begin_26 : decode prog_3_method_3_code 26 = .ok (.aload_n 1, 1) := by decide +kernel
theorem d_Dependence_begin_27 : decode prog_3_method_3_code 27 = .ok (.iload_n 2, 1) := by decide +kernel
theorem d_Dependence_begin_28 : decode prog_3_method_3_code 28 = .ok (.invokevirtual 42, 3) := by decide +kernel
theorem d_Dependence_begin_31 : decode prog_3_method_3_code 31 = .ok (.istore_n 3, 1) := by decide +kernel
theorem d_Dependence_begin_32 : decode prog_3_method_3_code 32 = .ok (.iconst 0, 1) := by decide +kernel
theorem d_Dependence_begin_33 : decode prog_3_method_3_code 33 = .ok (.istore 4, 2) := by decide +kernel
theorem d_Dependence_begin_35 : decode prog_3_method_3_code 35 = .ok (.iload 4, 2) := by decide +kernel
theorem d_Dependence_begin_37 : decode prog_3_method_3_code 37 = .ok (.iload_n 3, 1) := by decide +kernel
theorem d_Dependence_begin_38 : decode prog_3_method_3_code 38 = .ok (.if_icmp .ge 26, 3) := by decide +kernel
theorem d_Dependence_begin_41 : decode prog_3_method_3_code 41 = .ok (.aload_n 0, 1) := by decide +kernel
theorem d_Dependence_begin_42 : decode prog_3_method_3_code 42 = .ok (.aload_n 1, 1) := by decide +kernel
theorem d_Dependence_begin_43 : decode prog_3_method_3_code 43 = .ok (.getfield 46, 3) := by decide +kernel
theorem d_Dependence_begin_46 : decode prog_3_method_3_code 46 = .ok (.iload_n 2, 1) := by decide +kernel
theorem d_Dependence_begin_47 : decode prog_3_method_3_code 47 = .ok (.iaload, 1) := by decide +kernel
theorem d_Dependence_begin_48 : decode prog_3_method_3_code 48 = .ok (.aload_n 1, 1) := by decide +kernel
theorem d_Dependence_begin_49 : decode prog_3_method_3_code 49 = .ok (.iload_n 2, 1) := by decide +kernel
theorem d_Dependence_begin_50 : decode prog_3_method_3_code 50 = .ok (.iload 4, 2) := by decide +kernel
theorem d_Dependence_begin_52 : decode prog_3_method_3_code 52 = .ok (.invokevirtual 50, 3) := by decide +kernel
theorem d_Dependence_begin_55 : decode prog_3_method_3_code 55 = .ok (.invokevirtual 54, 3) := by decide +kernel
theorem d_Dependence_begin_58 : decode prog_3_method_3_code 58 = .ok (.iinc 4 1, 3) := by decide +kernel
theorem d_Dependence_begin_61 : decode prog_3_method_3_code 61 = .ok (.goto (-26), 3) := by decide +kernel
theorem d_Dependence_begin_64 : decode prog_3_method_3_code 64 = .ok (.iinc 2 1, 3) := by decide +kernel
theorem d_Dependence_begin_67 : decode prog_3_method_3_code 67 = .ok (.goto (-49), 3) := by decide +kernel
theorem d_Dependence_begin_70 : decode prog_3_method_3_code 70 = .ok (.return_, 1) := by decide +kernel
theorem d_Dependence_note_0 : decode prog_3_method_4_code 0 = .ok (.iload_n 2, 1) := by decide +kernel
theorem d_Dependence_note_1 : decode prog_3_method_4_code 1 = .ok (.bipush 40, 2) := by decide +kernel
theorem d_Dependence_note_3 : decode prog_3_method_4_code 3 = .ok (.if_icmp .ge 18, 3) := by decide +kernel
theorem d_Dependence_note_6 : decode prog_3_method_4_code 6 = .ok (.aload_n 0, 1) := by decide +kernel
theorem d_Dependence_note_7 : decode prog_3_method_4_code 7 = .ok (.getfield 9, 3) := by decide +kernel
theorem d_Dependence_note_10 : decode prog_3_method_4_code 10 = .ok (.iload_n 1, 1) := by decide +kernel
theorem d_Dependence_note_11 : decode prog_3_method_4_code 11 = .ok (.dup2, 1) := by decide +kernel
theorem d_Dependence_note_12 : decode prog_3_method_4_code 12 = .ok (.laload, 1) := by decide +kernel
theorem d_Dependence_note_13 : decode prog_3_method_4_code 13 = .ok (.lconst 1, 1) := by decide +kernel
theorem d_Dependence_note_14 : decode prog_3_method_4_code 14 = .ok (.iload_n 2, 1) := by decide +kernel
theorem d_Dependence_note_15 : decode prog_3_method_4_code 15 = .ok (.lshl, 1) := by decide +kernel
theorem d_Dependence_note_16 : decode prog_3_method_4_code 16 = .ok (.lor, 1) := by decide +kernel
theorem d_Dependence_note_17 : decode prog_3_method_4_code 17 = .ok (.lastore, 1) := by decide +kernel
theorem d_Dependence_note_18 : decode prog_3_method_4_code 18 = .ok (.goto 18, 3) := by decide +kernel
theorem d_Dependence_note_21 : decode prog_3_method_4_code 21 = .ok (.aload_n 0, 1) := by decide +kernel
theorem d_Dependence_note_22 : decode prog_3_method_4_code 22 = .ok (.getfield 15, 3) := by decide +kernel
theorem d_Dependence_note_25 : decode prog_3_method_4_code 25 = .ok (.iload_n 1, 1) := by decide +kernel
theorem d_Dependence_note_26 : decode prog_3_method_4_code 26 = .ok (.dup2, 1) := by decide +kernel
theorem d_Dependence_note_27 : decode prog_3_method_4_code 27 = .ok (.laload, 1) := by decide +kernel
theorem d_Dependence_note_28 : decode prog_3_method_4_code 28 = .ok (.lconst 1, 1) := by decide +kernel
theorem d_Dependence_note_29 : decode prog_3_method_4_code 29 = .ok (.iload_n 2, 1) := by decide +kernel
theorem d_Dependence_note_30 : decode prog_3_method_4_code 30 = .ok (.bipush 40, 2) := by decide +kernel
theorem d_Dependence_note_32 : decode prog_3_method_4_code 32 = .ok (.isub, 1) := by decide +kernel
theorem d_Dependence_note_33 : decode prog_3_method_4_code 33 = .ok (.lshl, 1) := by decide +kernel
theorem d_Dependence_note_34 : decode prog_3_method_4_code 34 = .ok (.lor, 1) := by decide +kernel
theorem d_Dependence_note_35 : decode prog_3_method_4_code 35 = .ok (.lastore, 1) := by decide +kernel
theorem d_Dependence_note_36 : decode prog_3_method_4_code 36 = .ok (.return_, 1) := by decide +kernel
theorem d_Dependence_isOn_0 : decode prog_3_method_5_code 0 = .ok (.iload_n 2, 1) := by decide +kernel
theorem d_Dependence_isOn_1 : decode prog_3_method_5_code 1 = .ok (.bipush 40, 2) := by decide +kernel
theorem d_Dependence_isOn_3 : decode prog_3_method_5_code 3 = .ok (.if_icmp .ge 24, 3) := by decide +kernel
theorem d_Dependence_isOn_6 : decode prog_3_method_5_code 6 = .ok (.aload_n 0, 1) := by decide +kernel
theorem d_Dependence_isOn_7 : decode prog_3_method_5_code 7 = .ok (.getfield 9, 3) := by decide +kernel
theorem d_Dependence_isOn_10 : decode prog_3_method_5_code 10 = .ok (.iload_n 1, 1) := by decide +kernel
theorem d_Dependence_isOn_11 : decode prog_3_method_5_code 11 = .ok (.laload, 1) := by decide +kernel
theorem d_Dependence_isOn_12 : decode prog_3_method_5_code 12 = .ok (.lconst 1, 1) := by decide +kernel
theorem d_Dependence_isOn_13 : decode prog_3_method_5_code 13 = .ok (.iload_n 2, 1) := by decide +kernel
theorem d_Dependence_isOn_14 : decode prog_3_method_5_code 14 = .ok (.lshl, 1) := by decide +kernel
theorem d_Dependence_isOn_15 : decode prog_3_method_5_code 15 = .ok (.land, 1) := by decide +kernel
theorem d_Dependence_isOn_16 : decode prog_3_method_5_code 16 = .ok (.lconst 0, 1) := by decide +kernel
theorem d_Dependence_isOn_17 : decode prog_3_method_5_code 17 = .ok (.lcmp, 1) := by decide +kernel
theorem d_Dependence_isOn_18 : decode prog_3_method_5_code 18 = .ok (.ifCond .eq 7, 3) := by decide +kernel
theorem d_Dependence_isOn_21 : decode prog_3_method_5_code 21 = .ok (.iconst 1, 1) := by decide +kernel
theorem d_Dependence_isOn_22 : decode prog_3_method_5_code 22 = .ok (.goto 4, 3) := by decide +kernel
theorem d_Dependence_isOn_25 : decode prog_3_method_5_code 25 = .ok (.iconst 0, 1) := by decide +kernel
theorem d_Dependence_isOn_26 : decode prog_3_method_5_code 26 = .ok (.ireturn, 1) := by decide +kernel
theorem d_Dependence_isOn_27 : decode prog_3_method_5_code 27 = .ok (.aload_n 0, 1) := by decide +kernel
theorem d_Dependence_isOn_28 : decode prog_3_method_5_code 28 = .ok (.getfield 15, 3) := by decide +kernel
theorem d_Dependence_isOn_31 : decode prog_3_method_5_code 31 = .ok (.iload_n 1, 1) := by decide +kernel
theorem d_Dependence_isOn_32 : decode prog_3_method_5_code 32 = .ok (.laload, 1) := by decide +kernel
theorem d_Dependence_isOn_33 : decode prog_3_method_5_code 33 = .ok (.lconst 1, 1) := by decide +kernel
theorem d_Dependence_isOn_34 : decode prog_3_method_5_code 34 = .ok (.iload_n 2, 1) := by decide +kernel
theorem d_Dependence_isOn_35 : decode prog_3_method_5_code 35 = .ok (.bipush 40, 2) := by decide +kernel
theorem d_Dependence_isOn_37 : decode prog_3_method_5_code 37 = .ok (.isub, 1) := by decide +kernel
theorem d_Dependence_isOn_38 : decode prog_3_method_5_code 38 = .ok (.lshl, 1) := by decide +kernel
theorem d_Dependence_isOn_39 : decode prog_3_method_5_code 39 = .ok (.land, 1) := by decide +kernel
theorem d_Dependence_isOn_40 : decode prog_3_method_5_code 40 = .ok (.lconst 0, 1) := by decide +kernel
theorem d_Dependence_isOn_41 : decode prog_3_method_5_code 41 = .ok (.lcmp, 1) := by decide +kernel
theorem d_Dependence_isOn_42 : decode prog_3_method_5_code 42 = .ok (.ifCond .eq 7, 3) := by decide +kernel
theorem d_Dependence_isOn_45 : decode prog_3_method_5_code 45 = .ok (.iconst 1, 1) := by decide +kernel
theorem d_Dependence_isOn_46 : decode prog_3_method_5_code 46 = .ok (.goto 4, 3) := by decide +kernel
theorem d_Dependence_isOn_49 : decode prog_3_method_5_code 49 = .ok (.iconst 0, 1) := by decide +kernel
theorem d_Dependence_isOn_50 : decode prog_3_method_5_code 50 = .ok (.ireturn, 1) := by decide +kernel
theorem d_Dependence_goThrough_0 : decode prog_3_method_6_code 0 = .ok (.iconst 0, 1) := by decide +kernel
theorem d_Dependence_goThrough_1 : decode prog_3_method_6_code 1 = .ok (.istore_n 3, 1) := by decide +kernel
theorem d_Dependence_goThrough_2 : decode prog_3_method_6_code 2 = .ok (.iload_n 3, 1) := by decide +kernel
theorem d_Dependence_goThrough_3 : decode prog_3_method_6_code 3 = .ok (.iload_n 2, 1) := by decide +kernel
theorem d_Dependence_goThrough_4 : decode prog_3_method_6_code 4 = .ok (.if_icmp .ge 48, 3) := by decide +kernel
theorem d_Dependence_goThrough_7 : decode prog_3_method_6_code 7 = .ok (.aload_n 0, 1) := by decide +kernel
theorem d_Dependence_goThrough_8 : decode prog_3_method_6_code 8 = .ok (.iload_n 3, 1) := by decide +kernel
theorem d_Dependence_goThrough_9 : decode prog_3_method_6_code 9 = .ok (.iload_n 1, 1) := by decide +kernel
theorem d_Dependence_goThrough_10 : decode prog_3_method_6_code 10 = .ok (.invokevirtual 26, 3) := by decide +kernel
theorem d_Dependence_goThrough_13 : decode prog_3_method_6_code 13 = .ok (.ifCond .eq 33, 3) := by decide +kernel
theorem d_Dependence_goThrough_16 : decode prog_3_method_6_code 16 = .ok (.aload_n 0, 1) := by decide +kernel
theorem d_Dependence_goThrough_17 : decode prog_3_method_6_code 17 = .ok (.getfield 9, 3) := by decide +kernel
theorem d_Dependence_goThrough_20 : decode prog_3_method_6_code 20 = .ok (.iload_n 3, 1) := by decide +kernel
theorem d_Dependence_goThrough_21 : decode prog_3_method_6_code 21 = .ok (.dup2, 1) := by decide +kernel
theorem d_Dependence_goThrough_22 : decode prog_3_method_6_code 22 = .ok (.laload, 1) := by decide +kernel
theorem d_Dependence_goThrough_23 : decode prog_3_method_6_code 23 = .ok (.aload_n 0, 1) := by decide +kernel
theorem d_Dependence_goThrough_24 : decode prog_3_method_6_code 24 = .ok (.getfield 9, 3) := by decide +kernel
theorem d_Dependence_goThrough_27 : decode prog_3_method_6_code 27 = .ok (.iload_n 1, 1) := by decide +kernel
theorem d_Dependence_goThrough_28 : decode prog_3_method_6_code 28 = .ok (.laload, 1) := by decide +kernel
theorem d_Dependence_goThrough_29 : decode prog_3_method_6_code 29 = .ok (.lor, 1) := by decide +kernel
theorem d_Dependence_goThrough_30 : decode prog_3_method_6_code 30 = .ok (.lastore, 1) := by decide +kernel
theorem d_Dependence_goThrough_31 : decode prog_3_method_6_code 31 = .ok (.aload_n 0, 1) := by decide +kernel
theorem d_Dependence_goThrough_32 : decode prog_3_method_6_code 32 = .ok (.getfield 15, 3) := by decide +kernel
theorem d_Dependence_goThrough_35 : decode prog_3_method_6_code 35 = .ok (.iload_n 3, 1) := by decide +kernel
theorem d_Dependence_goThrough_36 : decode prog_3_method_6_code 36 = .ok (.dup2, 1) := by decide +kernel
theorem d_Dependence_goThrough_37 : decode prog_3_method_6_code 37 = .ok (.laload, 1) := by decide +kernel
theorem d_Dependence_goThrough_38 : decode prog_3_method_6_code 38 = .ok (.aload_n 0, 1) := by decide +kernel
theorem d_Dependence_goThrough_39 : decode prog_3_method_6_code 39 = .ok (.getfield 15, 3) := by decide +kernel
theorem d_Dependence_goThrough_42 : decode prog_3_method_6_code 42 = .ok (.iload_n 1, 1) := by decide +kernel
theorem d_Dependence_goThrough_43 : decode prog_3_method_6_code 43 = .ok (.laload, 1) := by decide +kernel
theorem d_Dependence_goThrough_44 : decode prog_3_method_6_code 44 = .ok (.lor, 1) := by decide +kernel
theorem d_Dependence_goThrough_45 : decode prog_3_method_6_code 45 = .ok (.lastore, 1) := by decide +kernel
theorem d_Dependence_goThrough_46 : decode prog_3_method_6_code 46 = .ok (.iinc 3 1, 3) := by decide +kernel
theorem d_Dependence_goThrough_49 : decode prog_3_method_6_code 49 = .ok (.goto (-47), 3) := by decide +kernel
theorem d_Dependence_goThrough_52 : decode prog_3_method_6_code 52 = .ok (.return_, 1) := by decide +kernel
