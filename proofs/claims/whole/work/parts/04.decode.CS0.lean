theorem d_CS_init_0 : decode prog_1_method_1_code 0 = .ok (.aload_n 0, 1) := by decide +kernel
theorem d_CS_init_1 : decode prog_1_method_1_code 1 = .ok (.invokespecial 1, 3) := by decide +kernel
theorem d_CS_init_4 : decode prog_1_method_1_code 4 = .ok (.aload_n 0, 1) := by decide +kernel
theorem d_CS_init_5 : decode prog_1_method_1_code 5 = .ok (.new 7, 3) := by decide +kernel
theorem d_CS_init_8 : decode prog_1_method_1_code 8 = .ok (.dup, 1) := by decide +kernel
theorem d_CS_init_9 : decode prog_1_method_1_code 9 = .ok (.bipush 60, 2) := by decide +kernel
theorem d_CS_init_11 : decode prog_1_method_1_code 11 = .ok (.invokespecial 11, 3) := by decide +kernel
theorem d_CS_init_14 : decode prog_1_method_1_code 14 = .ok (.putfield 14, 3) := by decide +kernel
theorem d_CS_init_17 : decode prog_1_method_1_code 17 = .ok (.aload_n 0, 1) := by decide +kernel
theorem d_CS_init_18 : decode prog_1_method_1_code 18 = .ok (.new 7, 3) := by decide +kernel
theorem d_CS_init_21 : decode prog_1_method_1_code 21 = .ok (.dup, 1) := by decide +kernel
theorem d_CS_init_22 : decode prog_1_method_1_code 22 = .ok (.bipush 10, 2) := by decide +kernel
theorem d_CS_init_24 : decode prog_1_method_1_code 24 = .ok (.invokespecial 11, 3) := by decide +kernel
theorem d_CS_init_27 : decode prog_1_method_1_code 27 = .ok (.putfield 18, 3) := by decide +kernel
theorem d_CS_init_30 : decode prog_1_method_1_code 30 = .ok (.aload_n 0, 1) := by decide +kernel
theorem d_CS_init_31 : decode prog_1_method_1_code 31 = .ok (.new 7, 3) := by decide +kernel
theorem d_CS_init_34 : decode prog_1_method_1_code 34 = .ok (.dup, 1) := by decide +kernel
theorem d_CS_init_35 : decode prog_1_method_1_code 35 = .ok (.bipush 10, 2) := by decide +kernel
theorem d_CS_init_37 : decode prog_1_method_1_code 37 = .ok (.invokespecial 11, 3) := by decide +kernel
theorem d_CS_init_40 : decode prog_1_method_1_code 40 = .ok (.putfield 21, 3) := by decide +kernel
theorem d_CS_init_43 : decode prog_1_method_1_code 43 = .ok (.aload_n 0, 1) := by decide +kernel
theorem d_CS_init_44 : decode prog_1_method_1_code 44 = .ok (.new 24, 3) := by decide +kernel
theorem d_CS_init_47 : decode prog_1_method_1_code 47 = .ok (.dup, 1) := by decide +kernel
theorem d_CS_init_48 : decode prog_1_method_1_code 48 = .ok (.invokespecial 26, 3) := by decide +kernel
theorem d_CS_init_51 : decode prog_1_method_1_code 51 = .ok (.putfield 27, 3) := by decide +kernel
theorem d_CS_init_54 : decode prog_1_method_1_code 54 = .ok (.aload_n 0, 1) := by decide +kernel
theorem d_CS_init_55 : decode prog_1_method_1_code 55 = .ok (.new 31, 3) := by decide +kernel
theorem d_CS_init_58 : decode prog_1_method_1_code 58 = .ok (.dup, 1) := by decide +kernel
theorem d_CS_init_59 : decode prog_1_method_1_code 59 = .ok (.invokespecial 33, 3) := by decide +kernel
theorem d_CS_init_62 : decode prog_1_method_1_code 62 = .ok (.putfield 34, 3) := by decide +kernel
theorem d_CS_init_65 : decode prog_1_method_1_code 65 = .ok (.aload_n 0, 1) := by decide +kernel
theorem d_CS_init_66 : decode prog_1_method_1_code 66 = .ok (.new 38, 3) := by decide +kernel
theorem d_CS_init_69 : decode prog_1_method_1_code 69 = .ok (.dup, 1) := by decide +kernel
theorem d_CS_init_70 : decode prog_1_method_1_code 70 = .ok (.invokespecial 40, 3) := by decide +kernel
theorem d_CS_init_73 : decode prog_1_method_1_code 73 = .ok (.putfield 41, 3) := by decide +kernel
theorem d_CS_init_76 : decode prog_1_method_1_code 76 = .ok (.aload_n 0, 1) := by decide +kernel
theorem d_CS_init_77 : decode prog_1_method_1_code 77 = .ok (.new 45, 3) := by decide +kernel
theorem d_CS_init_80 : decode prog_1_method_1_code 80 = .ok (.dup, 1) := by decide +kernel
theorem d_CS_init_81 : decode prog_1_method_1_code 81 = .ok (.invokespecial 47, 3) := by decide +kernel
theorem d_CS_init_84 : decode prog_1_method_1_code 84 = .ok (.putfield 48, 3) := by decide +kernel
theorem d_CS_init_87 : decode prog_1_method_1_code 87 = .ok (.aload_n 0, 1) := by decide +kernel
theorem d_CS_init_88 : decode prog_1_method_1_code 88 = .ok (.iconst 0, 1) := by decide +kernel
theorem d_CS_init_89 : decode prog_1_method_1_code 89 = .ok (.putfield 52, 3) := by decide +kernel
theorem d_CS_init_92 : decode prog_1_method_1_code 92 = .ok (.aload_n 0, 1) := by decide +kernel
theorem d_CS_init_93 : decode prog_1_method_1_code 93 = .ok (.iconst 0, 1) := by decide +kernel
theorem d_CS_init_94 : decode prog_1_method_1_code 94 = .ok (.putfield 56, 3) := by decide +kernel
theorem d_CS_init_97 : decode prog_1_method_1_code 97 = .ok (.return_, 1) := by decide +kernel
theorem d_CS_cell_0 : decode prog_1_method_2_code 0 = .ok (.iload_n 1, 1) := by decide +kernel
theorem d_CS_cell_1 : decode prog_1_method_2_code 1 = .ok (.iload_n 2, 1) := by decide +kernel
theorem d_CS_cell_2 : decode prog_1_method_2_code 2 = .ok (.iload_n 3, 1) := by decide +kernel
theorem d_CS_cell_3 : decode prog_1_method_2_code 3 = .ok (.iload 4, 2) := by decide +kernel
theorem d_CS_cell_5 : decode prog_1_method_2_code 5 = .ok (.iload 5, 2) := by decide +kernel
theorem d_CS_cell_7 : decode prog_1_method_2_code 7 = .ok (.aload_n 0, 1) := by decide +kernel
theorem d_CS_cell_8 : decode prog_1_method_2_code 8 = .ok (.getfield 27, 3) := by decide +kernel
theorem d_CS_cell_11 : decode prog_1_method_2_code 11 = .ok (.getfield 60, 3) := by decide +kernel
theorem d_CS_cell_14 : decode prog_1_method_2_code 14 = .ok (.invokestatic 63, 3) := by decide +kernel
theorem d_CS_cell_17 : decode prog_1_method_2_code 17 = .ok (.ifCond .ne 13, 3) := by decide +kernel
theorem d_CS_cell_20 : decode prog_1_method_2_code 20 = .ok (.new 67, 3) := by decide +kernel
theorem d_CS_cell_23 : decode prog_1_method_2_code 23 = .ok (.dup, 1) := by decide +kernel
theorem d_CS_cell_24 : decode prog_1_method_2_code 24 = .ok (.ldc 69, 2) := by decide +kernel
theorem d_CS_cell_26 : decode prog_1_method_2_code 26 = .ok (.invokespecial 71, 3) := by decide +kernel
theorem d_CS_cell_29 : decode prog_1_method_2_code 29 = .ok (.athrow, 1) := by decide +kernel
theorem d_CS_cell_30 : decode prog_1_method_2_code 30 = .ok (.aload_n 0, 1) := by decide +kernel
theorem d_CS_cell_31 : decode prog_1_method_2_code 31 = .ok (.getfield 14, 3) := by decide +kernel
theorem d_CS_cell_34 : decode prog_1_method_2_code 34 = .ok (.iload_n 2, 1) := by decide +kernel
theorem d_CS_cell_35 : decode prog_1_method_2_code 35 = .ok (.iload_n 1, 1) := by decide +kernel
theorem d_CS_cell_36 : decode prog_1_method_2_code 36 = .ok (.invokevirtual 74, 3) := by decide +kernel
theorem d_CS_cell_39 : decode prog_1_method_2_code 39 = .ok (.ifCond .ne 13, 3) := by decide +kernel
theorem d_CS_cell_42 : decode prog_1_method_2_code 42 = .ok (.new 78, 3) := by decide +kernel
theorem d_CS_cell_45 : decode prog_1_method_2_code 45 = .ok (.dup, 1) := by decide +kernel
theorem d_CS_cell_46 : decode prog_1_method_2_code 46 = .ok (.ldc 80, 2) := by decide +kernel
theorem d_CS_cell_48 : decode prog_1_method_2_code 48 = .ok (.invokespecial 82, 3) := by decide +kernel
theorem d_CS_cell_51 : decode prog_1_method_2_code 51 = .ok (.athrow, 1) := by decide +kernel
theorem d_CS_cell_52 : decode prog_1_method_2_code 52 = .ok (.aload_n 0, 1) := by decide +kernel
theorem d_CS_cell_53 : decode prog_1_method_2_code 53 = .ok (.getfield 14, 3) := by decide +kernel
theorem d_CS_cell_56 : decode prog_1_method_2_code 56 = .ok (.getfield 83, 3) := by decide +kernel
theorem d_CS_cell_59 : decode prog_1_method_2_code 59 = .ok (.bipush 60, 2) := by decide +kernel
theorem d_CS_cell_61 : decode prog_1_method_2_code 61 = .ok (.if_icmp .lt 13, 3) := by decide +kernel
theorem d_CS_cell_64 : decode prog_1_method_2_code 64 = .ok (.new 84, 3) := by decide +kernel
theorem d_CS_cell_67 : decode prog_1_method_2_code 67 = .ok (.dup, 1) := by decide +kernel
theorem d_CS_cell_68 : decode prog_1_method_2_code 68 = .ok (.ldc 86, 2) := by decide +kernel
theorem d_CS_cell_70 : decode prog_1_method_2_code 70 = .ok (.invokespecial 88, 3) := by decide +kernel
theorem d_CS_cell_73 : decode prog_1_method_2_code 73 = .ok (.athrow, 1) := by decide +kernel
theorem d_CS_cell_74 : decode prog_1_method_2_code 74 = .ok (.aload_n 0, 1) := by decide +kernel
theorem d_CS_cell_75 : decode prog_1_method_2_code 75 = .ok (.getfield 14, 3) := by decide +kernel
theorem d_CS_cell_78 : decode prog_1_method_2_code 78 = .ok (.iload_n 1, 1) := by decide +kernel
theorem d_CS_cell_79 : decode prog_1_method_2_code 79 = .ok (.iload_n 2, 1) := by decide +kernel
theorem d_CS_cell_80 : decode prog_1_method_2_code 80 = .ok (.iload_n 3, 1) := by decide +kernel
theorem d_CS_cell_81 : decode prog_1_method_2_code 81 = .ok (.iload 4, 2) := by decide +kernel
theorem d_CS_cell_83 : decode prog_1_method_2_code 83 = .ok (.iload 5, 2) := by decide +kernel
theorem d_CS_cell_85 : decode prog_1_method_2_code 85 = .ok (.invokevirtual 89, 3) := by decide +kernel
theorem d_CS_cell_88 : decode prog_1_method_2_code 88 = .ok (.aload_n 0, 1) := by decide +kernel
theorem d_CS_cell_89 : decode prog_1_method_2_code 89 = .ok (.iconst 0, 1) := by decide +kernel
theorem d_CS_cell_90 : decode prog_1_method_2_code 90 = .ok (.putfield 52, 3) := by decide +kernel
theorem d_CS_cell_93 : decode prog_1_method_2_code 93 = .ok (.aload_n 0, 1) := by decide +kernel
theorem d_CS_cell_94 : decode prog_1_method_2_code 94 = .ok (.getfield 14, 3) := by decide +kernel
theorem d_CS_cell_97 : decode prog_1_method_2_code 97 = .ok (.getfield 83, 3) := by decide +kernel
theorem d_CS_cell_100 : decode prog_1_method_2_code 100 = .ok (.iconst 1, 1) := by decide +kernel
theorem d_CS_cell_101 : decode prog_1_method_2_code 101 = .ok (.isub, 1) := by decide +kernel
theorem d_CS_cell_102 : decode prog_1_method_2_code 102 = .ok (.ireturn, 1) := by decide +kernel
theorem d_CS_part_0 : decode prog_1_method_3_code 0 = .ok (.iload_n 1, 1) := by decide +kernel
theorem d_CS_part_1 : decode prog_1_method_3_code 1 = .ok (.iconst 2, 1) := by decide +kernel
theorem d_CS_part_2 : decode prog_1_method_3_code 2 = .ok (.invokestatic 93, 3) := by decide +kernel
theorem d_CS_part_5 : decode prog_1_method_3_code 5 = .ok (.ifCond .eq 23, 3) := by decide +kernel
theorem d_CS_part_8 : decode prog_1_method_3_code 8 = .ok (.iload_n 2, 1) := by decide +kernel
theorem d_CS_part_9 : decode prog_1_method_3_code 9 = .ok (.ifCond .eq 19, 3) := by decide +kernel
theorem d_CS_part_12 : decode prog_1_method_3_code 12 = .ok (.iload_n 2, 1) := by decide +kernel
theorem d_CS_part_13 : decode prog_1_method_3_code 13 = .ok (.iload_n 3, 1) := by decide +kernel
theorem d_CS_part_14 : decode prog_1_method_3_code 14 = .ok (.iload 4, 2) := by decide +kernel
theorem d_CS_part_16 : decode prog_1_method_3_code 16 = .ok (.iload 5, 2) := by decide +kernel
theorem d_CS_part_18 : decode prog_1_method_3_code 18 = .ok (.iload 6, 2) := by decide +kernel
theorem d_CS_part_20 : decode prog_1_method_3_code 20 = .ok (.bipush 10, 2) := by decide +kernel
theorem d_CS_part_22 : decode prog_1_method_3_code 22 = .ok (.invokestatic 63, 3) := by decide +kernel
theorem d_CS_part_25 : decode prog_1_method_3_code 25 = .ok (.ifCond .ne 13, 3) := by decide +kernel
theorem d_CS_part_28 : decode prog_1_method_3_code 28 = .ok (.new 67, 3) := by decide +kernel
theorem d_CS_part_31 : decode prog_1_method_3_code 31 = .ok (.dup, 1) := by decide +kernel
theorem d_CS_part_32 : decode prog_1_method_3_code 32 = .ok (.ldc 96, 2) := by decide +kernel
theorem d_CS_part_34 : decode prog_1_method_3_code 34 = .ok (.invokespecial 71, 3) := by decide +kernel
theorem d_CS_part_37 : decode prog_1_method_3_code 37 = .ok (.athrow, 1) := by decide +kernel
theorem d_CS_part_38 : decode prog_1_method_3_code 38 = .ok (.aload_n 0, 1) := by decide +kernel
theorem d_CS_part_39 : decode prog_1_method_3_code 39 = .ok (.iload_n 1, 1) := by decide +kernel
theorem d_CS_part_40 : decode prog_1_method_3_code 40 = .ok (.invokevirtual 98, 3) := by decide +kernel
theorem d_CS_part_43 : decode prog_1_method_3_code 43 = .ok (.astore 7, 2) := by decide +kernel
theorem d_CS_part_45 : decode prog_1_method_3_code 45 = .ok (.aload 7, 2) := by decide +kernel
theorem d_CS_part_47 : decode prog_1_method_3_code 47 = .ok (.getfield 83, 3) := by decide +kernel
theorem d_CS_part_50 : decode prog_1_method_3_code 50 = .ok (.bipush 10, 2) := by decide +kernel
theorem d_CS_part_52 : decode prog_1_method_3_code 52 = .ok (.if_icmp .lt 13, 3) := by decide +kernel
theorem d_CS_part_55 : decode prog_1_method_3_code 55 = .ok (.new 84, 3) := by decide +kernel
theorem d_CS_part_58 : decode prog_1_method_3_code 58 = .ok (.dup, 1) := by decide +kernel
theorem d_CS_part_59 : decode prog_1_method_3_code 59 = .ok (.ldc 102, 2) := by decide +kernel
theorem d_CS_part_61 : decode prog_1_method_3_code 61 = .ok (.invokespecial 88, 3) := by decide +kernel
theorem d_CS_part_64 : decode prog_1_method_3_code 64 = .ok (.athrow, 1) := by decide +kernel
theorem d_CS_part_65 : decode prog_1_method_3_code 65 = .ok (.aload 7, 2) := by decide +kernel
theorem d_CS_part_67 : decode prog_1_method_3_code 67 = .ok (.iload_n 2, 1) := by decide +kernel
theorem d_CS_part_68 : decode prog_1_method_3_code 68 = .ok (.iload_n 3, 1) := by decide +kernel
theorem d_CS_part_69 : decode prog_1_method_3_code 69 = .ok (.iload 4, 2) := by decide +kernel
theorem d_CS_part_71 : decode prog_1_method_3_code 71 = .ok (.iload 5, 2) := by decide +kernel
theorem d_CS_part_73 : decode prog_1_method_3_code 73 = .ok (.iload 6, 2) := by decide +kernel
theorem d_CS_part_75 : decode prog_1_method_3_code 75 = .ok (.invokevirtual 89, 3) := by decide +kernel
theorem d_CS_part_78 : decode prog_1_method_3_code 78 = .ok (.aload 7, 2) := by decide +kernel
theorem d_CS_part_80 : decode prog_1_method_3_code 80 = .ok (.getfield 83, 3) := by decide +kernel
theorem d_CS_part_83 : decode prog_1_method_3_code 83 = .ok (.ireturn, 1) := by decide +kernel
theorem d_CS_instance_0 : decode prog_1_method_4_code 0 = .ok (.iload_n 1, 1) := by decide +kernel
theorem d_CS_instance_1 : decode prog_1_method_4_code 1 = .ok (.iconst 2, 1) := by decide +kernel
theorem d_CS_instance_2 : decode prog_1_method_4_code 2 = .ok (.invokestatic 93, 3) := by decide +kernel
theorem d_CS_instance_5 : decode prog_1_method_4_code 5 = .ok (.ifCond .eq 31, 3) := by decide +kernel
theorem d_CS_instance_8 : decode prog_1_method_4_code 8 = .ok (.iload_n 2, 1) := by decide +kernel
theorem d_CS_instance_9 : decode prog_1_method_4_code 9 = .ok (.aload_n 0, 1) := by decide +kernel
theorem d_CS_instance_10 : decode prog_1_method_4_code 10 = .ok (.getfield 27, 3) := by decide +kernel
theorem d_CS_instance_13 : decode prog_1_method_4_code 13 = .ok (.getfield 60, 3) := by decide +kernel
theorem d_CS_instance_16 : decode prog_1_method_4_code 16 = .ok (.invokestatic 93, 3) := by decide +kernel
theorem d_CS_instance_19 : decode prog_1_method_4_code 19 = .ok (.ifCond .eq 17, 3) := by decide +kernel
theorem d_CS_instance_22 : decode prog_1_method_4_code 22 = .ok (.iload_n 3, 1) := by decide +kernel
theorem d_CS_instance_23 : decode prog_1_method_4_code 23 = .ok (.aload_n 0, 1) := by decide +kernel
theorem d_CS_instance_24 : decode prog_1_method_4_code 24 = .ok (.getfield 27, 3) := by decide +kernel
theorem d_CS_instance_27 : decode prog_1_method_4_code 27 = .ok (.getfield 60, 3) := by decide +kernel
theorem d_CS_instance_30 : decode prog_1_method_4_code 30 = .ok (.invokestatic 93, 3) := by decide +kernel
theorem d_CS_instance_33 : decode prog_1_method_4_code 33 = .ok (.ifCond .ne 13, 3) := by decide +kernel
theorem d_CS_instance_36 : decode prog_1_method_4_code 36 = .ok (.new 67, 3) := by decide +kernel
theorem d_CS_instance_39 : decode prog_1_method_4_code 39 = .ok (.dup, 1) := by decide +kernel
theorem d_CS_instance_40 : decode prog_1_method_4_code 40 = .ok (.ldc 104, 2) := by decide +kernel
theorem d_CS_instance_42 : decode prog_1_method_4_code 42 = .ok (.invokespecial 71, 3) := by decide +kernel
theorem d_CS_instance_45 : decode prog_1_method_4_code 45 = .ok (.athrow, 1) := by decide +kernel
theorem d_CS_instance_46 : decode prog_1_method_4_code 46 = .ok (.aload_n 0, 1) := by decide +kernel
theorem d_CS_instance_47 : decode prog_1_method_4_code 47 = .ok (.iload_n 1, 1) := by decide +kernel
theorem d_CS_instance_48 : decode prog_1_method_4_code 48 = .ok (.invokevirtual 98, 3) := by decide +kernel
theorem d_CS_instance_51 : decode prog_1_method_4_code 51 = .ok (.astore 4, 2) := by decide +kernel
theorem d_CS_instance_53 : decode prog_1_method_4_code 53 = .ok (.aload_n 0, 1) := by decide +kernel
theorem d_CS_instance_54 : decode prog_1_method_4_code 54 = .ok (.getfield 48, 3) := by decide +kernel
theorem d_CS_instance_57 : decode prog_1_method_4_code 57 = .ok (.aload 4, 2) := by decide +kernel
theorem d_CS_instance_59 : decode prog_1_method_4_code 59 = .ok (.iload_n 2, 1) := by decide +kernel
theorem d_CS_instance_60 : decode prog_1_method_4_code 60 = .ok (.iload_n 3, 1) := by decide +kernel
theorem d_CS_instance_61 : decode prog_1_method_4_code 61 = .ok (.aload_n 0, 1) := by decide +kernel
theorem d_CS_instance_62 : decode prog_1_method_4_code 62 = .ok (.getfield 27, 3) := by decide +kernel
theorem d_CS_instance_65 : decode prog_1_method_4_code 65 = .ok (.getfield 60, 3) := by decide +kernel
theorem d_CS_instance_68 : decode prog_1_method_4_code 68 = .ok (.invokevirtual 106, 3) := by decide +kernel
theorem d_CS_instance_71 : decode prog_1_method_4_code 71 = .ok (.aload_n 0, 1) := by decide +kernel
theorem d_CS_instance_72 : decode prog_1_method_4_code 72 = .ok (.getfield 48, 3) := by decide +kernel
theorem d_CS_instance_75 : decode prog_1_method_4_code 75 = .ok (.aload 4, 2) := by decide +kernel
theorem d_CS_instance_77 : decode prog_1_method_4_code 77 = .ok (.aload_n 0, 1) := by decide +kernel
theorem d_CS_instance_78 : decode prog_1_method_4_code 78 = .ok (.getfield 14, 3) := by decide +kernel
theorem d_CS_instance_81 : decode prog_1_method_4_code 81 = .ok (.invokevirtual 110, 3) := by decide +kernel
theorem d_CS_instance_84 : decode prog_1_method_4_code 84 = .ok (.ifCond .ne 13, 3) := by decide +kernel
theorem d_CS_instance_87 : decode prog_1_method_4_code 87 = .ok (.new 78, 3) := by decide +kernel
theorem d_CS_instance_90 : decode prog_1_method_4_code 90 = .ok (.dup, 1) := by decide +kernel
theorem d_CS_instance_91 : decode prog_1_method_4_code 91 = .ok (.ldc 113, 2) := by decide +kernel
theorem d_CS_instance_93 : decode prog_1_method_4_code 93 = .ok (.invokespecial 82, 3) := by decide +kernel
theorem d_CS_instance_96 : decode prog_1_method_4_code 96 = .ok (.athrow, 1) := by decide +kernel
theorem d_CS_instance_97 : decode prog_1_method_4_code 97 = .ok (.aload_n 0, 1) := by decide +kernel
theorem d_CS_instance_98 : decode prog_1_method_4_code 98 = .ok (.getfield 14, 3) := by decide +kernel
theorem d_CS_instance_101 : decode prog_1_method_4_code 101 = .ok (.getfield 83, 3) := by decide +kernel
theorem d_CS_instance_104 : decode prog_1_method_4_code 104 = .ok (.aload 4, 2) := by decide +kernel
theorem d_CS_instance_106 : decode prog_1_method_4_code 106 = .ok (.getfield 83, 3) := by decide +kernel
theorem d_CS_instance_109 : decode prog_1_method_4_code 109 = .ok (.iadd, 1) := by decide +kernel
theorem d_CS_instance_110 : decode prog_1_method_4_code 110 = .ok (.bipush 60, 2) := by decide +kernel
theorem d_CS_instance_112 : decode prog_1_method_4_code 112 = .ok (.if_icmp .gt 15, 3) := by decide +kernel
theorem d_CS_instance_115 : decode prog_1_method_4_code 115 = .ok (.aload_n 0, 1) := by decide +kernel
theorem d_CS_instance_116 : decode prog_1_method_4_code 116 = .ok (.getfield 48, 3) := by decide +kernel
theorem d_CS_instance_119 : decode prog_1_method_4_code 119 = .ok (.getfield 115, 3) := by decide +kernel
theorem d_CS_instance_122 : decode prog_1_method_4_code 122 = .ok (.bipush 80, 2) := by decide +kernel
theorem d_CS_instance_124 : decode prog_1_method_4_code 124 = .ok (.if_icmp .le 13, 3) := by decide +kernel
theorem d_CS_instance_127 : decode prog_1_method_4_code 127 = .ok (.new 84, 3) := by decide +kernel
theorem d_CS_instance_130 : decode prog_1_method_4_code 130 = .ok (.dup, 1) := by decide +kernel
theorem d_CS_instance_131 : decode prog_1_method_4_code 131 = .ok (.ldc 118, 2) := by decide +kernel
theorem d_CS_instance_133 : decode prog_1_method_4_code 133 = .ok (.invokespecial 88, 3) := by decide +kernel
theorem d_CS_instance_136 : decode prog_1_method_4_code 136 = .ok (.athrow, 1) := by decide +kernel
theorem d_CS_instance_137 : decode prog_1_method_4_code 137 = .ok (.aload_n 0, 1) := by decide +kernel
theorem d_CS_instance_138 : decode prog_1_method_4_code 138 = .ok (.getfield 48, 3) := by decide +kernel
theorem d_CS_instance_141 : decode prog_1_method_4_code 141 = .ok (.aload 4, 2) := by decide +kernel
theorem d_CS_instance_143 : decode prog_1_method_4_code 143 = .ok (.aload_n 0, 1) := by decide +kernel
theorem d_CS_instance_144 : decode prog_1_method_4_code 144 = .ok (.getfield 14, 3) := by decide +kernel
theorem d_CS_instance_147 : decode prog_1_method_4_code 147 = .ok (.invokevirtual 120, 3) := by decide +kernel
theorem d_CS_instance_150 : decode prog_1_method_4_code 150 = .ok (.aload_n 0, 1) := by decide +kernel
theorem d_CS_instance_151 : decode prog_1_method_4_code 151 = .ok (.getfield 27, 3) := by decide +kernel
theorem d_CS_instance_154 : decode prog_1_method_4_code 154 = .ok (.aload_n 0, 1) := by decide +kernel
theorem d_CS_instance_155 : decode prog_1_method_4_code 155 = .ok (.getfield 48, 3) := by decide +kernel
theorem d_CS_instance_158 : decode prog_1_method_4_code 158 = .ok (.getfield 115, 3) := by decide +kernel
theorem d_CS_instance_161 : decode prog_1_method_4_code 161 = .ok (.putfield 60, 3) := by decide +kernel
theorem d_CS_instance_164 : decode prog_1_method_4_code 164 = .ok (.aload_n 0, 1) := by decide +kernel
theorem d_CS_instance_165 : decode prog_1_method_4_code 165 = .ok (.iconst 0, 1) := by decide +kernel
theorem d_CS_instance_166 : decode prog_1_method_4_code 166 = .ok (.putfield 52, 3) := by decide +kernel
theorem d_CS_instance_169 : decode prog_1_method_4_code 169 = .ok (.aload_n 0, 1) := by decide +kernel
theorem d_CS_instance_170 : decode prog_1_method_4_code 170 = .ok (.getfield 27, 3) := by decide +kernel
theorem d_CS_instance_173 : decode prog_1_method_4_code 173 = .ok (.getfield 60, 3) := by decide +kernel
theorem d_CS_instance_176 : decode prog_1_method_4_code 176 = .ok (.ireturn, 1) := by decide +kernel
theorem d_CS_build_0 : decode prog_1_method_5_code 0 = .ok (.aload_n 0, 1) := by decide +kernel
theorem d_CS_build_1 : decode prog_1_method_5_code 1 = .ok (.getfield 52, 3) := by decide +kernel
theorem d_CS_build_4 : decode prog_1_method_5_code 4 = .ok (.ifCond .eq 11, 3) := by decide +kernel
theorem d_CS_build_7 : decode prog_1_method_5_code 7 = .ok (.aload_n 0, 1) := by decide +kernel
theorem d_CS_build_8 : decode prog_1_method_5_code 8 = .ok (.getfield 34, 3) := by decide +kernel
theorem d_CS_build_11 : decode prog_1_method_5_code 11 = .ok (.getfield 124, 3) := by decide +kernel
theorem d_CS_build_14 : decode prog_1_method_5_code 14 = .ok (.ireturn, 1) := by decide +kernel
theorem d_CS_build_15 : decode prog_1_method_5_code 15 = .ok (.aload_n 0, 1) := by decide +kernel
theorem d_CS_build_16 : decode prog_1_method_5_code 16 = .ok (.getfield 34, 3) := by decide +kernel
theorem d_CS_build_19 : decode prog_1_method_5_code 19 = .ok (.aload_n 0, 1) := by decide +kernel
theorem d_CS_build_20 : decode prog_1_method_5_code 20 = .ok (.getfield 14, 3) := by decide +kernel
theorem d_CS_build_23 : decode prog_1_method_5_code 23 = .ok (.aload_n 0, 1) := by decide +kernel
theorem d_CS_build_24 : decode prog_1_method_5_code 24 = .ok (.getfield 27, 3) := by decide +kernel
theorem d_CS_build_27 : decode prog_1_method_5_code 27 = .ok (.getfield 60, 3) := by decide +kernel
theorem d_CS_build_30 : decode prog_1_method_5_code 30 = .ok (.invokevirtual 127, 3) := by decide +kernel
theorem d_CS_build_33 : decode prog_1_method_5_code 33 = .ok (.ifCond .ne 13, 3) := by decide +kernel
theorem d_CS_build_36 : decode prog_1_method_5_code 36 = .ok (.new 84, 3) := by decide +kernel
theorem d_CS_build_39 : decode prog_1_method_5_code 39 = .ok (.dup, 1) := by decide +kernel
theorem d_CS_build_40 : decode prog_1_method_5_code 40 = .ok (.ldc 131, 2) := by decide +kernel
theorem d_CS_build_42 : decode prog_1_method_5_code 42 = .ok (.invokespecial 88, 3) := by decide +kernel
theorem d_CS_build_45 : decode prog_1_method_5_code 45 = .ok (.athrow, 1) := by decide +kernel
theorem d_CS_build_46 : decode prog_1_method_5_code 46 = .ok (.aload_n 0, 1) := by decide +kernel
theorem d_CS_build_47 : decode prog_1_method_5_code 47 = .ok (.iconst 1, 1) := by decide +kernel
theorem d_CS_build_48 : decode prog_1_method_5_code 48 = .ok (.putfield 52, 3) := by decide +kernel
theorem d_CS_build_51 : decode prog_1_method_5_code 51 = .ok (.aload_n 0, 1) := by decide +kernel
theorem d_CS_build_52 : decode prog_1_method_5_code 52 = .ok (.invokevirtual 133, 3) := by decide +kernel
theorem d_CS_build_55 : decode prog_1_method_5_code 55 = .ok (.aload_n 0, 1) := by decide +kernel
theorem d_CS_build_56 : decode prog_1_method_5_code 56 = .ok (.getfield 34, 3) := by decide +kernel
theorem d_CS_build_59 : decode prog_1_method_5_code 59 = .ok (.getfield 124, 3) := by decide +kernel
theorem d_CS_build_62 : decode prog_1_method_5_code 62 = .ok (.ireturn, 1) := by decide +kernel
theorem d_CS_loop_0 : decode prog_1_method_6_code 0 = .ok (.aload_n 0, 1) := by decide +kernel
theorem d_CS_loop_1 : decode prog_1_method_6_code 1 = .ok (.getfield 41, 3) := by decide +kernel
theorem d_CS_loop_4 : decode prog_1_method_6_code 4 = .ok (.aload_n 0, 1) := by decide +kernel
theorem d_CS_loop_5 : decode prog_1_method_6_code 5 = .ok (.getfield 14, 3) := by decide +kernel
theorem d_CS_loop_8 : decode prog_1_method_6_code 8 = .ok (.aload_n 0, 1) := by decide +kernel
theorem d_CS_loop_9 : decode prog_1_method_6_code 9 = .ok (.getfield 27, 3) := by decide +kernel
theorem d_CS_loop_12 : decode prog_1_method_6_code 12 = .ok (.getfield 60, 3) := by decide +kernel
theorem d_CS_loop_15 : decode prog_1_method_6_code 15 = .ok (.invokevirtual 136, 3) := by decide +kernel
theorem d_CS_loop_18 : decode prog_1_method_6_code 18 = .ok (.istore_n 1, 1) := by decide +kernel
theorem d_CS_loop_19 : decode prog_1_method_6_code 19 = .ok (.iload_n 1, 1) := by decide +kernel
theorem d_CS_loop_20 : decode prog_1_method_6_code 20 = .ok (.iconst (-1), 1) := by decide +kernel
theorem d_CS_loop_21 : decode prog_1_method_6_code 21 = .ok (.if_icmp .ne 13, 3) := by decide +kernel
theorem d_CS_loop_24 : decode prog_1_method_6_code 24 = .ok (.new 140, 3) := by decide +kernel
theorem d_CS_loop_27 : decode prog_1_method_6_code 27 = .ok (.dup, 1) := by decide +kernel
theorem d_CS_loop_28 : decode prog_1_method_6_code 28 = .ok (.ldc 142, 2) := by decide +kernel
theorem d_CS_loop_30 : decode prog_1_method_6_code 30 = .ok (.invokespecial 144, 3) := by decide +kernel
theorem d_CS_loop_33 : decode prog_1_method_6_code 33 = .ok (.athrow, 1) := by decide +kernel
theorem d_CS_loop_34 : decode prog_1_method_6_code 34 = .ok (.iload_n 1, 1) := by decide +kernel
theorem d_CS_loop_35 : decode prog_1_method_6_code 35 = .ok (.ireturn, 1) := by decide +kernel
theorem d_CS_set_0 : decode prog_1_method_7_code 0 = .ok (.aload_n 0, 1) := by decide +kernel
theorem d_CS_set_1 : decode prog_1_method_7_code 1 = .ok (.getfield 14, 3) := by decide +kernel
theorem d_CS_set_4 : decode prog_1_method_7_code 4 = .ok (.iload_n 1, 1) := by decide +kernel
theorem d_CS_set_5 : decode prog_1_method_7_code 5 = .ok (.iconst 0, 1) := by decide +kernel
theorem d_CS_set_6 : decode prog_1_method_7_code 6 = .ok (.invokevirtual 145, 3) := by decide +kernel
theorem d_CS_set_9 : decode prog_1_method_7_code 9 = .ok (.ifCond .ne 13, 3) := by decide +kernel
theorem d_CS_set_12 : decode prog_1_method_7_code 12 = .ok (.new 140, 3) := by decide +kernel
theorem d_CS_set_15 : decode prog_1_method_7_code 15 = .ok (.dup, 1) := by decide +kernel
theorem d_CS_set_16 : decode prog_1_method_7_code 16 = .ok (.ldc 148, 2) := by decide +kernel
theorem d_CS_set_18 : decode prog_1_method_7_code 18 = .ok (.invokespecial 144, 3) := by decide +kernel
theorem d_CS_set_21 : decode prog_1_method_7_code 21 = .ok (.athrow, 1) := by decide +kernel
theorem d_CS_set_22 : decode prog_1_method_7_code 22 = .ok (.iload_n 2, 1) := by decide +kernel
theorem d_CS_set_23 : decode prog_1_method_7_code 23 = .ok (.ifCond .lt 8, 3) := by decide +kernel
theorem d_CS_set_26 : decode prog_1_method_7_code 26 = .ok (.iload_n 2, 1) := by decide +kernel
theorem d_CS_set_27 : decode prog_1_method_7_code 27 = .ok (.iconst 3, 1) := by decide +kernel
theorem d_CS_set_28 : decode prog_1_method_7_code 28 = .ok (.if_icmp .le 13, 3) := by decide +kernel
theorem d_CS_set_31 : decode prog_1_method_7_code 31 = .ok (.new 67, 3) := by decide +kernel
theorem d_CS_set_34 : decode prog_1_method_7_code 34 = .ok (.dup, 1) := by decide +kernel
theorem d_CS_set_35 : decode prog_1_method_7_code 35 = .ok (.ldc 150, 2) := by decide +kernel
theorem d_CS_set_37 : decode prog_1_method_7_code 37 = .ok (.invokespecial 71, 3) := by decide +kernel
theorem d_CS_set_40 : decode prog_1_method_7_code 40 = .ok (.athrow, 1) := by decide +kernel
theorem d_CS_set_41 : decode prog_1_method_7_code 41 = .ok (.aload_n 0, 1) := by decide +kernel
theorem d_CS_set_42 : decode prog_1_method_7_code 42 = .ok (.getfield 52, 3) := by decide +kernel
theorem d_CS_set_45 : decode prog_1_method_7_code 45 = .ok (.ifCond .ne 13, 3) := by decide +kernel
theorem d_CS_set_48 : decode prog_1_method_7_code 48 = .ok (.new 84, 3) := by decide +kernel
theorem d_CS_set_51 : decode prog_1_method_7_code 51 = .ok (.dup, 1) := by decide +kernel
theorem d_CS_set_52 : decode prog_1_method_7_code 52 = .ok (.ldc 152, 2) := by decide +kernel
theorem d_CS_set_54 : decode prog_1_method_7_code 54 = .ok (.invokespecial 88, 3) := by decide +kernel
theorem d_CS_set_57 : decode prog_1_method_7_code 57 = .ok (.athrow, 1) := by decide +kernel
theorem d_CS_set_58 : decode prog_1_method_7_code 58 = .ok (.aload_n 0, 1) := by decide +kernel
theorem d_CS_set_59 : decode prog_1_method_7_code 59 = .ok (.getfield 14, 3) := by decide +kernel
theorem d_CS_set_62 : decode prog_1_method_7_code 62 = .ok (.getfield 154, 3) := by decide +kernel
theorem d_CS_set_65 : decode prog_1_method_7_code 65 = .ok (.iload_n 1, 1) := by decide +kernel
theorem d_CS_set_66 : decode prog_1_method_7_code 66 = .ok (.iload_n 2, 1) := by decide +kernel
theorem d_CS_set_67 : decode prog_1_method_7_code 67 = .ok (.iastore, 1) := by decide +kernel
theorem d_CS_set_68 : decode prog_1_method_7_code 68 = .ok (.aload_n 0, 1) := by decide +kernel
theorem d_CS_set_69 : decode prog_1_method_7_code 69 = .ok (.invokevirtual 133, 3) := by decide +kernel
theorem d_CS_set_72 : decode prog_1_method_7_code 72 = .ok (.aload_n 0, 1) := by decide +kernel
theorem d_CS_set_73 : decode prog_1_method_7_code 73 = .ok (.getfield 27, 3) := by decide +kernel
theorem d_CS_set_76 : decode prog_1_method_7_code 76 = .ok (.getfield 158, 3) := by decide +kernel
theorem d_CS_set_79 : decode prog_1_method_7_code 79 = .ok (.aload_n 0, 1) := by decide +kernel
theorem d_CS_set_80 : decode prog_1_method_7_code 80 = .ok (.getfield 14, 3) := by decide +kernel
theorem d_CS_set_83 : decode prog_1_method_7_code 83 = .ok (.getfield 161, 3) := by decide +kernel
theorem d_CS_set_86 : decode prog_1_method_7_code 86 = .ok (.iload_n 1, 1) := by decide +kernel
theorem d_CS_set_87 : decode prog_1_method_7_code 87 = .ok (.iaload, 1) := by decide +kernel
theorem d_CS_set_88 : decode prog_1_method_7_code 88 = .ok (.iaload, 1) := by decide +kernel
theorem d_CS_set_89 : decode prog_1_method_7_code 89 = .ok (.ireturn, 1) := by decide +kernel
theorem d_CS_tick_0 : decode prog_1_method_8_code 0 = .ok (.iload_n 1, 1) := by decide +kernel
theorem d_CS_tick_1 : decode prog_1_method_8_code 1 = .ok (.iconst 2, 1) := by decide +kernel
theorem d_CS_tick_2 : decode prog_1_method_8_code 2 = .ok (.invokestatic 93, 3) := by decide +kernel
theorem d_CS_tick_5 : decode prog_1_method_8_code 5 = .ok (.ifCond .ne 13, 3) := by decide +kernel
theorem d_CS_tick_8 : decode prog_1_method_8_code 8 = .ok (.new 67, 3) := by decide +kernel
theorem d_CS_tick_11 : decode prog_1_method_8_code 11 = .ok (.dup, 1) := by decide +kernel
theorem d_CS_tick_12 : decode prog_1_method_8_code 12 = .ok (.ldc 164, 2) := by decide +kernel
theorem d_CS_tick_14 : decode prog_1_method_8_code 14 = .ok (.invokespecial 71, 3) := by decide +kernel
theorem d_CS_tick_17 : decode prog_1_method_8_code 17 = .ok (.athrow, 1) := by decide +kernel
theorem d_CS_tick_18 : decode prog_1_method_8_code 18 = .ok (.aload_n 0, 1) := by decide +kernel
theorem d_CS_tick_19 : decode prog_1_method_8_code 19 = .ok (.getfield 52, 3) := by decide +kernel
theorem d_CS_tick_22 : decode prog_1_method_8_code 22 = .ok (.ifCond .ne 13, 3) := by decide +kernel
theorem d_CS_tick_25 : decode prog_1_method_8_code 25 = .ok (.new 84, 3) := by decide +kernel
theorem d_CS_tick_28 : decode prog_1_method_8_code 28 = .ok (.dup, 1) := by decide +kernel
theorem d_CS_tick_29 : decode prog_1_method_8_code 29 = .ok (.ldc 152, 2) := by decide +kernel
theorem d_CS_tick_31 : decode prog_1_method_8_code 31 = .ok (.invokespecial 88, 3) := by decide +kernel
theorem d_CS_tick_34 : decode prog_1_method_8_code 34 = .ok (.athrow, 1) := by decide +kernel
theorem d_CS_tick_35 : decode prog_1_method_8_code 35 = .ok (.iconst 0, 1) := by decide +kernel
theorem d_CS_tick_36 : decode prog_1_method_8_code 36 = .ok (.istore_n 2, 1) := by decide +kernel
theorem d_CS_tick_37 : decode prog_1_method_8_code 37 = .ok (.iconst 0, 1) := by decide +kernel
theorem d_CS_tick_38 : decode prog_1_method_8_code 38 = .ok (.istore_n 3, 1) := by decide +kernel
theorem d_CS_tick_39 : decode prog_1_method_8_code 39 = .ok (.iload_n 3, 1) := by decide +kernel
theorem d_CS_tick_40 : decode prog_1_method_8_code 40 = .ok (.aload_n 0, 1) := by decide +kernel
theorem d_CS_tick_41 : decode prog_1_method_8_code 41 = .ok (.getfield 14, 3) := by decide +kernel
theorem d_CS_tick_44 : decode prog_1_method_8_code 44 = .ok (.getfield 83, 3) := by decide +kernel
theorem d_CS_tick_47 : decode prog_1_method_8_code 47 = .ok (.if_icmp .ge 47, 3) := by decide +kernel
theorem d_CS_tick_50 : decode prog_1_method_8_code 50 = .ok (.aload_n 0, 1) := by decide +kernel
theorem d_CS_tick_51 : decode prog_1_method_8_code 51 = .ok (.getfield 14, 3) := by decide +kernel
theorem d_CS_tick_54 : decode prog_1_method_8_code 54 = .ok (.getfield 166, 3) := by decide +kernel
theorem d_CS_tick_57 : decode prog_1_method_8_code 57 = .ok (.iload_n 3, 1) := by decide +kernel
theorem d_CS_tick_58 : decode prog_1_method_8_code 58 = .ok (.iaload, 1) := by decide +kernel
theorem d_CS_tick_59 : decode prog_1_method_8_code 59 = .ok (.bipush 8, 2) := by decide +kernel
theorem d_CS_tick_61 : decode prog_1_method_8_code 61 = .ok (.if_icmp .ne 27, 3) := by decide +kernel
theorem d_CS_tick_64 : decode prog_1_method_8_code 64 = .ok (.aload_n 0, 1) := by decide +kernel
theorem d_CS_tick_65 : decode prog_1_method_8_code 65 = .ok (.getfield 14, 3) := by decide +kernel
theorem d_CS_tick_68 : decode prog_1_method_8_code 68 = .ok (.getfield 169, 3) := by decide +kernel
theorem d_CS_tick_71 : decode prog_1_method_8_code 71 = .ok (.iload_n 3, 1) := by decide +kernel
theorem d_CS_tick_72 : decode prog_1_method_8_code 72 = .ok (.iaload, 1) := by decide +kernel
theorem d_CS_tick_73 : decode prog_1_method_8_code 73 = .ok (.iload_n 1, 1) := by decide +kernel
theorem d_CS_tick_74 : decode prog_1_method_8_code 74 = .ok (.if_icmp .ne 14, 3) := by decide +kernel
theorem d_CS_tick_77 : decode prog_1_method_8_code 77 = .ok (.aload_n 0, 1) := by decide +kernel
theorem d_CS_tick_78 : decode prog_1_method_8_code 78 = .ok (.iload_n 3, 1) := by decide +kernel
theorem d_CS_tick_79 : decode prog_1_method_8_code 79 = .ok (.invokevirtual 172, 3) := by decide +kernel
theorem d_CS_tick_82 : decode prog_1_method_8_code 82 = .ok (.ifCond .eq 6, 3) := by decide +kernel
theorem d_CS_tick_85 : decode prog_1_method_8_code 85 = .ok (.iinc 2 1, 3) := by decide +kernel
theorem d_CS_tick_88 : decode prog_1_method_8_code 88 = .ok (.iinc 3 1, 3) := by decide +kernel
theorem d_CS_tick_91 : decode prog_1_method_8_code 91 = .ok (.goto (-52), 3) := by decide +kernel
theorem d_CS_tick_94 : decode prog_1_method_8_code 94 = .ok (.aload_n 0, 1) := by decide +kernel
theorem d_CS_tick_95 : decode prog_1_method_8_code 95 = .ok (.invokevirtual 133, 3) := by decide +kernel
theorem d_CS_tick_98 : decode prog_1_method_8_code 98 = .ok (.iload_n 2, 1) := by decide +kernel
theorem d_CS_tick_99 : decode prog_1_method_8_code 99 = .ok (.ireturn, 1) := by decide +kernel
theorem d_CS_stick_0 : decode prog_1_method_9_code 0 = .ok (.iload_n 1, 1) := by decide +kernel
theorem d_CS_stick_1 : decode prog_1_method_9_code 1 = .ok (.aload_n 0, 1) := by decide +kernel
theorem d_CS_stick_2 : decode prog_1_method_9_code 2 = .ok (.getfield 27, 3) := by decide +kernel
theorem d_CS_stick_5 : decode prog_1_method_9_code 5 = .ok (.getfield 60, 3) := by decide +kernel
theorem d_CS_stick_8 : decode prog_1_method_9_code 8 = .ok (.invokestatic 93, 3) := by decide +kernel
theorem d_CS_stick_11 : decode prog_1_method_9_code 11 = .ok (.ifCond .ne 13, 3) := by decide +kernel
theorem d_CS_stick_14 : decode prog_1_method_9_code 14 = .ok (.new 140, 3) := by decide +kernel
theorem d_CS_stick_17 : decode prog_1_method_9_code 17 = .ok (.dup, 1) := by decide +kernel
theorem d_CS_stick_18 : decode prog_1_method_9_code 18 = .ok (.ldc 176, 2) := by decide +kernel
theorem d_CS_stick_20 : decode prog_1_method_9_code 20 = .ok (.invokespecial 144, 3) := by decide +kernel
theorem d_CS_stick_23 : decode prog_1_method_9_code 23 = .ok (.athrow, 1) := by decide +kernel
theorem d_CS_stick_24 : decode prog_1_method_9_code 24 = .ok (.iload_n 2, 1) := by decide +kernel
theorem d_CS_stick_25 : decode prog_1_method_9_code 25 = .ok (.iconst (-1), 1) := by decide +kernel
theorem d_CS_stick_26 : decode prog_1_method_9_code 26 = .ok (.if_icmp .lt 8, 3) := by decide +kernel
theorem d_CS_stick_29 : decode prog_1_method_9_code 29 = .ok (.iload_n 2, 1) := by decide +kernel
theorem d_CS_stick_30 : decode prog_1_method_9_code 30 = .ok (.iconst 2, 1) := by decide +kernel
theorem d_CS_stick_31 : decode prog_1_method_9_code 31 = .ok (.if_icmp .le 13, 3) := by decide +kernel
theorem d_CS_stick_34 : decode prog_1_method_9_code 34 = .ok (.new 67, 3) := by decide +kernel
theorem d_CS_stick_37 : decode prog_1_method_9_code 37 = .ok (.dup, 1) := by decide +kernel
theorem d_CS_stick_38 : decode prog_1_method_9_code 38 = .ok (.ldc 178, 2) := by decide +kernel
theorem d_CS_stick_40 : decode prog_1_method_9_code 40 = .ok (.invokespecial 71, 3) := by decide +kernel
theorem d_CS_stick_43 : decode prog_1_method_9_code 43 = .ok (.athrow, 1) := by decide +kernel
theorem d_CS_stick_44 : decode prog_1_method_9_code 44 = .ok (.aload_n 0, 1) := by decide +kernel
theorem d_CS_stick_45 : decode prog_1_method_9_code 45 = .ok (.getfield 27, 3) := by decide +kernel
theorem d_CS_stick_48 : decode prog_1_method_9_code 48 = .ok (.getfield 180, 3) := by decide +kernel
theorem d_CS_stick_51 : decode prog_1_method_9_code 51 = .ok (.iload_n 1, 1) := by decide +kernel
theorem d_CS_stick_52 : decode prog_1_method_9_code 52 = .ok (.iaload, 1) := by decide +kernel
theorem d_CS_stick_53 : decode prog_1_method_9_code 53 = .ok (.iload_n 2, 1) := by decide +kernel
