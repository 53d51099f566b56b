theorem d_Model_part_129 : decode prog_9_method_10_code 129 = .ok (.getfield 62, 3) := by decide +kernel
theorem d_Model_part_132 : decode prog_9_method_10_code 132 = .ok (.iload_n 1, 1) := by decide +kernel
theorem d_Model_part_133 : decode prog_9_method_10_code 133 = .ok (.dup2, 1) := by decide +kernel
theorem d_Model_part_134 : decode prog_9_method_10_code 134 = .ok (.iaload, 1) := by decide +kernel
theorem d_Model_part_135 : decode prog_9_method_10_code 135 = .ok (.iconst 1, 1) := by decide +kernel
theorem d_Model_part_136 : decode prog_9_method_10_code 136 = .ok (.iadd, 1) := by decide +kernel
theorem d_Model_part_137 : decode prog_9_method_10_code 137 = .ok (.iastore, 1) := by decide +kernel
theorem d_Model_part_138 : decode prog_9_method_10_code 138 = .ok (.aload_n 0, 1) := by decide +kernel
theorem d_Model_part_139 : decode prog_9_method_10_code 139 = .ok (.getfield 62, 3) := by decide +kernel
theorem d_Model_part_142 : decode prog_9_method_10_code 142 = .ok (.iload_n 1, 1) := by decide +kernel
theorem d_Model_part_143 : decode prog_9_method_10_code 143 = .ok (.iaload, 1) := by decide +kernel
theorem d_Model_part_144 : decode prog_9_method_10_code 144 = .ok (.ireturn, 1) := by decide +kernel
theorem d_Model_names_0 : decode prog_9_method_11_code 0 = .ok (.aload_n 0, 1) := by decide +kernel
theorem d_Model_names_1 : decode prog_9_method_11_code 1 = .ok (.getfield 47, 3) := by decide +kernel
theorem d_Model_names_4 : decode prog_9_method_11_code 4 = .ok (.iload_n 1, 1) := by decide +kernel
theorem d_Model_names_5 : decode prog_9_method_11_code 5 = .ok (.iaload, 1) := by decide +kernel
theorem d_Model_names_6 : decode prog_9_method_11_code 6 = .ok (.invokestatic 78, 3) := by decide +kernel
theorem d_Model_names_9 : decode prog_9_method_11_code 9 = .ok (.istore_n 3, 1) := by decide +kernel
theorem d_Model_names_10 : decode prog_9_method_11_code 10 = .ok (.aload_n 0, 1) := by decide +kernel
theorem d_Model_names_11 : decode prog_9_method_11_code 11 = .ok (.getfield 50, 3) := by decide +kernel
theorem d_Model_names_14 : decode prog_9_method_11_code 14 = .ok (.iload_n 1, 1) := by decide +kernel
theorem d_Model_names_15 : decode prog_9_method_11_code 15 = .ok (.iaload, 1) := by decide +kernel
theorem d_Model_names_16 : decode prog_9_method_11_code 16 = .ok (.iload_n 2, 1) := by decide +kernel
theorem d_Model_names_17 : decode prog_9_method_11_code 17 = .ok (.if_icmp .eq 47, 3) := by decide +kernel
theorem d_Model_names_20 : decode prog_9_method_11_code 20 = .ok (.iload_n 3, 1) := by decide +kernel
theorem d_Model_names_21 : decode prog_9_method_11_code 21 = .ok (.ifCond .le 13, 3) := by decide +kernel
theorem d_Model_names_24 : decode prog_9_method_11_code 24 = .ok (.aload_n 0, 1) := by decide +kernel
theorem d_Model_names_25 : decode prog_9_method_11_code 25 = .ok (.getfield 53, 3) := by decide +kernel
theorem d_Model_names_28 : decode prog_9_method_11_code 28 = .ok (.iload_n 1, 1) := by decide +kernel
theorem d_Model_names_29 : decode prog_9_method_11_code 29 = .ok (.iaload, 1) := by decide +kernel
theorem d_Model_names_30 : decode prog_9_method_11_code 30 = .ok (.iload_n 2, 1) := by decide +kernel
theorem d_Model_names_31 : decode prog_9_method_11_code 31 = .ok (.if_icmp .eq 33, 3) := by decide +kernel
theorem d_Model_names_34 : decode prog_9_method_11_code 34 = .ok (.iload_n 3, 1) := by decide +kernel
theorem d_Model_names_35 : decode prog_9_method_11_code 35 = .ok (.iconst 1, 1) := by decide +kernel
theorem d_Model_names_36 : decode prog_9_method_11_code 36 = .ok (.if_icmp .le 13, 3) := by decide +kernel
theorem d_Model_names_39 : decode prog_9_method_11_code 39 = .ok (.aload_n 0, 1) := by decide +kernel
theorem d_Model_names_40 : decode prog_9_method_11_code 40 = .ok (.getfield 56, 3) := by decide +kernel
theorem d_Model_names_43 : decode prog_9_method_11_code 43 = .ok (.iload_n 1, 1) := by decide +kernel
theorem d_Model_names_44 : decode prog_9_method_11_code 44 = .ok (.iaload, 1) := by decide +kernel
theorem d_Model_names_45 : decode prog_9_method_11_code 45 = .ok (.iload_n 2, 1) := by decide +kernel
theorem d_Model_names_46 : decode prog_9_method_11_code 46 = .ok (.if_icmp .eq 18, 3) := by decide +kernel
theorem d_Model_names_49 : decode prog_9_method_11_code 49 = .ok (.iload_n 3, 1) := by decide +kernel
theorem d_Model_names_50 : decode prog_9_method_11_code 50 = .ok (.iconst 2, 1) := by decide +kernel
theorem d_Model_names_51 : decode prog_9_method_11_code 51 = .ok (.if_icmp .le 17, 3) := by decide +kernel
theorem d_Model_names_54 : decode prog_9_method_11_code 54 = .ok (.aload_n 0, 1) := by decide +kernel
theorem d_Model_names_55 : decode prog_9_method_11_code 55 = .ok (.getfield 59, 3) := by decide +kernel
theorem d_Model_names_58 : decode prog_9_method_11_code 58 = .ok (.iload_n 1, 1) := by decide +kernel
theorem d_Model_names_59 : decode prog_9_method_11_code 59 = .ok (.iaload, 1) := by decide +kernel
theorem d_Model_names_60 : decode prog_9_method_11_code 60 = .ok (.iload_n 2, 1) := by decide +kernel
theorem d_Model_names_61 : decode prog_9_method_11_code 61 = .ok (.if_icmp .ne 7, 3) := by decide +kernel
theorem d_Model_names_64 : decode prog_9_method_11_code 64 = .ok (.iconst 1, 1) := by decide +kernel
theorem d_Model_names_65 : decode prog_9_method_11_code 65 = .ok (.goto 4, 3) := by decide +kernel
theorem d_Model_names_68 : decode prog_9_method_11_code 68 = .ok (.iconst 0, 1) := by decide +kernel
theorem d_Model_names_69 : decode prog_9_method_11_code 69 = .ok (.ireturn, 1) := by decide +kernel
theorem d_Model_number_0 : decode prog_9_method_12_code 0 = .ok (.aload_n 0, 1) := by decide +kernel
theorem d_Model_number_1 : decode prog_9_method_12_code 1 = .ok (.getfield 7, 3) := by decide +kernel
theorem d_Model_number_4 : decode prog_9_method_12_code 4 = .ok (.istore 4, 2) := by decide +kernel
theorem d_Model_number_6 : decode prog_9_method_12_code 6 = .ok (.iconst 0, 1) := by decide +kernel
theorem d_Model_number_7 : decode prog_9_method_12_code 7 = .ok (.istore 5, 2) := by decide +kernel
theorem d_Model_number_9 : decode prog_9_method_12_code 9 = .ok (.iload 5, 2) := by decide +kernel
theorem d_Model_number_11 : decode prog_9_method_12_code 11 = .ok (.bipush 10, 2) := by decide +kernel
theorem d_Model_number_13 : decode prog_9_method_12_code 13 = .ok (.if_icmp .ge 93, 3) := by decide +kernel
theorem d_Model_number_16 : decode prog_9_method_12_code 16 = .ok (.iconst 0, 1) := by decide +kernel
theorem d_Model_number_17 : decode prog_9_method_12_code 17 = .ok (.istore 6, 2) := by decide +kernel
theorem d_Model_number_19 : decode prog_9_method_12_code 19 = .ok (.iconst 0, 1) := by decide +kernel
theorem d_Model_number_20 : decode prog_9_method_12_code 20 = .ok (.istore 7, 2) := by decide +kernel
theorem d_Model_number_22 : decode prog_9_method_12_code 22 = .ok (.iload 7, 2) := by decide +kernel
theorem d_Model_number_24 : decode prog_9_method_12_code 24 = .ok (.aload_n 0, 1) := by decide +kernel
theorem d_Model_number_25 : decode prog_9_method_12_code 25 = .ok (.getfield 62, 3) := by decide +kernel
theorem d_Model_number_28 : decode prog_9_method_12_code 28 = .ok (.iload_n 1, 1) := by decide +kernel
theorem d_Model_number_29 : decode prog_9_method_12_code 29 = .ok (.iaload, 1) := by decide +kernel
theorem d_Model_number_30 : decode prog_9_method_12_code 30 = .ok (.if_icmp .ge 28, 3) := by decide +kernel
theorem d_Model_number_33 : decode prog_9_method_12_code 33 = .ok (.aload_n 0, 1) := by decide +kernel
theorem d_Model_number_34 : decode prog_9_method_12_code 34 = .ok (.bipush 10, 2) := by decide +kernel
theorem d_Model_number_36 : decode prog_9_method_12_code 36 = .ok (.iload_n 1, 1) := by decide +kernel
theorem d_Model_number_37 : decode prog_9_method_12_code 37 = .ok (.imul, 1) := by decide +kernel
theorem d_Model_number_38 : decode prog_9_method_12_code 38 = .ok (.iload 7, 2) := by decide +kernel
theorem d_Model_number_40 : decode prog_9_method_12_code 40 = .ok (.iadd, 1) := by decide +kernel
theorem d_Model_number_41 : decode prog_9_method_12_code 41 = .ok (.iload 5, 2) := by decide +kernel
theorem d_Model_number_43 : decode prog_9_method_12_code 43 = .ok (.invokevirtual 108, 3) := by decide +kernel
theorem d_Model_number_46 : decode prog_9_method_12_code 46 = .ok (.ifCond .eq 6, 3) := by decide +kernel
theorem d_Model_number_49 : decode prog_9_method_12_code 49 = .ok (.iconst 1, 1) := by decide +kernel
theorem d_Model_number_50 : decode prog_9_method_12_code 50 = .ok (.istore 6, 2) := by decide +kernel
theorem d_Model_number_52 : decode prog_9_method_12_code 52 = .ok (.iinc 7 1, 3) := by decide +kernel
theorem d_Model_number_55 : decode prog_9_method_12_code 55 = .ok (.goto (-33), 3) := by decide +kernel
theorem d_Model_number_58 : decode prog_9_method_12_code 58 = .ok (.aload_n 0, 1) := by decide +kernel
theorem d_Model_number_59 : decode prog_9_method_12_code 59 = .ok (.getfield 65, 3) := by decide +kernel
theorem d_Model_number_62 : decode prog_9_method_12_code 62 = .ok (.iload 5, 2) := by decide +kernel
theorem d_Model_number_64 : decode prog_9_method_12_code 64 = .ok (.iload 5, 2) := by decide +kernel
theorem d_Model_number_66 : decode prog_9_method_12_code 66 = .ok (.ifCond .ne 7, 3) := by decide +kernel
theorem d_Model_number_69 : decode prog_9_method_12_code 69 = .ok (.iload_n 2, 1) := by decide +kernel
theorem d_Model_number_70 : decode prog_9_method_12_code 70 = .ok (.goto 15, 3) := by decide +kernel
theorem d_Model_number_73 : decode prog_9_method_12_code 73 = .ok (.iload 5, 2) := by decide +kernel
theorem d_Model_number_75 : decode prog_9_method_12_code 75 = .ok (.iconst 1, 1) := by decide +kernel
theorem d_Model_number_76 : decode prog_9_method_12_code 76 = .ok (.if_icmp .ne 7, 3) := by decide +kernel
theorem d_Model_number_79 : decode prog_9_method_12_code 79 = .ok (.iload_n 3, 1) := by decide +kernel
theorem d_Model_number_80 : decode prog_9_method_12_code 80 = .ok (.goto 5, 3) := by decide +kernel
theorem d_Model_number_83 : decode prog_9_method_12_code 83 = .ok (.iload 4, 2) := by decide +kernel
theorem d_Model_number_85 : decode prog_9_method_12_code 85 = .ok (.iastore, 1) := by decide +kernel
theorem d_Model_number_86 : decode prog_9_method_12_code 86 = .ok (.iload 5, 2) := by decide +kernel
theorem d_Model_number_88 : decode prog_9_method_12_code 88 = .ok (.iconst 1, 1) := by decide +kernel
theorem d_Model_number_89 : decode prog_9_method_12_code 89 = .ok (.if_icmp .le 11, 3) := by decide +kernel
theorem d_Model_number_92 : decode prog_9_method_12_code 92 = .ok (.iload 6, 2) := by decide +kernel
theorem d_Model_number_94 : decode prog_9_method_12_code 94 = .ok (.ifCond .eq 6, 3) := by decide +kernel
theorem d_Model_number_97 : decode prog_9_method_12_code 97 = .ok (.iinc 4 1, 3) := by decide +kernel
theorem d_Model_number_100 : decode prog_9_method_12_code 100 = .ok (.iinc 5 1, 3) := by decide +kernel
theorem d_Model_number_103 : decode prog_9_method_12_code 103 = .ok (.goto (-94), 3) := by decide +kernel
theorem d_Model_number_106 : decode prog_9_method_12_code 106 = .ok (.iload 4, 2) := by decide +kernel
theorem d_Model_number_108 : decode prog_9_method_12_code 108 = .ok (.ireturn, 1) := by decide +kernel
theorem d_Model_mayStand_0 : decode prog_9_method_13_code 0 = .ok (.bipush 10, 2) := by decide +kernel
theorem d_Model_mayStand_2 : decode prog_9_method_13_code 2 = .ok (.iload_n 1, 1) := by decide +kernel
theorem d_Model_mayStand_3 : decode prog_9_method_13_code 3 = .ok (.imul, 1) := by decide +kernel
theorem d_Model_mayStand_4 : decode prog_9_method_13_code 4 = .ok (.istore_n 2, 1) := by decide +kernel
theorem d_Model_mayStand_5 : decode prog_9_method_13_code 5 = .ok (.iload_n 2, 1) := by decide +kernel
theorem d_Model_mayStand_6 : decode prog_9_method_13_code 6 = .ok (.bipush 10, 2) := by decide +kernel
theorem d_Model_mayStand_8 : decode prog_9_method_13_code 8 = .ok (.iload_n 1, 1) := by decide +kernel
theorem d_Model_mayStand_9 : decode prog_9_method_13_code 9 = .ok (.imul, 1) := by decide +kernel
theorem d_Model_mayStand_10 : decode prog_9_method_13_code 10 = .ok (.aload_n 0, 1) := by decide +kernel
theorem d_Model_mayStand_11 : decode prog_9_method_13_code 11 = .ok (.getfield 62, 3) := by decide +kernel
theorem d_Model_mayStand_14 : decode prog_9_method_13_code 14 = .ok (.iload_n 1, 1) := by decide +kernel
theorem d_Model_mayStand_15 : decode prog_9_method_13_code 15 = .ok (.iaload, 1) := by decide +kernel
theorem d_Model_mayStand_16 : decode prog_9_method_13_code 16 = .ok (.iadd, 1) := by decide +kernel
theorem d_Model_mayStand_17 : decode prog_9_method_13_code 17 = .ok (.if_icmp .ge 100, 3) := by decide +kernel
theorem d_Model_mayStand_20 : decode prog_9_method_13_code 20 = .ok (.aload_n 0, 1) := by decide +kernel
theorem d_Model_mayStand_21 : decode prog_9_method_13_code 21 = .ok (.aload_n 0, 1) := by decide +kernel
theorem d_Model_mayStand_22 : decode prog_9_method_13_code 22 = .ok (.getfield 47, 3) := by decide +kernel
theorem d_Model_mayStand_25 : decode prog_9_method_13_code 25 = .ok (.iload_n 2, 1) := by decide +kernel
theorem d_Model_mayStand_26 : decode prog_9_method_13_code 26 = .ok (.iaload, 1) := by decide +kernel
theorem d_Model_mayStand_27 : decode prog_9_method_13_code 27 = .ok (.aload_n 0, 1) := by decide +kernel
theorem d_Model_mayStand_28 : decode prog_9_method_13_code 28 = .ok (.getfield 65, 3) := by decide +kernel
theorem d_Model_mayStand_31 : decode prog_9_method_13_code 31 = .ok (.aload_n 0, 1) := by decide +kernel
theorem d_Model_mayStand_32 : decode prog_9_method_13_code 32 = .ok (.getfield 50, 3) := by decide +kernel
theorem d_Model_mayStand_35 : decode prog_9_method_13_code 35 = .ok (.iload_n 2, 1) := by decide +kernel
theorem d_Model_mayStand_36 : decode prog_9_method_13_code 36 = .ok (.iaload, 1) := by decide +kernel
theorem d_Model_mayStand_37 : decode prog_9_method_13_code 37 = .ok (.iaload, 1) := by decide +kernel
theorem d_Model_mayStand_38 : decode prog_9_method_13_code 38 = .ok (.invokevirtual 100, 3) := by decide +kernel
theorem d_Model_mayStand_41 : decode prog_9_method_13_code 41 = .ok (.ifCond .ne 5, 3) := by decide +kernel
theorem d_Model_mayStand_44 : decode prog_9_method_13_code 44 = .ok (.iconst 0, 1) := by decide +kernel
theorem d_Model_mayStand_45 : decode prog_9_method_13_code 45 = .ok (.ireturn, 1) := by decide +kernel
theorem d_Model_mayStand_46 : decode prog_9_method_13_code 46 = .ok (.bipush 10, 2) := by decide +kernel
theorem d_Model_mayStand_48 : decode prog_9_method_13_code 48 = .ok (.iload_n 1, 1) := by decide +kernel
theorem d_Model_mayStand_49 : decode prog_9_method_13_code 49 = .ok (.imul, 1) := by decide +kernel
theorem d_Model_mayStand_50 : decode prog_9_method_13_code 50 = .ok (.istore_n 3, 1) := by decide +kernel
theorem d_Model_mayStand_51 : decode prog_9_method_13_code 51 = .ok (.iload_n 3, 1) := by decide +kernel
theorem d_Model_mayStand_52 : decode prog_9_method_13_code 52 = .ok (.iload_n 2, 1) := by decide +kernel
theorem d_Model_mayStand_53 : decode prog_9_method_13_code 53 = .ok (.if_icmp .ge 58, 3) := by decide +kernel
theorem d_Model_mayStand_56 : decode prog_9_method_13_code 56 = .ok (.aload_n 0, 1) := by decide +kernel
theorem d_Model_mayStand_57 : decode prog_9_method_13_code 57 = .ok (.getfield 65, 3) := by decide +kernel
theorem d_Model_mayStand_60 : decode prog_9_method_13_code 60 = .ok (.aload_n 0, 1) := by decide +kernel
theorem d_Model_mayStand_61 : decode prog_9_method_13_code 61 = .ok (.getfield 50, 3) := by decide +kernel
theorem d_Model_mayStand_64 : decode prog_9_method_13_code 64 = .ok (.iload_n 3, 1) := by decide +kernel
theorem d_Model_mayStand_65 : decode prog_9_method_13_code 65 = .ok (.iaload, 1) := by decide +kernel
theorem d_Model_mayStand_66 : decode prog_9_method_13_code 66 = .ok (.iaload, 1) := by decide +kernel
theorem d_Model_mayStand_67 : decode prog_9_method_13_code 67 = .ok (.aload_n 0, 1) := by decide +kernel
theorem d_Model_mayStand_68 : decode prog_9_method_13_code 68 = .ok (.getfield 65, 3) := by decide +kernel
theorem d_Model_mayStand_71 : decode prog_9_method_13_code 71 = .ok (.aload_n 0, 1) := by decide +kernel
theorem d_Model_mayStand_72 : decode prog_9_method_13_code 72 = .ok (.getfield 50, 3) := by decide +kernel
theorem d_Model_mayStand_75 : decode prog_9_method_13_code 75 = .ok (.iload_n 2, 1) := by decide +kernel
theorem d_Model_mayStand_76 : decode prog_9_method_13_code 76 = .ok (.iaload, 1) := by decide +kernel
theorem d_Model_mayStand_77 : decode prog_9_method_13_code 77 = .ok (.iaload, 1) := by decide +kernel
theorem d_Model_mayStand_78 : decode prog_9_method_13_code 78 = .ok (.if_icmp .ne 27, 3) := by decide +kernel
theorem d_Model_mayStand_81 : decode prog_9_method_13_code 81 = .ok (.aload_n 0, 1) := by decide +kernel
theorem d_Model_mayStand_82 : decode prog_9_method_13_code 82 = .ok (.getfield 47, 3) := by decide +kernel
theorem d_Model_mayStand_85 : decode prog_9_method_13_code 85 = .ok (.iload_n 2, 1) := by decide +kernel
theorem d_Model_mayStand_86 : decode prog_9_method_13_code 86 = .ok (.iaload, 1) := by decide +kernel
theorem d_Model_mayStand_87 : decode prog_9_method_13_code 87 = .ok (.bipush 6, 2) := by decide +kernel
theorem d_Model_mayStand_89 : decode prog_9_method_13_code 89 = .ok (.if_icmp .ne 14, 3) := by decide +kernel
theorem d_Model_mayStand_92 : decode prog_9_method_13_code 92 = .ok (.aload_n 0, 1) := by decide +kernel
theorem d_Model_mayStand_93 : decode prog_9_method_13_code 93 = .ok (.getfield 47, 3) := by decide +kernel
theorem d_Model_mayStand_96 : decode prog_9_method_13_code 96 = .ok (.iload_n 3, 1) := by decide +kernel
theorem d_Model_mayStand_97 : decode prog_9_method_13_code 97 = .ok (.iaload, 1) := by decide +kernel
theorem d_Model_mayStand_98 : decode prog_9_method_13_code 98 = .ok (.bipush 6, 2) := by decide +kernel
theorem d_Model_mayStand_100 : decode prog_9_method_13_code 100 = .ok (.if_icmp .eq 5, 3) := by decide +kernel
theorem d_Model_mayStand_103 : decode prog_9_method_13_code 103 = .ok (.iconst 0, 1) := by decide +kernel
theorem d_Model_mayStand_104 : decode prog_9_method_13_code 104 = .ok (.ireturn, 1) := by decide +kernel
theorem d_Model_mayStand_105 : decode prog_9_method_13_code 105 = .ok (.iinc 3 1, 3) := by decide +kernel
theorem d_Model_mayStand_108 : decode prog_9_method_13_code 108 = .ok (.goto (-57), 3) := by decide +kernel
theorem d_Model_mayStand_111 : decode prog_9_method_13_code 111 = .ok (.iinc 2 1, 3) := by decide +kernel
theorem d_Model_mayStand_114 : decode prog_9_method_13_code 114 = .ok (.goto (-109), 3) := by decide +kernel
theorem d_Model_mayStand_117 : decode prog_9_method_13_code 117 = .ok (.iconst 1, 1) := by decide +kernel
theorem d_Model_mayStand_118 : decode prog_9_method_13_code 118 = .ok (.ireturn, 1) := by decide +kernel
theorem d_Model_instance_0 : decode prog_9_method_14_code 0 = .ok (.aload_n 0, 1) := by decide +kernel
theorem d_Model_instance_1 : decode prog_9_method_14_code 1 = .ok (.iconst 0, 1) := by decide +kernel
theorem d_Model_instance_2 : decode prog_9_method_14_code 2 = .ok (.putfield 75, 3) := by decide +kernel
theorem d_Model_instance_5 : decode prog_9_method_14_code 5 = .ok (.iload_n 1, 1) := by decide +kernel
theorem d_Model_instance_6 : decode prog_9_method_14_code 6 = .ok (.iconst 0, 1) := by decide +kernel
theorem d_Model_instance_7 : decode prog_9_method_14_code 7 = .ok (.iconst 1, 1) := by decide +kernel
theorem d_Model_instance_8 : decode prog_9_method_14_code 8 = .ok (.invokestatic 82, 3) := by decide +kernel
theorem d_Model_instance_11 : decode prog_9_method_14_code 11 = .ok (.ifCond .eq 31, 3) := by decide +kernel
theorem d_Model_instance_14 : decode prog_9_method_14_code 14 = .ok (.iload_n 2, 1) := by decide +kernel
theorem d_Model_instance_15 : decode prog_9_method_14_code 15 = .ok (.iconst 0, 1) := by decide +kernel
theorem d_Model_instance_16 : decode prog_9_method_14_code 16 = .ok (.aload_n 0, 1) := by decide +kernel
theorem d_Model_instance_17 : decode prog_9_method_14_code 17 = .ok (.getfield 7, 3) := by decide +kernel
theorem d_Model_instance_20 : decode prog_9_method_14_code 20 = .ok (.iconst 1, 1) := by decide +kernel
theorem d_Model_instance_21 : decode prog_9_method_14_code 21 = .ok (.isub, 1) := by decide +kernel
theorem d_Model_instance_22 : decode prog_9_method_14_code 22 = .ok (.invokestatic 82, 3) := by decide +kernel
theorem d_Model_instance_25 : decode prog_9_method_14_code 25 = .ok (.ifCond .eq 17, 3) := by decide +kernel
theorem d_Model_instance_28 : decode prog_9_method_14_code 28 = .ok (.iload_n 3, 1) := by decide +kernel
theorem d_Model_instance_29 : decode prog_9_method_14_code 29 = .ok (.iconst 0, 1) := by decide +kernel
theorem d_Model_instance_30 : decode prog_9_method_14_code 30 = .ok (.aload_n 0, 1) := by decide +kernel
theorem d_Model_instance_31 : decode prog_9_method_14_code 31 = .ok (.getfield 7, 3) := by decide +kernel
theorem d_Model_instance_34 : decode prog_9_method_14_code 34 = .ok (.iconst 1, 1) := by decide +kernel
theorem d_Model_instance_35 : decode prog_9_method_14_code 35 = .ok (.isub, 1) := by decide +kernel
theorem d_Model_instance_36 : decode prog_9_method_14_code 36 = .ok (.invokestatic 82, 3) := by decide +kernel
theorem d_Model_instance_39 : decode prog_9_method_14_code 39 = .ok (.ifCond .ne 9, 3) := by decide +kernel
theorem d_Model_instance_42 : decode prog_9_method_14_code 42 = .ok (.aload_n 0, 1) := by decide +kernel
theorem d_Model_instance_43 : decode prog_9_method_14_code 43 = .ok (.iconst 1, 1) := by decide +kernel
theorem d_Model_instance_44 : decode prog_9_method_14_code 44 = .ok (.invokevirtual 97, 3) := by decide +kernel
theorem d_Model_instance_47 : decode prog_9_method_14_code 47 = .ok (.ireturn, 1) := by decide +kernel
theorem d_Model_instance_48 : decode prog_9_method_14_code 48 = .ok (.aload_n 0, 1) := by decide +kernel
theorem d_Model_instance_49 : decode prog_9_method_14_code 49 = .ok (.iload_n 1, 1) := by decide +kernel
theorem d_Model_instance_50 : decode prog_9_method_14_code 50 = .ok (.iload_n 2, 1) := by decide +kernel
theorem d_Model_instance_51 : decode prog_9_method_14_code 51 = .ok (.iload_n 3, 1) := by decide +kernel
theorem d_Model_instance_52 : decode prog_9_method_14_code 52 = .ok (.invokevirtual 111, 3) := by decide +kernel
theorem d_Model_instance_55 : decode prog_9_method_14_code 55 = .ok (.istore 4, 2) := by decide +kernel
theorem d_Model_instance_57 : decode prog_9_method_14_code 57 = .ok (.aload_n 0, 1) := by decide +kernel
theorem d_Model_instance_58 : decode prog_9_method_14_code 58 = .ok (.iload_n 1, 1) := by decide +kernel
theorem d_Model_instance_59 : decode prog_9_method_14_code 59 = .ok (.invokevirtual 115, 3) := by decide +kernel
theorem d_Model_instance_62 : decode prog_9_method_14_code 62 = .ok (.ifCond .ne 9, 3) := by decide +kernel
theorem d_Model_instance_65 : decode prog_9_method_14_code 65 = .ok (.aload_n 0, 1) := by decide +kernel
theorem d_Model_instance_66 : decode prog_9_method_14_code 66 = .ok (.iconst 2, 1) := by decide +kernel
theorem d_Model_instance_67 : decode prog_9_method_14_code 67 = .ok (.invokevirtual 97, 3) := by decide +kernel
theorem d_Model_instance_70 : decode prog_9_method_14_code 70 = .ok (.ireturn, 1) := by decide +kernel
theorem d_Model_instance_71 : decode prog_9_method_14_code 71 = .ok (.iload 4, 2) := by decide +kernel
theorem d_Model_instance_73 : decode prog_9_method_14_code 73 = .ok (.bipush 80, 2) := by decide +kernel
theorem d_Model_instance_75 : decode prog_9_method_14_code 75 = .ok (.if_icmp .gt 19, 3) := by decide +kernel
theorem d_Model_instance_78 : decode prog_9_method_14_code 78 = .ok (.aload_n 0, 1) := by decide +kernel
theorem d_Model_instance_79 : decode prog_9_method_14_code 79 = .ok (.getfield 86, 3) := by decide +kernel
theorem d_Model_instance_82 : decode prog_9_method_14_code 82 = .ok (.aload_n 0, 1) := by decide +kernel
theorem d_Model_instance_83 : decode prog_9_method_14_code 83 = .ok (.getfield 62, 3) := by decide +kernel
theorem d_Model_instance_86 : decode prog_9_method_14_code 86 = .ok (.iload_n 1, 1) := by decide +kernel
theorem d_Model_instance_87 : decode prog_9_method_14_code 87 = .ok (.iaload, 1) := by decide +kernel
theorem d_Model_instance_88 : decode prog_9_method_14_code 88 = .ok (.iadd, 1) := by decide +kernel
theorem d_Model_instance_89 : decode prog_9_method_14_code 89 = .ok (.bipush 60, 2) := by decide +kernel
theorem d_Model_instance_91 : decode prog_9_method_14_code 91 = .ok (.if_icmp .le 9, 3) := by decide +kernel
theorem d_Model_instance_94 : decode prog_9_method_14_code 94 = .ok (.aload_n 0, 1) := by decide +kernel
theorem d_Model_instance_95 : decode prog_9_method_14_code 95 = .ok (.iconst 3, 1) := by decide +kernel
theorem d_Model_instance_96 : decode prog_9_method_14_code 96 = .ok (.invokevirtual 97, 3) := by decide +kernel
theorem d_Model_instance_99 : decode prog_9_method_14_code 99 = .ok (.ireturn, 1) := by decide +kernel
theorem d_Model_instance_100 : decode prog_9_method_14_code 100 = .ok (.aload_n 0, 1) := by decide +kernel
theorem d_Model_instance_101 : decode prog_9_method_14_code 101 = .ok (.iconst 0, 1) := by decide +kernel
theorem d_Model_instance_102 : decode prog_9_method_14_code 102 = .ok (.putfield 89, 3) := by decide +kernel
theorem d_Model_instance_105 : decode prog_9_method_14_code 105 = .ok (.bipush 10, 2) := by decide +kernel
theorem d_Model_instance_107 : decode prog_9_method_14_code 107 = .ok (.iload_n 1, 1) := by decide +kernel
theorem d_Model_instance_108 : decode prog_9_method_14_code 108 = .ok (.imul, 1) := by decide +kernel
theorem d_Model_instance_109 : decode prog_9_method_14_code 109 = .ok (.istore 5, 2) := by decide +kernel
theorem d_Model_instance_111 : decode prog_9_method_14_code 111 = .ok (.iload 5, 2) := by decide +kernel
theorem d_Model_instance_113 : decode prog_9_method_14_code 113 = .ok (.bipush 10, 2) := by decide +kernel
theorem d_Model_instance_115 : decode prog_9_method_14_code 115 = .ok (.iload_n 1, 1) := by decide +kernel
theorem d_Model_instance_116 : decode prog_9_method_14_code 116 = .ok (.imul, 1) := by decide +kernel
theorem d_Model_instance_117 : decode prog_9_method_14_code 117 = .ok (.aload_n 0, 1) := by decide +kernel
theorem d_Model_instance_118 : decode prog_9_method_14_code 118 = .ok (.getfield 62, 3) := by decide +kernel
theorem d_Model_instance_121 : decode prog_9_method_14_code 121 = .ok (.iload_n 1, 1) := by decide +kernel
theorem d_Model_instance_122 : decode prog_9_method_14_code 122 = .ok (.iaload, 1) := by decide +kernel
theorem d_Model_instance_123 : decode prog_9_method_14_code 123 = .ok (.iadd, 1) := by decide +kernel
theorem d_Model_instance_124 : decode prog_9_method_14_code 124 = .ok (.if_icmp .ge 112, 3) := by decide +kernel
theorem d_Model_instance_127 : decode prog_9_method_14_code 127 = .ok (.aload_n 0, 1) := by decide +kernel
theorem d_Model_instance_128 : decode prog_9_method_14_code 128 = .ok (.getfield 47, 3) := by decide +kernel
theorem d_Model_instance_131 : decode prog_9_method_14_code 131 = .ok (.iload 5, 2) := by decide +kernel
theorem d_Model_instance_133 : decode prog_9_method_14_code 133 = .ok (.iaload, 1) := by decide +kernel
theorem d_Model_instance_134 : decode prog_9_method_14_code 134 = .ok (.invokestatic 78, 3) := by decide +kernel
theorem d_Model_instance_137 : decode prog_9_method_14_code 137 = .ok (.istore 6, 2) := by decide +kernel
theorem d_Model_instance_139 : decode prog_9_method_14_code 139 = .ok (.aload_n 0, 1) := by decide +kernel
theorem d_Model_instance_140 : decode prog_9_method_14_code 140 = .ok (.aload_n 0, 1) := by decide +kernel
theorem d_Model_instance_141 : decode prog_9_method_14_code 141 = .ok (.getfield 47, 3) := by decide +kernel
theorem d_Model_instance_144 : decode prog_9_method_14_code 144 = .ok (.iload 5, 2) := by decide +kernel
theorem d_Model_instance_146 : decode prog_9_method_14_code 146 = .ok (.iaload, 1) := by decide +kernel
theorem d_Model_instance_147 : decode prog_9_method_14_code 147 = .ok (.aload_n 0, 1) := by decide +kernel
theorem d_Model_instance_148 : decode prog_9_method_14_code 148 = .ok (.getfield 65, 3) := by decide +kernel
theorem d_Model_instance_151 : decode prog_9_method_14_code 151 = .ok (.aload_n 0, 1) := by decide +kernel
theorem d_Model_instance_152 : decode prog_9_method_14_code 152 = .ok (.getfield 50, 3) := by decide +kernel
theorem d_Model_instance_155 : decode prog_9_method_14_code 155 = .ok (.iload 5, 2) := by decide +kernel
theorem d_Model_instance_157 : decode prog_9_method_14_code 157 = .ok (.iaload, 1) := by decide +kernel
theorem d_Model_instance_158 : decode prog_9_method_14_code 158 = .ok (.iaload, 1) := by decide +kernel
theorem d_Model_instance_159 : decode prog_9_method_14_code 159 = .ok (.aload_n 0, 1) := by decide +kernel
theorem d_Model_instance_160 : decode prog_9_method_14_code 160 = .ok (.getfield 65, 3) := by decide +kernel
theorem d_Model_instance_163 : decode prog_9_method_14_code 163 = .ok (.aload_n 0, 1) := by decide +kernel
theorem d_Model_instance_164 : decode prog_9_method_14_code 164 = .ok (.getfield 53, 3) := by decide +kernel
theorem d_Model_instance_167 : decode prog_9_method_14_code 167 = .ok (.iload 5, 2) := by decide +kernel
theorem d_Model_instance_169 : decode prog_9_method_14_code 169 = .ok (.iaload, 1) := by decide +kernel
theorem d_Model_instance_170 : decode prog_9_method_14_code 170 = .ok (.iaload, 1) := by decide +kernel
theorem d_Model_instance_171 : decode prog_9_method_14_code 171 = .ok (.iload 6, 2) := by decide +kernel
theorem d_Model_instance_173 : decode prog_9_method_14_code 173 = .ok (.iconst 1, 1) := by decide +kernel
theorem d_Model_instance_174 : decode prog_9_method_14_code 174 = .ok (.if_icmp .le 18, 3) := by decide +kernel
theorem d_Model_instance_177 : decode prog_9_method_14_code 177 = .ok (.aload_n 0, 1) := by decide +kernel
theorem d_Model_instance_178 : decode prog_9_method_14_code 178 = .ok (.getfield 65, 3) := by decide +kernel
theorem d_Model_instance_181 : decode prog_9_method_14_code 181 = .ok (.aload_n 0, 1) := by decide +kernel
theorem d_Model_instance_182 : decode prog_9_method_14_code 182 = .ok (.getfield 56, 3) := by decide +kernel
theorem d_Model_instance_185 : decode prog_9_method_14_code 185 = .ok (.iload 5, 2) := by decide +kernel
theorem d_Model_instance_187 : decode prog_9_method_14_code 187 = .ok (.iaload, 1) := by decide +kernel
theorem d_Model_instance_188 : decode prog_9_method_14_code 188 = .ok (.iaload, 1) := by decide +kernel
theorem d_Model_instance_189 : decode prog_9_method_14_code 189 = .ok (.goto 10, 3) := by decide +kernel
theorem d_Model_instance_192 : decode prog_9_method_14_code 192 = .ok (.aload_n 0, 1) := by decide +kernel
theorem d_Model_instance_193 : decode prog_9_method_14_code 193 = .ok (.getfield 56, 3) := by decide +kernel
theorem d_Model_instance_196 : decode prog_9_method_14_code 196 = .ok (.iload 5, 2) := by decide +kernel
theorem d_Model_instance_198 : decode prog_9_method_14_code 198 = .ok (.iaload, 1) := by decide +kernel
theorem d_Model_instance_199 : decode prog_9_method_14_code 199 = .ok (.iload 6, 2) := by decide +kernel
theorem d_Model_instance_201 : decode prog_9_method_14_code 201 = .ok (.iconst 2, 1) := by decide +kernel
theorem d_Model_instance_202 : decode prog_9_method_14_code 202 = .ok (.if_icmp .le 18, 3) := by decide +kernel
theorem d_Model_instance_205 : decode prog_9_method_14_code 205 = .ok (.aload_n 0, 1) := by decide +kernel
theorem d_Model_instance_206 : decode prog_9_method_14_code 206 = .ok (.getfield 65, 3) := by decide +kernel
theorem d_Model_instance_209 : decode prog_9_method_14_code 209 = .ok (.aload_n 0, 1) := by decide +kernel
theorem d_Model_instance_210 : decode prog_9_method_14_code 210 = .ok (.getfield 59, 3) := by decide +kernel
theorem d_Model_instance_213 : decode prog_9_method_14_code 213 = .ok (.iload 5, 2) := by decide +kernel
theorem d_Model_instance_215 : decode prog_9_method_14_code 215 = .ok (.iaload, 1) := by decide +kernel
theorem d_Model_instance_216 : decode prog_9_method_14_code 216 = .ok (.iaload, 1) := by decide +kernel
theorem d_Model_instance_217 : decode prog_9_method_14_code 217 = .ok (.goto 10, 3) := by decide +kernel
theorem d_Model_instance_220 : decode prog_9_method_14_code 220 = .ok (.aload_n 0, 1) := by decide +kernel
theorem d_Model_instance_221 : decode prog_9_method_14_code 221 = .ok (.getfield 59, 3) := by decide +kernel
theorem d_Model_instance_224 : decode prog_9_method_14_code 224 = .ok (.iload 5, 2) := by decide +kernel
theorem d_Model_instance_226 : decode prog_9_method_14_code 226 = .ok (.iaload, 1) := by decide +kernel
theorem d_Model_instance_227 : decode prog_9_method_14_code 227 = .ok (.invokevirtual 104, 3) := by decide +kernel
theorem d_Model_instance_230 : decode prog_9_method_14_code 230 = .ok (.iinc 5 1, 3) := by decide +kernel
theorem d_Model_instance_233 : decode prog_9_method_14_code 233 = .ok (.goto (-122), 3) := by decide +kernel
theorem d_Model_instance_236 : decode prog_9_method_14_code 236 = .ok (.aload_n 0, 1) := by decide +kernel
theorem d_Model_instance_237 : decode prog_9_method_14_code 237 = .ok (.iload 4, 2) := by decide +kernel
theorem d_Model_instance_239 : decode prog_9_method_14_code 239 = .ok (.putfield 7, 3) := by decide +kernel
theorem d_Model_instance_242 : decode prog_9_method_14_code 242 = .ok (.aload_n 0, 1) := by decide +kernel
theorem d_Model_instance_243 : decode prog_9_method_14_code 243 = .ok (.getfield 7, 3) := by decide +kernel
theorem d_Model_instance_246 : decode prog_9_method_14_code 246 = .ok (.ireturn, 1) := by decide +kernel
theorem d_Model_has_0 : decode prog_9_method_15_code 0 = .ok (.iload_n 2, 1) := by decide +kernel
theorem d_Model_has_1 : decode prog_9_method_15_code 1 = .ok (.bipush 60, 2) := by decide +kernel
theorem d_Model_has_3 : decode prog_9_method_15_code 3 = .ok (.if_icmp .ge 14, 3) := by decide +kernel
theorem d_Model_has_6 : decode prog_9_method_15_code 6 = .ok (.aload_n 0, 1) := by decide +kernel
theorem d_Model_has_7 : decode prog_9_method_15_code 7 = .ok (.getfield 68, 3) := by decide +kernel
theorem d_Model_has_10 : decode prog_9_method_15_code 10 = .ok (.iload_n 1, 1) := by decide +kernel
theorem d_Model_has_11 : decode prog_9_method_15_code 11 = .ok (.laload, 1) := by decide +kernel
theorem d_Model_has_12 : decode prog_9_method_15_code 12 = .ok (.iload_n 2, 1) := by decide +kernel
theorem d_Model_has_13 : decode prog_9_method_15_code 13 = .ok (.lshr, 1) := by decide +kernel
theorem d_Model_has_14 : decode prog_9_method_15_code 14 = .ok (.goto 14, 3) := by decide +kernel
theorem d_Model_has_17 : decode prog_9_method_15_code 17 = .ok (.aload_n 0, 1) := by decide +kernel
theorem d_Model_has_18 : decode prog_9_method_15_code 18 = .ok (.getfield 72, 3) := by decide +kernel
theorem d_Model_has_21 : decode prog_9_method_15_code 21 = .ok (.iload_n 1, 1) := by decide +kernel
theorem d_Model_has_22 : decode prog_9_method_15_code 22 = .ok (.laload, 1) := by decide +kernel
theorem d_Model_has_23 : decode prog_9_method_15_code 23 = .ok (.iload_n 2, 1) := by decide +kernel
theorem d_Model_has_24 : decode prog_9_method_15_code 24 = .ok (.bipush 60, 2) := by decide +kernel
theorem d_Model_has_26 : decode prog_9_method_15_code 26 = .ok (.isub, 1) := by decide +kernel
theorem d_Model_has_27 : decode prog_9_method_15_code 27 = .ok (.lshr, 1) := by decide +kernel
theorem d_Model_has_28 : decode prog_9_method_15_code 28 = .ok (.lconst 1, 1) := by decide +kernel
theorem d_Model_has_29 : decode prog_9_method_15_code 29 = .ok (.land, 1) := by decide +kernel
theorem d_Model_has_30 : decode prog_9_method_15_code 30 = .ok (.lconst 0, 1) := by decide +kernel
theorem d_Model_has_31 : decode prog_9_method_15_code 31 = .ok (.lcmp, 1) := by decide +kernel
theorem d_Model_has_32 : decode prog_9_method_15_code 32 = .ok (.ifCond .eq 7, 3) := by decide +kernel
theorem d_Model_has_35 : decode prog_9_method_15_code 35 = .ok (.iconst 1, 1) := by decide +kernel
theorem d_Model_has_36 : decode prog_9_method_15_code 36 = .ok (.goto 4, 3) := by decide +kernel
theorem d_Model_has_39 : decode prog_9_method_15_code 39 = .ok (.iconst 0, 1) := by decide +kernel
theorem d_Model_has_40 : decode prog_9_method_15_code 40 = .ok (.ireturn, 1) := by decide +kernel
theorem d_Model_depend_0 : decode prog_9_method_16_code 0 = .ok (.iload_n 2, 1) := by decide +kernel
theorem d_Model_depend_1 : decode prog_9_method_16_code 1 = .ok (.bipush 60, 2) := by decide +kernel
theorem d_Model_depend_3 : decode prog_9_method_16_code 3 = .ok (.if_icmp .ge 18, 3) := by decide +kernel
theorem d_Model_depend_6 : decode prog_9_method_16_code 6 = .ok (.aload_n 0, 1) := by decide +kernel
theorem d_Model_depend_7 : decode prog_9_method_16_code 7 = .ok (.getfield 68, 3) := by decide +kernel
theorem d_Model_depend_10 : decode prog_9_method_16_code 10 = .ok (.iload_n 1, 1) := by decide +kernel
theorem d_Model_depend_11 : decode prog_9_method_16_code 11 = .ok (.dup2, 1) := by decide +kernel
theorem d_Model_depend_12 : decode prog_9_method_16_code 12 = .ok (.laload, 1) := by decide +kernel
theorem d_Model_depend_13 : decode prog_9_method_16_code 13 = .ok (.lconst 1, 1) := by decide +kernel
theorem d_Model_depend_14 : decode prog_9_method_16_code 14 = .ok (.iload_n 2, 1) := by decide +kernel
theorem d_Model_depend_15 : decode prog_9_method_16_code 15 = .ok (.lshl, 1) := by decide +kernel
theorem d_Model_depend_16 : decode prog_9_method_16_code 16 = .ok (.lor, 1) := by decide +kernel
theorem d_Model_depend_17 : decode prog_9_method_16_code 17 = .ok (.lastore, 1) := by decide +kernel
theorem d_Model_depend_18 : decode prog_9_method_16_code 18 = .ok (.goto 18, 3) := by decide +kernel
theorem d_Model_depend_21 : decode prog_9_method_16_code 21 = .ok (.aload_n 0, 1) := by decide +kernel
theorem d_Model_depend_22 : decode prog_9_method_16_code 22 = .ok (.getfield 72, 3) := by decide +kernel
theorem d_Model_depend_25 : decode prog_9_method_16_code 25 = .ok (.iload_n 1, 1) := by decide +kernel
theorem d_Model_depend_26 : decode prog_9_method_16_code 26 = .ok (.dup2, 1) := by decide +kernel
theorem d_Model_depend_27 : decode prog_9_method_16_code 27 = .ok (.laload, 1) := by decide +kernel
theorem d_Model_depend_28 : decode prog_9_method_16_code 28 = .ok (.lconst 1, 1) := by decide +kernel
theorem d_Model_depend_29 : decode prog_9_method_16_code 29 = .ok (.iload_n 2, 1) := by decide +kernel
theorem d_Model_depend_30 : decode prog_9_method_16_code 30 = .ok (.bipush 60, 2) := by decide +kernel
theorem d_Model_depend_32 : decode prog_9_method_16_code 32 = .ok (.isub, 1) := by decide +kernel
theorem d_Model_depend_33 : decode prog_9_method_16_code 33 = .ok (.lshl, 1) := by decide +kernel
theorem d_Model_depend_34 : decode prog_9_method_16_code 34 = .ok (.lor, 1) := by decide +kernel
theorem d_Model_depend_35 : decode prog_9_method_16_code 35 = .ok (.lastore, 1) := by decide +kernel
theorem d_Model_depend_36 : decode prog_9_method_16_code 36 = .ok (.return_, 1) := by decide +kernel
theorem d_Model_passes_0 : decode prog_9_method_17_code 0 = .ok (.aload_n 0, 1) := by decide +kernel
theorem d_Model_passes_1 : decode prog_9_method_17_code 1 = .ok (.getfield 26, 3) := by decide +kernel
theorem d_Model_passes_4 : decode prog_9_method_17_code 4 = .ok (.iload_n 1, 1) := by decide +kernel
theorem d_Model_passes_5 : decode prog_9_method_17_code 5 = .ok (.iaload, 1) := by decide +kernel
theorem d_Model_passes_6 : decode prog_9_method_17_code 6 = .ok (.ifCond .eq 18, 3) := by decide +kernel
theorem d_Model_passes_9 : decode prog_9_method_17_code 9 = .ok (.aload_n 0, 1) := by decide +kernel
theorem d_Model_passes_10 : decode prog_9_method_17_code 10 = .ok (.getfield 26, 3) := by decide +kernel
theorem d_Model_passes_13 : decode prog_9_method_17_code 13 = .ok (.iload_n 1, 1) := by decide +kernel
theorem d_Model_passes_14 : decode prog_9_method_17_code 14 = .ok (.iaload, 1) := by decide +kernel
theorem d_Model_passes_15 : decode prog_9_method_17_code 15 = .ok (.bipush 8, 2) := by decide +kernel
theorem d_Model_passes_17 : decode prog_9_method_17_code 17 = .ok (.if_icmp .eq 7, 3) := by decide +kernel
theorem d_Model_passes_20 : decode prog_9_method_17_code 20 = .ok (.iconst 1, 1) := by decide +kernel
theorem d_Model_passes_21 : decode prog_9_method_17_code 21 = .ok (.goto 4, 3) := by decide +kernel
theorem d_Model_passes_24 : decode prog_9_method_17_code 24 = .ok (.iconst 0, 1) := by decide +kernel
theorem d_Model_passes_25 : decode prog_9_method_17_code 25 = .ok (.ireturn, 1) := by decide +kernel
theorem d_Model_close_0 : decode prog_9_method_18_code 0 = .ok (.iconst 0, 1) := by decide +kernel
theorem d_Model_close_1 : decode prog_9_method_18_code 1 = .ok (.istore_n 1, 1) := by decide +kernel
theorem d_Model_close_2 : decode prog_9_method_18_code 2 = .ok (.iload_n 1, 1) := by decide +kernel
theorem d_Model_close_3 : decode prog_9_method_18_code 3 = .ok (.bipush 80, 2) := by decide +kernel
theorem d_Model_close_5 : decode prog_9_method_18_code 5 = .ok (.if_icmp .ge 23, 3) := by decide +kernel
theorem d_Model_close_8 : decode prog_9_method_18_code 8 = .ok (.aload_n 0, 1) := by decide +kernel
theorem d_Model_close_9 : decode prog_9_method_18_code 9 = .ok (.getfield 68, 3) := by decide +kernel
theorem d_Model_close_12 : decode prog_9_method_18_code 12 = .ok (.iload_n 1, 1) := by decide +kernel
theorem d_Model_close_13 : decode prog_9_method_18_code 13 = .ok (.lconst 0, 1) := by decide +kernel
theorem d_Model_close_14 : decode prog_9_method_18_code 14 = .ok (.lastore, 1) := by decide +kernel
theorem d_Model_close_15 : decode prog_9_method_18_code 15 = .ok (.aload_n 0, 1) := by decide +kernel
