theorem d_Model_init_0 : decode prog_9_method_1_code 0 = .ok (.aload_n 0, 1) := by decide +kernel
theorem d_Model_init_1 : decode prog_9_method_1_code 1 = .ok (.invokespecial 1, 3) := by decide +kernel
theorem d_Model_init_4 : decode prog_9_method_1_code 4 = .ok (.aload_n 0, 1) := by decide +kernel
theorem d_Model_init_5 : decode prog_9_method_1_code 5 = .ok (.bipush 40, 2) := by decide +kernel
theorem d_Model_init_7 : decode prog_9_method_1_code 7 = .ok (.putfield 7, 3) := by decide +kernel
theorem d_Model_init_10 : decode prog_9_method_1_code 10 = .ok (.aload_n 0, 1) := by decide +kernel
theorem d_Model_init_11 : decode prog_9_method_1_code 11 = .ok (.bipush 80, 2) := by decide +kernel
theorem d_Model_init_13 : decode prog_9_method_1_code 13 = .ok (.newarray .int, 2) := by decide +kernel
theorem d_Model_init_15 : decode prog_9_method_1_code 15 = .ok (.putfield 13, 3) := by decide +kernel
theorem d_Model_init_18 : decode prog_9_method_1_code 18 = .ok (.aload_n 0, 1) := by decide +kernel
theorem d_Model_init_19 : decode prog_9_method_1_code 19 = .ok (.bipush 80, 2) := by decide +kernel
theorem d_Model_init_21 : decode prog_9_method_1_code 21 = .ok (.newarray .int, 2) := by decide +kernel
theorem d_Model_init_23 : decode prog_9_method_1_code 23 = .ok (.putfield 17, 3) := by decide +kernel
theorem d_Model_init_26 : decode prog_9_method_1_code 26 = .ok (.aload_n 0, 1) := by decide +kernel
theorem d_Model_init_27 : decode prog_9_method_1_code 27 = .ok (.bipush 80, 2) := by decide +kernel
theorem d_Model_init_29 : decode prog_9_method_1_code 29 = .ok (.newarray .int, 2) := by decide +kernel
theorem d_Model_init_31 : decode prog_9_method_1_code 31 = .ok (.putfield 20, 3) := by decide +kernel
theorem d_Model_init_34 : decode prog_9_method_1_code 34 = .ok (.aload_n 0, 1) := by decide +kernel
theorem d_Model_init_35 : decode prog_9_method_1_code 35 = .ok (.bipush 80, 2) := by decide +kernel
theorem d_Model_init_37 : decode prog_9_method_1_code 37 = .ok (.newarray .int, 2) := by decide +kernel
theorem d_Model_init_39 : decode prog_9_method_1_code 39 = .ok (.putfield 23, 3) := by decide +kernel
theorem d_Model_init_42 : decode prog_9_method_1_code 42 = .ok (.aload_n 0, 1) := by decide +kernel
theorem d_Model_init_43 : decode prog_9_method_1_code 43 = .ok (.bipush 60, 2) := by decide +kernel
theorem d_Model_init_45 : decode prog_9_method_1_code 45 = .ok (.newarray .int, 2) := by decide +kernel
theorem d_Model_init_47 : decode prog_9_method_1_code 47 = .ok (.putfield 26, 3) := by decide +kernel
theorem d_Model_init_50 : decode prog_9_method_1_code 50 = .ok (.aload_n 0, 1) := by decide +kernel
theorem d_Model_init_51 : decode prog_9_method_1_code 51 = .ok (.bipush 60, 2) := by decide +kernel
theorem d_Model_init_53 : decode prog_9_method_1_code 53 = .ok (.newarray .int, 2) := by decide +kernel
theorem d_Model_init_55 : decode prog_9_method_1_code 55 = .ok (.putfield 29, 3) := by decide +kernel
theorem d_Model_init_58 : decode prog_9_method_1_code 58 = .ok (.aload_n 0, 1) := by decide +kernel
theorem d_Model_init_59 : decode prog_9_method_1_code 59 = .ok (.bipush 60, 2) := by decide +kernel
theorem d_Model_init_61 : decode prog_9_method_1_code 61 = .ok (.newarray .int, 2) := by decide +kernel
theorem d_Model_init_63 : decode prog_9_method_1_code 63 = .ok (.putfield 32, 3) := by decide +kernel
theorem d_Model_init_66 : decode prog_9_method_1_code 66 = .ok (.aload_n 0, 1) := by decide +kernel
theorem d_Model_init_67 : decode prog_9_method_1_code 67 = .ok (.bipush 60, 2) := by decide +kernel
theorem d_Model_init_69 : decode prog_9_method_1_code 69 = .ok (.newarray .int, 2) := by decide +kernel
theorem d_Model_init_71 : decode prog_9_method_1_code 71 = .ok (.putfield 35, 3) := by decide +kernel
theorem d_Model_init_74 : decode prog_9_method_1_code 74 = .ok (.aload_n 0, 1) := by decide +kernel
theorem d_Model_init_75 : decode prog_9_method_1_code 75 = .ok (.bipush 60, 2) := by decide +kernel
theorem d_Model_init_77 : decode prog_9_method_1_code 77 = .ok (.newarray .int, 2) := by decide +kernel
theorem d_Model_init_79 : decode prog_9_method_1_code 79 = .ok (.putfield 38, 3) := by decide +kernel
theorem d_Model_init_82 : decode prog_9_method_1_code 82 = .ok (.aload_n 0, 1) := by decide +kernel
theorem d_Model_init_83 : decode prog_9_method_1_code 83 = .ok (.bipush 60, 2) := by decide +kernel
theorem d_Model_init_85 : decode prog_9_method_1_code 85 = .ok (.newarray .int, 2) := by decide +kernel
theorem d_Model_init_87 : decode prog_9_method_1_code 87 = .ok (.putfield 41, 3) := by decide +kernel
theorem d_Model_init_90 : decode prog_9_method_1_code 90 = .ok (.aload_n 0, 1) := by decide +kernel
theorem d_Model_init_91 : decode prog_9_method_1_code 91 = .ok (.bipush 60, 2) := by decide +kernel
theorem d_Model_init_93 : decode prog_9_method_1_code 93 = .ok (.newarray .int, 2) := by decide +kernel
theorem d_Model_init_95 : decode prog_9_method_1_code 95 = .ok (.putfield 44, 3) := by decide +kernel
theorem d_Model_init_98 : decode prog_9_method_1_code 98 = .ok (.aload_n 0, 1) := by decide +kernel
theorem d_Model_init_99 : decode prog_9_method_1_code 99 = .ok (.bipush 20, 2) := by decide +kernel
theorem d_Model_init_101 : decode prog_9_method_1_code 101 = .ok (.newarray .int, 2) := by decide +kernel
theorem d_Model_init_103 : decode prog_9_method_1_code 103 = .ok (.putfield 47, 3) := by decide +kernel
theorem d_Model_init_106 : decode prog_9_method_1_code 106 = .ok (.aload_n 0, 1) := by decide +kernel
theorem d_Model_init_107 : decode prog_9_method_1_code 107 = .ok (.bipush 20, 2) := by decide +kernel
theorem d_Model_init_109 : decode prog_9_method_1_code 109 = .ok (.newarray .int, 2) := by decide +kernel
theorem d_Model_init_111 : decode prog_9_method_1_code 111 = .ok (.putfield 50, 3) := by decide +kernel
theorem d_Model_init_114 : decode prog_9_method_1_code 114 = .ok (.aload_n 0, 1) := by decide +kernel
theorem d_Model_init_115 : decode prog_9_method_1_code 115 = .ok (.bipush 20, 2) := by decide +kernel
theorem d_Model_init_117 : decode prog_9_method_1_code 117 = .ok (.newarray .int, 2) := by decide +kernel
theorem d_Model_init_119 : decode prog_9_method_1_code 119 = .ok (.putfield 53, 3) := by decide +kernel
theorem d_Model_init_122 : decode prog_9_method_1_code 122 = .ok (.aload_n 0, 1) := by decide +kernel
theorem d_Model_init_123 : decode prog_9_method_1_code 123 = .ok (.bipush 20, 2) := by decide +kernel
theorem d_Model_init_125 : decode prog_9_method_1_code 125 = .ok (.newarray .int, 2) := by decide +kernel
theorem d_Model_init_127 : decode prog_9_method_1_code 127 = .ok (.putfield 56, 3) := by decide +kernel
theorem d_Model_init_130 : decode prog_9_method_1_code 130 = .ok (.aload_n 0, 1) := by decide +kernel
theorem d_Model_init_131 : decode prog_9_method_1_code 131 = .ok (.bipush 20, 2) := by decide +kernel
theorem d_Model_init_133 : decode prog_9_method_1_code 133 = .ok (.newarray .int, 2) := by decide +kernel
theorem d_Model_init_135 : decode prog_9_method_1_code 135 = .ok (.putfield 59, 3) := by decide +kernel
theorem d_Model_init_138 : decode prog_9_method_1_code 138 = .ok (.aload_n 0, 1) := by decide +kernel
theorem d_Model_init_139 : decode prog_9_method_1_code 139 = .ok (.iconst 2, 1) := by decide +kernel
theorem d_Model_init_140 : decode prog_9_method_1_code 140 = .ok (.newarray .int, 2) := by decide +kernel
theorem d_Model_init_142 : decode prog_9_method_1_code 142 = .ok (.putfield 62, 3) := by decide +kernel
theorem d_Model_init_145 : decode prog_9_method_1_code 145 = .ok (.aload_n 0, 1) := by decide +kernel
theorem d_Model_init_146 : decode prog_9_method_1_code 146 = .ok (.bipush 10, 2) := by decide +kernel
theorem d_Model_init_148 : decode prog_9_method_1_code 148 = .ok (.newarray .int, 2) := by decide +kernel
theorem d_Model_init_150 : decode prog_9_method_1_code 150 = .ok (.putfield 65, 3) := by decide +kernel
theorem d_Model_init_153 : decode prog_9_method_1_code 153 = .ok (.aload_n 0, 1) := by decide +kernel
theorem d_Model_init_154 : decode prog_9_method_1_code 154 = .ok (.bipush 80, 2) := by decide +kernel
theorem d_Model_init_156 : decode prog_9_method_1_code 156 = .ok (.newarray .long, 2) := by decide +kernel
theorem d_Model_init_158 : decode prog_9_method_1_code 158 = .ok (.putfield 68, 3) := by decide +kernel
theorem d_Model_init_161 : decode prog_9_method_1_code 161 = .ok (.aload_n 0, 1) := by decide +kernel
theorem d_Model_init_162 : decode prog_9_method_1_code 162 = .ok (.bipush 80, 2) := by decide +kernel
theorem d_Model_init_164 : decode prog_9_method_1_code 164 = .ok (.newarray .long, 2) := by decide +kernel
theorem d_Model_init_166 : decode prog_9_method_1_code 166 = .ok (.putfield 72, 3) := by decide +kernel
theorem d_Model_init_169 : decode prog_9_method_1_code 169 = .ok (.iconst 0, 1) := by decide +kernel
theorem d_Model_init_170 : decode prog_9_method_1_code 170 = .ok (.istore_n 1, 1) := by decide +kernel
theorem d_Model_init_171 : decode prog_9_method_1_code 171 = .ok (.iload_n 1, 1) := by decide +kernel
theorem d_Model_init_172 : decode prog_9_method_1_code 172 = .ok (.bipush 80, 2) := by decide +kernel
theorem d_Model_init_174 : decode prog_9_method_1_code 174 = .ok (.if_icmp .ge 23, 3) := by decide +kernel
theorem d_Model_init_177 : decode prog_9_method_1_code 177 = .ok (.aload_n 0, 1) := by decide +kernel
theorem d_Model_init_178 : decode prog_9_method_1_code 178 = .ok (.getfield 13, 3) := by decide +kernel
theorem d_Model_init_181 : decode prog_9_method_1_code 181 = .ok (.iload_n 1, 1) := by decide +kernel
theorem d_Model_init_182 : decode prog_9_method_1_code 182 = .ok (.iconst 2, 1) := by decide +kernel
theorem d_Model_init_183 : decode prog_9_method_1_code 183 = .ok (.iastore, 1) := by decide +kernel
theorem d_Model_init_184 : decode prog_9_method_1_code 184 = .ok (.aload_n 0, 1) := by decide +kernel
theorem d_Model_init_185 : decode prog_9_method_1_code 185 = .ok (.getfield 20, 3) := by decide +kernel
theorem d_Model_init_188 : decode prog_9_method_1_code 188 = .ok (.iload_n 1, 1) := by decide +kernel
theorem d_Model_init_189 : decode prog_9_method_1_code 189 = .ok (.iconst (-1), 1) := by decide +kernel
theorem d_Model_init_190 : decode prog_9_method_1_code 190 = .ok (.iastore, 1) := by decide +kernel
theorem d_Model_init_191 : decode prog_9_method_1_code 191 = .ok (.iinc 1 1, 3) := by decide +kernel
theorem d_Model_init_194 : decode prog_9_method_1_code 194 = .ok (.goto (-23), 3) := by decide +kernel
theorem d_Model_init_197 : decode prog_9_method_1_code 197 = .ok (.return_, 1) := by decide +kernel
theorem d_Model_thrown_0 : decode prog_9_method_2_code 0 = .ok (.aload_n 0, 1) := by decide +kernel
theorem d_Model_thrown_1 : decode prog_9_method_2_code 1 = .ok (.getfield 75, 3) := by decide +kernel
theorem d_Model_thrown_4 : decode prog_9_method_2_code 4 = .ok (.ireturn, 1) := by decide +kernel
theorem d_Model_raise_0 : decode prog_9_method_3_code 0 = .ok (.aload_n 0, 1) := by decide +kernel
theorem d_Model_raise_1 : decode prog_9_method_3_code 1 = .ok (.iload_n 1, 1) := by decide +kernel
theorem d_Model_raise_2 : decode prog_9_method_3_code 2 = .ok (.putfield 75, 3) := by decide +kernel
theorem d_Model_raise_5 : decode prog_9_method_3_code 5 = .ok (.iconst 0, 1) := by decide +kernel
theorem d_Model_raise_6 : decode prog_9_method_3_code 6 = .ok (.ireturn, 1) := by decide +kernel
theorem d_Model_in_0 : decode prog_9_method_4_code 0 = .ok (.iload_n 0, 1) := by decide +kernel
theorem d_Model_in_1 : decode prog_9_method_4_code 1 = .ok (.iload_n 1, 1) := by decide +kernel
theorem d_Model_in_2 : decode prog_9_method_4_code 2 = .ok (.if_icmp .lt 12, 3) := by decide +kernel
theorem d_Model_in_5 : decode prog_9_method_4_code 5 = .ok (.iload_n 0, 1) := by decide +kernel
theorem d_Model_in_6 : decode prog_9_method_4_code 6 = .ok (.iload_n 2, 1) := by decide +kernel
theorem d_Model_in_7 : decode prog_9_method_4_code 7 = .ok (.if_icmp .gt 7, 3) := by decide +kernel
theorem d_Model_in_10 : decode prog_9_method_4_code 10 = .ok (.iconst 1, 1) := by decide +kernel
theorem d_Model_in_11 : decode prog_9_method_4_code 11 = .ok (.goto 4, 3) := by decide +kernel
theorem d_Model_in_14 : decode prog_9_method_4_code 14 = .ok (.iconst 0, 1) := by decide +kernel
theorem d_Model_in_15 : decode prog_9_method_4_code 15 = .ok (.ireturn, 1) := by decide +kernel
theorem d_Model_inputs_0 : decode prog_9_method_5_code 0 = .ok (.iload_n 0, 1) := by decide +kernel
theorem d_Model_inputs_1 : decode prog_9_method_5_code 1 = .ok (.ifCond .ne 5, 3) := by decide +kernel
theorem d_Model_inputs_4 : decode prog_9_method_5_code 4 = .ok (.iconst 0, 1) := by decide +kernel
theorem d_Model_inputs_5 : decode prog_9_method_5_code 5 = .ok (.ireturn, 1) := by decide +kernel
theorem d_Model_inputs_6 : decode prog_9_method_5_code 6 = .ok (.iload_n 0, 1) := by decide +kernel
theorem d_Model_inputs_7 : decode prog_9_method_5_code 7 = .ok (.iconst 1, 1) := by decide +kernel
theorem d_Model_inputs_8 : decode prog_9_method_5_code 8 = .ok (.if_icmp .eq 9, 3) := by decide +kernel
theorem d_Model_inputs_11 : decode prog_9_method_5_code 11 = .ok (.iload_n 0, 1) := by decide +kernel
theorem d_Model_inputs_12 : decode prog_9_method_5_code 12 = .ok (.bipush 8, 2) := by decide +kernel
theorem d_Model_inputs_14 : decode prog_9_method_5_code 14 = .ok (.if_icmp .ne 5, 3) := by decide +kernel
theorem d_Model_inputs_17 : decode prog_9_method_5_code 17 = .ok (.iconst 1, 1) := by decide +kernel
theorem d_Model_inputs_18 : decode prog_9_method_5_code 18 = .ok (.ireturn, 1) := by decide +kernel
theorem d_Model_inputs_19 : decode prog_9_method_5_code 19 = .ok (.iload_n 0, 1) := by decide +kernel
theorem d_Model_inputs_20 : decode prog_9_method_5_code 20 = .ok (.iconst 5, 1) := by decide +kernel
theorem d_Model_inputs_21 : decode prog_9_method_5_code 21 = .ok (.if_icmp .ne 7, 3) := by decide +kernel
theorem d_Model_inputs_24 : decode prog_9_method_5_code 24 = .ok (.iconst 3, 1) := by decide +kernel
theorem d_Model_inputs_25 : decode prog_9_method_5_code 25 = .ok (.goto 4, 3) := by decide +kernel
theorem d_Model_inputs_28 : decode prog_9_method_5_code 28 = .ok (.iconst 2, 1) := by decide +kernel
theorem d_Model_inputs_29 : decode prog_9_method_5_code 29 = .ok (.ireturn, 1) := by decide +kernel
theorem d_Model_fits_0 : decode prog_9_method_6_code 0 = .ok (.iload_n 0, 1) := by decide +kernel
theorem d_Model_fits_1 : decode prog_9_method_6_code 1 = .ok (.invokestatic 78, 3) := by decide +kernel
theorem d_Model_fits_4 : decode prog_9_method_6_code 4 = .ok (.istore 5, 2) := by decide +kernel
theorem d_Model_fits_6 : decode prog_9_method_6_code 6 = .ok (.iload 5, 2) := by decide +kernel
theorem d_Model_fits_8 : decode prog_9_method_6_code 8 = .ok (.ifCond .le 15, 3) := by decide +kernel
theorem d_Model_fits_11 : decode prog_9_method_6_code 11 = .ok (.iload_n 1, 1) := by decide +kernel
theorem d_Model_fits_12 : decode prog_9_method_6_code 12 = .ok (.iconst 0, 1) := by decide +kernel
theorem d_Model_fits_13 : decode prog_9_method_6_code 13 = .ok (.iload 4, 2) := by decide +kernel
theorem d_Model_fits_15 : decode prog_9_method_6_code 15 = .ok (.iconst 1, 1) := by decide +kernel
theorem d_Model_fits_16 : decode prog_9_method_6_code 16 = .ok (.isub, 1) := by decide +kernel
theorem d_Model_fits_17 : decode prog_9_method_6_code 17 = .ok (.invokestatic 82, 3) := by decide +kernel
theorem d_Model_fits_20 : decode prog_9_method_6_code 20 = .ok (.ifCond .eq 39, 3) := by decide +kernel
theorem d_Model_fits_23 : decode prog_9_method_6_code 23 = .ok (.iload 5, 2) := by decide +kernel
theorem d_Model_fits_25 : decode prog_9_method_6_code 25 = .ok (.iconst 1, 1) := by decide +kernel
theorem d_Model_fits_26 : decode prog_9_method_6_code 26 = .ok (.if_icmp .le 15, 3) := by decide +kernel
theorem d_Model_fits_29 : decode prog_9_method_6_code 29 = .ok (.iload_n 2, 1) := by decide +kernel
theorem d_Model_fits_30 : decode prog_9_method_6_code 30 = .ok (.iconst 0, 1) := by decide +kernel
theorem d_Model_fits_31 : decode prog_9_method_6_code 31 = .ok (.iload 4, 2) := by decide +kernel
theorem d_Model_fits_33 : decode prog_9_method_6_code 33 = .ok (.iconst 1, 1) := by decide +kernel
theorem d_Model_fits_34 : decode prog_9_method_6_code 34 = .ok (.isub, 1) := by decide +kernel
theorem d_Model_fits_35 : decode prog_9_method_6_code 35 = .ok (.invokestatic 82, 3) := by decide +kernel
theorem d_Model_fits_38 : decode prog_9_method_6_code 38 = .ok (.ifCond .eq 21, 3) := by decide +kernel
theorem d_Model_fits_41 : decode prog_9_method_6_code 41 = .ok (.iload 5, 2) := by decide +kernel
theorem d_Model_fits_43 : decode prog_9_method_6_code 43 = .ok (.iconst 2, 1) := by decide +kernel
theorem d_Model_fits_44 : decode prog_9_method_6_code 44 = .ok (.if_icmp .le 17, 3) := by decide +kernel
theorem d_Model_fits_47 : decode prog_9_method_6_code 47 = .ok (.iload_n 3, 1) := by decide +kernel
theorem d_Model_fits_48 : decode prog_9_method_6_code 48 = .ok (.iconst 0, 1) := by decide +kernel
theorem d_Model_fits_49 : decode prog_9_method_6_code 49 = .ok (.iload 4, 2) := by decide +kernel
theorem d_Model_fits_51 : decode prog_9_method_6_code 51 = .ok (.iconst 1, 1) := by decide +kernel
theorem d_Model_fits_52 : decode prog_9_method_6_code 52 = .ok (.isub, 1) := by decide +kernel
theorem d_Model_fits_53 : decode prog_9_method_6_code 53 = .ok (.invokestatic 82, 3) := by decide +kernel
theorem d_Model_fits_56 : decode prog_9_method_6_code 56 = .ok (.ifCond .ne 5, 3) := by decide +kernel
theorem d_Model_fits_59 : decode prog_9_method_6_code 59 = .ok (.iconst 0, 1) := by decide +kernel
theorem d_Model_fits_60 : decode prog_9_method_6_code 60 = .ok (.ireturn, 1) := by decide +kernel
theorem d_Model_fits_61 : decode prog_9_method_6_code 61 = .ok (.iload_n 0, 1) := by decide +kernel
theorem d_Model_fits_62 : decode prog_9_method_6_code 62 = .ok (.bipush 8, 2) := by decide +kernel
theorem d_Model_fits_64 : decode prog_9_method_6_code 64 = .ok (.if_icmp .ne 21, 3) := by decide +kernel
theorem d_Model_fits_67 : decode prog_9_method_6_code 67 = .ok (.iload_n 2, 1) := by decide +kernel
theorem d_Model_fits_68 : decode prog_9_method_6_code 68 = .ok (.iconst 0, 1) := by decide +kernel
theorem d_Model_fits_69 : decode prog_9_method_6_code 69 = .ok (.iconst 1, 1) := by decide +kernel
theorem d_Model_fits_70 : decode prog_9_method_6_code 70 = .ok (.invokestatic 82, 3) := by decide +kernel
theorem d_Model_fits_73 : decode prog_9_method_6_code 73 = .ok (.ifCond .eq 16, 3) := by decide +kernel
theorem d_Model_fits_76 : decode prog_9_method_6_code 76 = .ok (.iload_n 3, 1) := by decide +kernel
theorem d_Model_fits_77 : decode prog_9_method_6_code 77 = .ok (.iconst 0, 1) := by decide +kernel
theorem d_Model_fits_78 : decode prog_9_method_6_code 78 = .ok (.iconst 2, 1) := by decide +kernel
theorem d_Model_fits_79 : decode prog_9_method_6_code 79 = .ok (.invokestatic 82, 3) := by decide +kernel
theorem d_Model_fits_82 : decode prog_9_method_6_code 82 = .ok (.ifCond .eq 7, 3) := by decide +kernel
theorem d_Model_fits_85 : decode prog_9_method_6_code 85 = .ok (.iconst 1, 1) := by decide +kernel
theorem d_Model_fits_86 : decode prog_9_method_6_code 86 = .ok (.goto 4, 3) := by decide +kernel
theorem d_Model_fits_89 : decode prog_9_method_6_code 89 = .ok (.iconst 0, 1) := by decide +kernel
theorem d_Model_fits_90 : decode prog_9_method_6_code 90 = .ok (.ireturn, 1) := by decide +kernel
theorem d_Model_mayDrive_0 : decode prog_9_method_7_code 0 = .ok (.iconst 0, 1) := by decide +kernel
theorem d_Model_mayDrive_1 : decode prog_9_method_7_code 1 = .ok (.istore_n 3, 1) := by decide +kernel
theorem d_Model_mayDrive_2 : decode prog_9_method_7_code 2 = .ok (.iload_n 3, 1) := by decide +kernel
theorem d_Model_mayDrive_3 : decode prog_9_method_7_code 3 = .ok (.aload_n 0, 1) := by decide +kernel
theorem d_Model_mayDrive_4 : decode prog_9_method_7_code 4 = .ok (.getfield 86, 3) := by decide +kernel
theorem d_Model_mayDrive_7 : decode prog_9_method_7_code 7 = .ok (.if_icmp .ge 38, 3) := by decide +kernel
theorem d_Model_mayDrive_10 : decode prog_9_method_7_code 10 = .ok (.aload_n 0, 1) := by decide +kernel
theorem d_Model_mayDrive_11 : decode prog_9_method_7_code 11 = .ok (.getfield 29, 3) := by decide +kernel
theorem d_Model_mayDrive_14 : decode prog_9_method_7_code 14 = .ok (.iload_n 3, 1) := by decide +kernel
theorem d_Model_mayDrive_15 : decode prog_9_method_7_code 15 = .ok (.iaload, 1) := by decide +kernel
theorem d_Model_mayDrive_16 : decode prog_9_method_7_code 16 = .ok (.iload_n 2, 1) := by decide +kernel
theorem d_Model_mayDrive_17 : decode prog_9_method_7_code 17 = .ok (.if_icmp .ne 22, 3) := by decide +kernel
theorem d_Model_mayDrive_20 : decode prog_9_method_7_code 20 = .ok (.iload_n 1, 1) := by decide +kernel
theorem d_Model_mayDrive_21 : decode prog_9_method_7_code 21 = .ok (.bipush 6, 2) := by decide +kernel
theorem d_Model_mayDrive_23 : decode prog_9_method_7_code 23 = .ok (.if_icmp .ne 14, 3) := by decide +kernel
theorem d_Model_mayDrive_26 : decode prog_9_method_7_code 26 = .ok (.aload_n 0, 1) := by decide +kernel
theorem d_Model_mayDrive_27 : decode prog_9_method_7_code 27 = .ok (.getfield 26, 3) := by decide +kernel
theorem d_Model_mayDrive_30 : decode prog_9_method_7_code 30 = .ok (.iload_n 3, 1) := by decide +kernel
theorem d_Model_mayDrive_31 : decode prog_9_method_7_code 31 = .ok (.iaload, 1) := by decide +kernel
theorem d_Model_mayDrive_32 : decode prog_9_method_7_code 32 = .ok (.bipush 6, 2) := by decide +kernel
theorem d_Model_mayDrive_34 : decode prog_9_method_7_code 34 = .ok (.if_icmp .eq 5, 3) := by decide +kernel
theorem d_Model_mayDrive_37 : decode prog_9_method_7_code 37 = .ok (.iconst 0, 1) := by decide +kernel
theorem d_Model_mayDrive_38 : decode prog_9_method_7_code 38 = .ok (.ireturn, 1) := by decide +kernel
theorem d_Model_mayDrive_39 : decode prog_9_method_7_code 39 = .ok (.iinc 3 1, 3) := by decide +kernel
theorem d_Model_mayDrive_42 : decode prog_9_method_7_code 42 = .ok (.goto (-40), 3) := by decide +kernel
theorem d_Model_mayDrive_45 : decode prog_9_method_7_code 45 = .ok (.iconst 1, 1) := by decide +kernel
theorem d_Model_mayDrive_46 : decode prog_9_method_7_code 46 = .ok (.ireturn, 1) := by decide +kernel
theorem d_Model_add_0 : decode prog_9_method_8_code 0 = .ok (.aload_n 0, 1) := by decide +kernel
theorem d_Model_add_1 : decode prog_9_method_8_code 1 = .ok (.getfield 26, 3) := by decide +kernel
theorem d_Model_add_4 : decode prog_9_method_8_code 4 = .ok (.aload_n 0, 1) := by decide +kernel
theorem d_Model_add_5 : decode prog_9_method_8_code 5 = .ok (.getfield 86, 3) := by decide +kernel
theorem d_Model_add_8 : decode prog_9_method_8_code 8 = .ok (.iload_n 1, 1) := by decide +kernel
theorem d_Model_add_9 : decode prog_9_method_8_code 9 = .ok (.iastore, 1) := by decide +kernel
theorem d_Model_add_10 : decode prog_9_method_8_code 10 = .ok (.aload_n 0, 1) := by decide +kernel
theorem d_Model_add_11 : decode prog_9_method_8_code 11 = .ok (.getfield 29, 3) := by decide +kernel
theorem d_Model_add_14 : decode prog_9_method_8_code 14 = .ok (.aload_n 0, 1) := by decide +kernel
theorem d_Model_add_15 : decode prog_9_method_8_code 15 = .ok (.getfield 86, 3) := by decide +kernel
theorem d_Model_add_18 : decode prog_9_method_8_code 18 = .ok (.iload_n 2, 1) := by decide +kernel
theorem d_Model_add_19 : decode prog_9_method_8_code 19 = .ok (.iastore, 1) := by decide +kernel
theorem d_Model_add_20 : decode prog_9_method_8_code 20 = .ok (.aload_n 0, 1) := by decide +kernel
theorem d_Model_add_21 : decode prog_9_method_8_code 21 = .ok (.getfield 32, 3) := by decide +kernel
theorem d_Model_add_24 : decode prog_9_method_8_code 24 = .ok (.aload_n 0, 1) := by decide +kernel
theorem d_Model_add_25 : decode prog_9_method_8_code 25 = .ok (.getfield 86, 3) := by decide +kernel
theorem d_Model_add_28 : decode prog_9_method_8_code 28 = .ok (.iload_n 3, 1) := by decide +kernel
theorem d_Model_add_29 : decode prog_9_method_8_code 29 = .ok (.iastore, 1) := by decide +kernel
theorem d_Model_add_30 : decode prog_9_method_8_code 30 = .ok (.aload_n 0, 1) := by decide +kernel
theorem d_Model_add_31 : decode prog_9_method_8_code 31 = .ok (.getfield 35, 3) := by decide +kernel
theorem d_Model_add_34 : decode prog_9_method_8_code 34 = .ok (.aload_n 0, 1) := by decide +kernel
theorem d_Model_add_35 : decode prog_9_method_8_code 35 = .ok (.getfield 86, 3) := by decide +kernel
theorem d_Model_add_38 : decode prog_9_method_8_code 38 = .ok (.iload 4, 2) := by decide +kernel
theorem d_Model_add_40 : decode prog_9_method_8_code 40 = .ok (.iastore, 1) := by decide +kernel
theorem d_Model_add_41 : decode prog_9_method_8_code 41 = .ok (.aload_n 0, 1) := by decide +kernel
theorem d_Model_add_42 : decode prog_9_method_8_code 42 = .ok (.getfield 38, 3) := by decide +kernel
theorem d_Model_add_45 : decode prog_9_method_8_code 45 = .ok (.aload_n 0, 1) := by decide +kernel
theorem d_Model_add_46 : decode prog_9_method_8_code 46 = .ok (.getfield 86, 3) := by decide +kernel
theorem d_Model_add_49 : decode prog_9_method_8_code 49 = .ok (.iload 5, 2) := by decide +kernel
theorem d_Model_add_51 : decode prog_9_method_8_code 51 = .ok (.iastore, 1) := by decide +kernel
theorem d_Model_add_52 : decode prog_9_method_8_code 52 = .ok (.aload_n 0, 1) := by decide +kernel
theorem d_Model_add_53 : decode prog_9_method_8_code 53 = .ok (.getfield 41, 3) := by decide +kernel
theorem d_Model_add_56 : decode prog_9_method_8_code 56 = .ok (.aload_n 0, 1) := by decide +kernel
theorem d_Model_add_57 : decode prog_9_method_8_code 57 = .ok (.getfield 86, 3) := by decide +kernel
theorem d_Model_add_60 : decode prog_9_method_8_code 60 = .ok (.iload_n 1, 1) := by decide +kernel
theorem d_Model_add_61 : decode prog_9_method_8_code 61 = .ok (.bipush 8, 2) := by decide +kernel
theorem d_Model_add_63 : decode prog_9_method_8_code 63 = .ok (.if_icmp .ne 8, 3) := by decide +kernel
theorem d_Model_add_66 : decode prog_9_method_8_code 66 = .ok (.iload 5, 2) := by decide +kernel
theorem d_Model_add_68 : decode prog_9_method_8_code 68 = .ok (.goto 4, 3) := by decide +kernel
theorem d_Model_add_71 : decode prog_9_method_8_code 71 = .ok (.iconst 2, 1) := by decide +kernel
theorem d_Model_add_72 : decode prog_9_method_8_code 72 = .ok (.iastore, 1) := by decide +kernel
theorem d_Model_add_73 : decode prog_9_method_8_code 73 = .ok (.aload_n 0, 1) := by decide +kernel
theorem d_Model_add_74 : decode prog_9_method_8_code 74 = .ok (.dup, 1) := by decide +kernel
theorem d_Model_add_75 : decode prog_9_method_8_code 75 = .ok (.getfield 86, 3) := by decide +kernel
theorem d_Model_add_78 : decode prog_9_method_8_code 78 = .ok (.iconst 1, 1) := by decide +kernel
theorem d_Model_add_79 : decode prog_9_method_8_code 79 = .ok (.iadd, 1) := by decide +kernel
theorem d_Model_add_80 : decode prog_9_method_8_code 80 = .ok (.putfield 86, 3) := by decide +kernel
theorem d_Model_add_83 : decode prog_9_method_8_code 83 = .ok (.aload_n 0, 1) := by decide +kernel
theorem d_Model_add_84 : decode prog_9_method_8_code 84 = .ok (.iconst 0, 1) := by decide +kernel
theorem d_Model_add_85 : decode prog_9_method_8_code 85 = .ok (.putfield 89, 3) := by decide +kernel
theorem d_Model_add_88 : decode prog_9_method_8_code 88 = .ok (.return_, 1) := by decide +kernel
theorem d_Model_cell_0 : decode prog_9_method_9_code 0 = .ok (.aload_n 0, 1) := by decide +kernel
theorem d_Model_cell_1 : decode prog_9_method_9_code 1 = .ok (.iconst 0, 1) := by decide +kernel
theorem d_Model_cell_2 : decode prog_9_method_9_code 2 = .ok (.putfield 75, 3) := by decide +kernel
theorem d_Model_cell_5 : decode prog_9_method_9_code 5 = .ok (.iload_n 1, 1) := by decide +kernel
theorem d_Model_cell_6 : decode prog_9_method_9_code 6 = .ok (.iconst 0, 1) := by decide +kernel
theorem d_Model_cell_7 : decode prog_9_method_9_code 7 = .ok (.bipush 8, 2) := by decide +kernel
theorem d_Model_cell_9 : decode prog_9_method_9_code 9 = .ok (.invokestatic 82, 3) := by decide +kernel
theorem d_Model_cell_12 : decode prog_9_method_9_code 12 = .ok (.ifCond .eq 33, 3) := by decide +kernel
theorem d_Model_cell_15 : decode prog_9_method_9_code 15 = .ok (.iload_n 2, 1) := by decide +kernel
theorem d_Model_cell_16 : decode prog_9_method_9_code 16 = .ok (.iconst 0, 1) := by decide +kernel
theorem d_Model_cell_17 : decode prog_9_method_9_code 17 = .ok (.aload_n 0, 1) := by decide +kernel
theorem d_Model_cell_18 : decode prog_9_method_9_code 18 = .ok (.getfield 7, 3) := by decide +kernel
theorem d_Model_cell_21 : decode prog_9_method_9_code 21 = .ok (.iconst 1, 1) := by decide +kernel
theorem d_Model_cell_22 : decode prog_9_method_9_code 22 = .ok (.isub, 1) := by decide +kernel
theorem d_Model_cell_23 : decode prog_9_method_9_code 23 = .ok (.invokestatic 82, 3) := by decide +kernel
theorem d_Model_cell_26 : decode prog_9_method_9_code 26 = .ok (.ifCond .eq 19, 3) := by decide +kernel
theorem d_Model_cell_29 : decode prog_9_method_9_code 29 = .ok (.iload_n 1, 1) := by decide +kernel
theorem d_Model_cell_30 : decode prog_9_method_9_code 30 = .ok (.iload_n 3, 1) := by decide +kernel
theorem d_Model_cell_31 : decode prog_9_method_9_code 31 = .ok (.iload 4, 2) := by decide +kernel
theorem d_Model_cell_33 : decode prog_9_method_9_code 33 = .ok (.iload 5, 2) := by decide +kernel
theorem d_Model_cell_35 : decode prog_9_method_9_code 35 = .ok (.aload_n 0, 1) := by decide +kernel
theorem d_Model_cell_36 : decode prog_9_method_9_code 36 = .ok (.getfield 7, 3) := by decide +kernel
theorem d_Model_cell_39 : decode prog_9_method_9_code 39 = .ok (.invokestatic 93, 3) := by decide +kernel
theorem d_Model_cell_42 : decode prog_9_method_9_code 42 = .ok (.ifCond .ne 9, 3) := by decide +kernel
theorem d_Model_cell_45 : decode prog_9_method_9_code 45 = .ok (.aload_n 0, 1) := by decide +kernel
theorem d_Model_cell_46 : decode prog_9_method_9_code 46 = .ok (.iconst 1, 1) := by decide +kernel
theorem d_Model_cell_47 : decode prog_9_method_9_code 47 = .ok (.invokevirtual 97, 3) := by decide +kernel
theorem d_Model_cell_50 : decode prog_9_method_9_code 50 = .ok (.ireturn, 1) := by decide +kernel
theorem d_Model_cell_51 : decode prog_9_method_9_code 51 = .ok (.aload_n 0, 1) := by decide +kernel
theorem d_Model_cell_52 : decode prog_9_method_9_code 52 = .ok (.iload_n 1, 1) := by decide +kernel
theorem d_Model_cell_53 : decode prog_9_method_9_code 53 = .ok (.iload_n 2, 1) := by decide +kernel
theorem d_Model_cell_54 : decode prog_9_method_9_code 54 = .ok (.invokevirtual 100, 3) := by decide +kernel
theorem d_Model_cell_57 : decode prog_9_method_9_code 57 = .ok (.ifCond .ne 9, 3) := by decide +kernel
theorem d_Model_cell_60 : decode prog_9_method_9_code 60 = .ok (.aload_n 0, 1) := by decide +kernel
theorem d_Model_cell_61 : decode prog_9_method_9_code 61 = .ok (.iconst 2, 1) := by decide +kernel
theorem d_Model_cell_62 : decode prog_9_method_9_code 62 = .ok (.invokevirtual 97, 3) := by decide +kernel
theorem d_Model_cell_65 : decode prog_9_method_9_code 65 = .ok (.ireturn, 1) := by decide +kernel
theorem d_Model_cell_66 : decode prog_9_method_9_code 66 = .ok (.aload_n 0, 1) := by decide +kernel
theorem d_Model_cell_67 : decode prog_9_method_9_code 67 = .ok (.getfield 86, 3) := by decide +kernel
theorem d_Model_cell_70 : decode prog_9_method_9_code 70 = .ok (.bipush 60, 2) := by decide +kernel
theorem d_Model_cell_72 : decode prog_9_method_9_code 72 = .ok (.if_icmp .ne 9, 3) := by decide +kernel
theorem d_Model_cell_75 : decode prog_9_method_9_code 75 = .ok (.aload_n 0, 1) := by decide +kernel
theorem d_Model_cell_76 : decode prog_9_method_9_code 76 = .ok (.iconst 3, 1) := by decide +kernel
theorem d_Model_cell_77 : decode prog_9_method_9_code 77 = .ok (.invokevirtual 97, 3) := by decide +kernel
theorem d_Model_cell_80 : decode prog_9_method_9_code 80 = .ok (.ireturn, 1) := by decide +kernel
theorem d_Model_cell_81 : decode prog_9_method_9_code 81 = .ok (.aload_n 0, 1) := by decide +kernel
theorem d_Model_cell_82 : decode prog_9_method_9_code 82 = .ok (.iload_n 1, 1) := by decide +kernel
theorem d_Model_cell_83 : decode prog_9_method_9_code 83 = .ok (.iload_n 2, 1) := by decide +kernel
theorem d_Model_cell_84 : decode prog_9_method_9_code 84 = .ok (.iload_n 3, 1) := by decide +kernel
theorem d_Model_cell_85 : decode prog_9_method_9_code 85 = .ok (.iload 4, 2) := by decide +kernel
theorem d_Model_cell_87 : decode prog_9_method_9_code 87 = .ok (.iload 5, 2) := by decide +kernel
theorem d_Model_cell_89 : decode prog_9_method_9_code 89 = .ok (.invokevirtual 104, 3) := by decide +kernel
theorem d_Model_cell_92 : decode prog_9_method_9_code 92 = .ok (.aload_n 0, 1) := by decide +kernel
theorem d_Model_cell_93 : decode prog_9_method_9_code 93 = .ok (.getfield 86, 3) := by decide +kernel
theorem d_Model_cell_96 : decode prog_9_method_9_code 96 = .ok (.iconst 1, 1) := by decide +kernel
theorem d_Model_cell_97 : decode prog_9_method_9_code 97 = .ok (.isub, 1) := by decide +kernel
theorem d_Model_cell_98 : decode prog_9_method_9_code 98 = .ok (.ireturn, 1) := by decide +kernel
theorem d_Model_part_0 : decode prog_9_method_10_code 0 = .ok (.aload_n 0, 1) := by decide +kernel
theorem d_Model_part_1 : decode prog_9_method_10_code 1 = .ok (.iconst 0, 1) := by decide +kernel
theorem d_Model_part_2 : decode prog_9_method_10_code 2 = .ok (.putfield 75, 3) := by decide +kernel
theorem d_Model_part_5 : decode prog_9_method_10_code 5 = .ok (.iload_n 1, 1) := by decide +kernel
theorem d_Model_part_6 : decode prog_9_method_10_code 6 = .ok (.iconst 0, 1) := by decide +kernel
theorem d_Model_part_7 : decode prog_9_method_10_code 7 = .ok (.iconst 1, 1) := by decide +kernel
theorem d_Model_part_8 : decode prog_9_method_10_code 8 = .ok (.invokestatic 82, 3) := by decide +kernel
theorem d_Model_part_11 : decode prog_9_method_10_code 11 = .ok (.ifCond .eq 38, 3) := by decide +kernel
theorem d_Model_part_14 : decode prog_9_method_10_code 14 = .ok (.iload_n 2, 1) := by decide +kernel
theorem d_Model_part_15 : decode prog_9_method_10_code 15 = .ok (.iconst 1, 1) := by decide +kernel
theorem d_Model_part_16 : decode prog_9_method_10_code 16 = .ok (.bipush 8, 2) := by decide +kernel
theorem d_Model_part_18 : decode prog_9_method_10_code 18 = .ok (.invokestatic 82, 3) := by decide +kernel
theorem d_Model_part_21 : decode prog_9_method_10_code 21 = .ok (.ifCond .eq 28, 3) := by decide +kernel
theorem d_Model_part_24 : decode prog_9_method_10_code 24 = .ok (.iload_n 3, 1) := by decide +kernel
theorem d_Model_part_25 : decode prog_9_method_10_code 25 = .ok (.iconst 0, 1) := by decide +kernel
theorem d_Model_part_26 : decode prog_9_method_10_code 26 = .ok (.bipush 9, 2) := by decide +kernel
theorem d_Model_part_28 : decode prog_9_method_10_code 28 = .ok (.invokestatic 82, 3) := by decide +kernel
theorem d_Model_part_31 : decode prog_9_method_10_code 31 = .ok (.ifCond .eq 18, 3) := by decide +kernel
theorem d_Model_part_34 : decode prog_9_method_10_code 34 = .ok (.iload_n 2, 1) := by decide +kernel
theorem d_Model_part_35 : decode prog_9_method_10_code 35 = .ok (.iload 4, 2) := by decide +kernel
theorem d_Model_part_37 : decode prog_9_method_10_code 37 = .ok (.iload 5, 2) := by decide +kernel
theorem d_Model_part_39 : decode prog_9_method_10_code 39 = .ok (.iload 6, 2) := by decide +kernel
theorem d_Model_part_41 : decode prog_9_method_10_code 41 = .ok (.bipush 10, 2) := by decide +kernel
theorem d_Model_part_43 : decode prog_9_method_10_code 43 = .ok (.invokestatic 93, 3) := by decide +kernel
theorem d_Model_part_46 : decode prog_9_method_10_code 46 = .ok (.ifCond .ne 9, 3) := by decide +kernel
theorem d_Model_part_49 : decode prog_9_method_10_code 49 = .ok (.aload_n 0, 1) := by decide +kernel
theorem d_Model_part_50 : decode prog_9_method_10_code 50 = .ok (.iconst 1, 1) := by decide +kernel
theorem d_Model_part_51 : decode prog_9_method_10_code 51 = .ok (.invokevirtual 97, 3) := by decide +kernel
theorem d_Model_part_54 : decode prog_9_method_10_code 54 = .ok (.ireturn, 1) := by decide +kernel
theorem d_Model_part_55 : decode prog_9_method_10_code 55 = .ok (.aload_n 0, 1) := by decide +kernel
theorem d_Model_part_56 : decode prog_9_method_10_code 56 = .ok (.getfield 62, 3) := by decide +kernel
theorem d_Model_part_59 : decode prog_9_method_10_code 59 = .ok (.iload_n 1, 1) := by decide +kernel
theorem d_Model_part_60 : decode prog_9_method_10_code 60 = .ok (.iaload, 1) := by decide +kernel
theorem d_Model_part_61 : decode prog_9_method_10_code 61 = .ok (.bipush 10, 2) := by decide +kernel
theorem d_Model_part_63 : decode prog_9_method_10_code 63 = .ok (.if_icmp .ne 9, 3) := by decide +kernel
theorem d_Model_part_66 : decode prog_9_method_10_code 66 = .ok (.aload_n 0, 1) := by decide +kernel
theorem d_Model_part_67 : decode prog_9_method_10_code 67 = .ok (.iconst 2, 1) := by decide +kernel
theorem d_Model_part_68 : decode prog_9_method_10_code 68 = .ok (.invokevirtual 97, 3) := by decide +kernel
theorem d_Model_part_71 : decode prog_9_method_10_code 71 = .ok (.ireturn, 1) := by decide +kernel
theorem d_Model_part_72 : decode prog_9_method_10_code 72 = .ok (.bipush 10, 2) := by decide +kernel
theorem d_Model_part_74 : decode prog_9_method_10_code 74 = .ok (.iload_n 1, 1) := by decide +kernel
theorem d_Model_part_75 : decode prog_9_method_10_code 75 = .ok (.imul, 1) := by decide +kernel
theorem d_Model_part_76 : decode prog_9_method_10_code 76 = .ok (.aload_n 0, 1) := by decide +kernel
theorem d_Model_part_77 : decode prog_9_method_10_code 77 = .ok (.getfield 62, 3) := by decide +kernel
theorem d_Model_part_80 : decode prog_9_method_10_code 80 = .ok (.iload_n 1, 1) := by decide +kernel
theorem d_Model_part_81 : decode prog_9_method_10_code 81 = .ok (.iaload, 1) := by decide +kernel
theorem d_Model_part_82 : decode prog_9_method_10_code 82 = .ok (.iadd, 1) := by decide +kernel
theorem d_Model_part_83 : decode prog_9_method_10_code 83 = .ok (.istore 7, 2) := by decide +kernel
theorem d_Model_part_85 : decode prog_9_method_10_code 85 = .ok (.aload_n 0, 1) := by decide +kernel
theorem d_Model_part_86 : decode prog_9_method_10_code 86 = .ok (.getfield 47, 3) := by decide +kernel
theorem d_Model_part_89 : decode prog_9_method_10_code 89 = .ok (.iload 7, 2) := by decide +kernel
theorem d_Model_part_91 : decode prog_9_method_10_code 91 = .ok (.iload_n 2, 1) := by decide +kernel
theorem d_Model_part_92 : decode prog_9_method_10_code 92 = .ok (.iastore, 1) := by decide +kernel
theorem d_Model_part_93 : decode prog_9_method_10_code 93 = .ok (.aload_n 0, 1) := by decide +kernel
theorem d_Model_part_94 : decode prog_9_method_10_code 94 = .ok (.getfield 50, 3) := by decide +kernel
theorem d_Model_part_97 : decode prog_9_method_10_code 97 = .ok (.iload 7, 2) := by decide +kernel
theorem d_Model_part_99 : decode prog_9_method_10_code 99 = .ok (.iload_n 3, 1) := by decide +kernel
theorem d_Model_part_100 : decode prog_9_method_10_code 100 = .ok (.iastore, 1) := by decide +kernel
theorem d_Model_part_101 : decode prog_9_method_10_code 101 = .ok (.aload_n 0, 1) := by decide +kernel
theorem d_Model_part_102 : decode prog_9_method_10_code 102 = .ok (.getfield 53, 3) := by decide +kernel
theorem d_Model_part_105 : decode prog_9_method_10_code 105 = .ok (.iload 7, 2) := by decide +kernel
theorem d_Model_part_107 : decode prog_9_method_10_code 107 = .ok (.iload 4, 2) := by decide +kernel
theorem d_Model_part_109 : decode prog_9_method_10_code 109 = .ok (.iastore, 1) := by decide +kernel
theorem d_Model_part_110 : decode prog_9_method_10_code 110 = .ok (.aload_n 0, 1) := by decide +kernel
theorem d_Model_part_111 : decode prog_9_method_10_code 111 = .ok (.getfield 56, 3) := by decide +kernel
theorem d_Model_part_114 : decode prog_9_method_10_code 114 = .ok (.iload 7, 2) := by decide +kernel
theorem d_Model_part_116 : decode prog_9_method_10_code 116 = .ok (.iload 5, 2) := by decide +kernel
theorem d_Model_part_118 : decode prog_9_method_10_code 118 = .ok (.iastore, 1) := by decide +kernel
theorem d_Model_part_119 : decode prog_9_method_10_code 119 = .ok (.aload_n 0, 1) := by decide +kernel
theorem d_Model_part_120 : decode prog_9_method_10_code 120 = .ok (.getfield 59, 3) := by decide +kernel
theorem d_Model_part_123 : decode prog_9_method_10_code 123 = .ok (.iload 7, 2) := by decide +kernel
theorem d_Model_part_125 : decode prog_9_method_10_code 125 = .ok (.iload 6, 2) := by decide +kernel
theorem d_Model_part_127 : decode prog_9_method_10_code 127 = .ok (.iastore, 1) := by decide +kernel
theorem d_Model_part_128 : decode prog_9_method_10_code 128 = .ok (.aload_n 0, 1) := by decide +kernel
