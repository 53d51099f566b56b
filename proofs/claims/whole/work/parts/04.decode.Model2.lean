theorem d_Model_close_16 : decode prog_9_method_18_code 16 = .ok (.getfield 72, 3) := by decide +kernel
theorem d_Model_close_19 : decode prog_9_method_18_code 19 = .ok (.iload_n 1, 1) := by decide +kernel
theorem d_Model_close_20 : decode prog_9_method_18_code 20 = .ok (.lconst 0, 1) := by decide +kernel
theorem d_Model_close_21 : decode prog_9_method_18_code 21 = .ok (.lastore, 1) := by decide +kernel
theorem d_Model_close_22 : decode prog_9_method_18_code 22 = .ok (.iinc 1 1, 3) := by decide +kernel
theorem d_Model_close_25 : decode prog_9_method_18_code 25 = .ok (.goto (-23), 3) := by decide +kernel
theorem d_Model_close_28 : decode prog_9_method_18_code 28 = .ok (.iconst 0, 1) := by decide +kernel
theorem d_Model_close_29 : decode prog_9_method_18_code 29 = .ok (.istore_n 1, 1) := by decide +kernel
theorem d_Model_close_30 : decode prog_9_method_18_code 30 = .ok (.iload_n 1, 1) := by decide +kernel
theorem d_Model_close_31 : decode prog_9_method_18_code 31 = .ok (.aload_n 0, 1) := by decide +kernel
theorem d_Model_close_32 : decode prog_9_method_18_code 32 = .ok (.getfield 86, 3) := by decide +kernel
theorem d_Model_close_35 : decode prog_9_method_18_code 35 = .ok (.if_icmp .ge 93, 3) := by decide +kernel
theorem d_Model_close_38 : decode prog_9_method_18_code 38 = .ok (.aload_n 0, 1) := by decide +kernel
theorem d_Model_close_39 : decode prog_9_method_18_code 39 = .ok (.iload_n 1, 1) := by decide +kernel
theorem d_Model_close_40 : decode prog_9_method_18_code 40 = .ok (.invokevirtual 119, 3) := by decide +kernel
theorem d_Model_close_43 : decode prog_9_method_18_code 43 = .ok (.ifCond .eq 15, 3) := by decide +kernel
theorem d_Model_close_46 : decode prog_9_method_18_code 46 = .ok (.aload_n 0, 1) := by decide +kernel
theorem d_Model_close_47 : decode prog_9_method_18_code 47 = .ok (.getfield 26, 3) := by decide +kernel
theorem d_Model_close_50 : decode prog_9_method_18_code 50 = .ok (.iload_n 1, 1) := by decide +kernel
theorem d_Model_close_51 : decode prog_9_method_18_code 51 = .ok (.iaload, 1) := by decide +kernel
theorem d_Model_close_52 : decode prog_9_method_18_code 52 = .ok (.invokestatic 78, 3) := by decide +kernel
theorem d_Model_close_55 : decode prog_9_method_18_code 55 = .ok (.goto 4, 3) := by decide +kernel
theorem d_Model_close_58 : decode prog_9_method_18_code 58 = .ok (.iconst 0, 1) := by decide +kernel
theorem d_Model_close_59 : decode prog_9_method_18_code 59 = .ok (.istore_n 2, 1) := by decide +kernel
theorem d_Model_close_60 : decode prog_9_method_18_code 60 = .ok (.iload_n 2, 1) := by decide +kernel
theorem d_Model_close_61 : decode prog_9_method_18_code 61 = .ok (.ifCond .le 19, 3) := by decide +kernel
theorem d_Model_close_64 : decode prog_9_method_18_code 64 = .ok (.aload_n 0, 1) := by decide +kernel
theorem d_Model_close_65 : decode prog_9_method_18_code 65 = .ok (.aload_n 0, 1) := by decide +kernel
theorem d_Model_close_66 : decode prog_9_method_18_code 66 = .ok (.getfield 29, 3) := by decide +kernel
theorem d_Model_close_69 : decode prog_9_method_18_code 69 = .ok (.iload_n 1, 1) := by decide +kernel
theorem d_Model_close_70 : decode prog_9_method_18_code 70 = .ok (.iaload, 1) := by decide +kernel
theorem d_Model_close_71 : decode prog_9_method_18_code 71 = .ok (.aload_n 0, 1) := by decide +kernel
theorem d_Model_close_72 : decode prog_9_method_18_code 72 = .ok (.getfield 32, 3) := by decide +kernel
theorem d_Model_close_75 : decode prog_9_method_18_code 75 = .ok (.iload_n 1, 1) := by decide +kernel
theorem d_Model_close_76 : decode prog_9_method_18_code 76 = .ok (.iaload, 1) := by decide +kernel
theorem d_Model_close_77 : decode prog_9_method_18_code 77 = .ok (.invokevirtual 122, 3) := by decide +kernel
theorem d_Model_close_80 : decode prog_9_method_18_code 80 = .ok (.iload_n 2, 1) := by decide +kernel
theorem d_Model_close_81 : decode prog_9_method_18_code 81 = .ok (.iconst 1, 1) := by decide +kernel
theorem d_Model_close_82 : decode prog_9_method_18_code 82 = .ok (.if_icmp .le 19, 3) := by decide +kernel
theorem d_Model_close_85 : decode prog_9_method_18_code 85 = .ok (.aload_n 0, 1) := by decide +kernel
theorem d_Model_close_86 : decode prog_9_method_18_code 86 = .ok (.aload_n 0, 1) := by decide +kernel
theorem d_Model_close_87 : decode prog_9_method_18_code 87 = .ok (.getfield 29, 3) := by decide +kernel
theorem d_Model_close_90 : decode prog_9_method_18_code 90 = .ok (.iload_n 1, 1) := by decide +kernel
theorem d_Model_close_91 : decode prog_9_method_18_code 91 = .ok (.iaload, 1) := by decide +kernel
theorem d_Model_close_92 : decode prog_9_method_18_code 92 = .ok (.aload_n 0, 1) := by decide +kernel
theorem d_Model_close_93 : decode prog_9_method_18_code 93 = .ok (.getfield 35, 3) := by decide +kernel
theorem d_Model_close_96 : decode prog_9_method_18_code 96 = .ok (.iload_n 1, 1) := by decide +kernel
theorem d_Model_close_97 : decode prog_9_method_18_code 97 = .ok (.iaload, 1) := by decide +kernel
theorem d_Model_close_98 : decode prog_9_method_18_code 98 = .ok (.invokevirtual 122, 3) := by decide +kernel
theorem d_Model_close_101 : decode prog_9_method_18_code 101 = .ok (.iload_n 2, 1) := by decide +kernel
theorem d_Model_close_102 : decode prog_9_method_18_code 102 = .ok (.iconst 2, 1) := by decide +kernel
theorem d_Model_close_103 : decode prog_9_method_18_code 103 = .ok (.if_icmp .le 19, 3) := by decide +kernel
theorem d_Model_close_106 : decode prog_9_method_18_code 106 = .ok (.aload_n 0, 1) := by decide +kernel
theorem d_Model_close_107 : decode prog_9_method_18_code 107 = .ok (.aload_n 0, 1) := by decide +kernel
theorem d_Model_close_108 : decode prog_9_method_18_code 108 = .ok (.getfield 29, 3) := by decide +kernel
theorem d_Model_close_111 : decode prog_9_method_18_code 111 = .ok (.iload_n 1, 1) := by decide +kernel
theorem d_Model_close_112 : decode prog_9_method_18_code 112 = .ok (.iaload, 1) := by decide +kernel
theorem d_Model_close_113 : decode prog_9_method_18_code 113 = .ok (.aload_n 0, 1) := by decide +kernel
theorem d_Model_close_114 : decode prog_9_method_18_code 114 = .ok (.getfield 38, 3) := by decide +kernel
theorem d_Model_close_117 : decode prog_9_method_18_code 117 = .ok (.iload_n 1, 1) := by decide +kernel
theorem d_Model_close_118 : decode prog_9_method_18_code 118 = .ok (.iaload, 1) := by decide +kernel
theorem d_Model_close_119 : decode prog_9_method_18_code 119 = .ok (.invokevirtual 122, 3) := by decide +kernel
theorem d_Model_close_122 : decode prog_9_method_18_code 122 = .ok (.iinc 1 1, 3) := by decide +kernel
theorem d_Model_close_125 : decode prog_9_method_18_code 125 = .ok (.goto (-95), 3) := by decide +kernel
theorem d_Model_close_128 : decode prog_9_method_18_code 128 = .ok (.iconst 0, 1) := by decide +kernel
theorem d_Model_close_129 : decode prog_9_method_18_code 129 = .ok (.istore_n 1, 1) := by decide +kernel
theorem d_Model_close_130 : decode prog_9_method_18_code 130 = .ok (.iload_n 1, 1) := by decide +kernel
theorem d_Model_close_131 : decode prog_9_method_18_code 131 = .ok (.aload_n 0, 1) := by decide +kernel
theorem d_Model_close_132 : decode prog_9_method_18_code 132 = .ok (.getfield 7, 3) := by decide +kernel
theorem d_Model_close_135 : decode prog_9_method_18_code 135 = .ok (.if_icmp .ge 67, 3) := by decide +kernel
theorem d_Model_close_138 : decode prog_9_method_18_code 138 = .ok (.iconst 0, 1) := by decide +kernel
theorem d_Model_close_139 : decode prog_9_method_18_code 139 = .ok (.istore_n 2, 1) := by decide +kernel
theorem d_Model_close_140 : decode prog_9_method_18_code 140 = .ok (.iload_n 2, 1) := by decide +kernel
theorem d_Model_close_141 : decode prog_9_method_18_code 141 = .ok (.aload_n 0, 1) := by decide +kernel
theorem d_Model_close_142 : decode prog_9_method_18_code 142 = .ok (.getfield 7, 3) := by decide +kernel
theorem d_Model_close_145 : decode prog_9_method_18_code 145 = .ok (.if_icmp .ge 51, 3) := by decide +kernel
theorem d_Model_close_148 : decode prog_9_method_18_code 148 = .ok (.aload_n 0, 1) := by decide +kernel
theorem d_Model_close_149 : decode prog_9_method_18_code 149 = .ok (.iload_n 2, 1) := by decide +kernel
theorem d_Model_close_150 : decode prog_9_method_18_code 150 = .ok (.iload_n 1, 1) := by decide +kernel
theorem d_Model_close_151 : decode prog_9_method_18_code 151 = .ok (.invokevirtual 126, 3) := by decide +kernel
theorem d_Model_close_154 : decode prog_9_method_18_code 154 = .ok (.ifCond .ne 6, 3) := by decide +kernel
theorem d_Model_close_157 : decode prog_9_method_18_code 157 = .ok (.goto 33, 3) := by decide +kernel
theorem d_Model_close_160 : decode prog_9_method_18_code 160 = .ok (.aload_n 0, 1) := by decide +kernel
theorem d_Model_close_161 : decode prog_9_method_18_code 161 = .ok (.getfield 68, 3) := by decide +kernel
theorem d_Model_close_164 : decode prog_9_method_18_code 164 = .ok (.iload_n 2, 1) := by decide +kernel
theorem d_Model_close_165 : decode prog_9_method_18_code 165 = .ok (.dup2, 1) := by decide +kernel
theorem d_Model_close_166 : decode prog_9_method_18_code 166 = .ok (.laload, 1) := by decide +kernel
theorem d_Model_close_167 : decode prog_9_method_18_code 167 = .ok (.aload_n 0, 1) := by decide +kernel
theorem d_Model_close_168 : decode prog_9_method_18_code 168 = .ok (.getfield 68, 3) := by decide +kernel
theorem d_Model_close_171 : decode prog_9_method_18_code 171 = .ok (.iload_n 1, 1) := by decide +kernel
theorem d_Model_close_172 : decode prog_9_method_18_code 172 = .ok (.laload, 1) := by decide +kernel
theorem d_Model_close_173 : decode prog_9_method_18_code 173 = .ok (.lor, 1) := by decide +kernel
theorem d_Model_close_174 : decode prog_9_method_18_code 174 = .ok (.lastore, 1) := by decide +kernel
theorem d_Model_close_175 : decode prog_9_method_18_code 175 = .ok (.aload_n 0, 1) := by decide +kernel
theorem d_Model_close_176 : decode prog_9_method_18_code 176 = .ok (.getfield 72, 3) := by decide +kernel
theorem d_Model_close_179 : decode prog_9_method_18_code 179 = .ok (.iload_n 2, 1) := by decide +kernel
theorem d_Model_close_180 : decode prog_9_method_18_code 180 = .ok (.dup2, 1) := by decide +kernel
theorem d_Model_close_181 : decode prog_9_method_18_code 181 = .ok (.laload, 1) := by decide +kernel
theorem d_Model_close_182 : decode prog_9_method_18_code 182 = .ok (.aload_n 0, 1) := by decide +kernel
theorem d_Model_close_183 : decode prog_9_method_18_code 183 = .ok (.getfield 72, 3) := by decide +kernel
theorem d_Model_close_186 : decode prog_9_method_18_code 186 = .ok (.iload_n 1, 1) := by decide +kernel
theorem d_Model_close_187 : decode prog_9_method_18_code 187 = .ok (.laload, 1) := by decide +kernel
theorem d_Model_close_188 : decode prog_9_method_18_code 188 = .ok (.lor, 1) := by decide +kernel
theorem d_Model_close_189 : decode prog_9_method_18_code 189 = .ok (.lastore, 1) := by decide +kernel
theorem d_Model_close_190 : decode prog_9_method_18_code 190 = .ok (.iinc 2 1, 3) := by decide +kernel
theorem d_Model_close_193 : decode prog_9_method_18_code 193 = .ok (.goto (-53), 3) := by decide +kernel
theorem d_Model_close_196 : decode prog_9_method_18_code 196 = .ok (.iinc 1 1, 3) := by decide +kernel
theorem d_Model_close_199 : decode prog_9_method_18_code 199 = .ok (.goto (-69), 3) := by decide +kernel
theorem d_Model_close_202 : decode prog_9_method_18_code 202 = .ok (.return_, 1) := by decide +kernel
theorem d_Model_looped_0 : decode prog_9_method_19_code 0 = .ok (.aload_n 0, 1) := by decide +kernel
theorem d_Model_looped_1 : decode prog_9_method_19_code 1 = .ok (.invokevirtual 129, 3) := by decide +kernel
theorem d_Model_looped_4 : decode prog_9_method_19_code 4 = .ok (.iconst 0, 1) := by decide +kernel
theorem d_Model_looped_5 : decode prog_9_method_19_code 5 = .ok (.istore_n 1, 1) := by decide +kernel
theorem d_Model_looped_6 : decode prog_9_method_19_code 6 = .ok (.iload_n 1, 1) := by decide +kernel
theorem d_Model_looped_7 : decode prog_9_method_19_code 7 = .ok (.aload_n 0, 1) := by decide +kernel
theorem d_Model_looped_8 : decode prog_9_method_19_code 8 = .ok (.getfield 7, 3) := by decide +kernel
theorem d_Model_looped_11 : decode prog_9_method_19_code 11 = .ok (.if_icmp .ge 20, 3) := by decide +kernel
theorem d_Model_looped_14 : decode prog_9_method_19_code 14 = .ok (.aload_n 0, 1) := by decide +kernel
theorem d_Model_looped_15 : decode prog_9_method_19_code 15 = .ok (.iload_n 1, 1) := by decide +kernel
theorem d_Model_looped_16 : decode prog_9_method_19_code 16 = .ok (.iload_n 1, 1) := by decide +kernel
theorem d_Model_looped_17 : decode prog_9_method_19_code 17 = .ok (.invokevirtual 126, 3) := by decide +kernel
theorem d_Model_looped_20 : decode prog_9_method_19_code 20 = .ok (.ifCond .eq 5, 3) := by decide +kernel
theorem d_Model_looped_23 : decode prog_9_method_19_code 23 = .ok (.iload_n 1, 1) := by decide +kernel
theorem d_Model_looped_24 : decode prog_9_method_19_code 24 = .ok (.ireturn, 1) := by decide +kernel
theorem d_Model_looped_25 : decode prog_9_method_19_code 25 = .ok (.iinc 1 1, 3) := by decide +kernel
theorem d_Model_looped_28 : decode prog_9_method_19_code 28 = .ok (.goto (-22), 3) := by decide +kernel
theorem d_Model_looped_31 : decode prog_9_method_19_code 31 = .ok (.iconst (-1), 1) := by decide +kernel
theorem d_Model_looped_32 : decode prog_9_method_19_code 32 = .ok (.ireturn, 1) := by decide +kernel
theorem d_Model_levelOf_0 : decode prog_9_method_20_code 0 = .ok (.iconst 0, 1) := by decide +kernel
theorem d_Model_levelOf_1 : decode prog_9_method_20_code 1 = .ok (.istore_n 2, 1) := by decide +kernel
theorem d_Model_levelOf_2 : decode prog_9_method_20_code 2 = .ok (.iload_n 2, 1) := by decide +kernel
theorem d_Model_levelOf_3 : decode prog_9_method_20_code 3 = .ok (.bipush 80, 2) := by decide +kernel
theorem d_Model_levelOf_5 : decode prog_9_method_20_code 5 = .ok (.if_icmp .ge 16, 3) := by decide +kernel
theorem d_Model_levelOf_8 : decode prog_9_method_20_code 8 = .ok (.aload_n 0, 1) := by decide +kernel
theorem d_Model_levelOf_9 : decode prog_9_method_20_code 9 = .ok (.getfield 17, 3) := by decide +kernel
theorem d_Model_levelOf_12 : decode prog_9_method_20_code 12 = .ok (.iload_n 2, 1) := by decide +kernel
theorem d_Model_levelOf_13 : decode prog_9_method_20_code 13 = .ok (.iconst 0, 1) := by decide +kernel
theorem d_Model_levelOf_14 : decode prog_9_method_20_code 14 = .ok (.iastore, 1) := by decide +kernel
theorem d_Model_levelOf_15 : decode prog_9_method_20_code 15 = .ok (.iinc 2 1, 3) := by decide +kernel
theorem d_Model_levelOf_18 : decode prog_9_method_20_code 18 = .ok (.goto (-16), 3) := by decide +kernel
theorem d_Model_levelOf_21 : decode prog_9_method_20_code 21 = .ok (.iconst 0, 1) := by decide +kernel
theorem d_Model_levelOf_22 : decode prog_9_method_20_code 22 = .ok (.istore_n 2, 1) := by decide +kernel
theorem d_Model_levelOf_23 : decode prog_9_method_20_code 23 = .ok (.iload_n 2, 1) := by decide +kernel
theorem d_Model_levelOf_24 : decode prog_9_method_20_code 24 = .ok (.bipush 80, 2) := by decide +kernel
theorem d_Model_levelOf_26 : decode prog_9_method_20_code 26 = .ok (.if_icmp .ge 188, 3) := by decide +kernel
theorem d_Model_levelOf_29 : decode prog_9_method_20_code 29 = .ok (.iconst 0, 1) := by decide +kernel
theorem d_Model_levelOf_30 : decode prog_9_method_20_code 30 = .ok (.istore_n 3, 1) := by decide +kernel
theorem d_Model_levelOf_31 : decode prog_9_method_20_code 31 = .ok (.iload_n 3, 1) := by decide +kernel
theorem d_Model_levelOf_32 : decode prog_9_method_20_code 32 = .ok (.aload_n 0, 1) := by decide +kernel
theorem d_Model_levelOf_33 : decode prog_9_method_20_code 33 = .ok (.getfield 86, 3) := by decide +kernel
theorem d_Model_levelOf_36 : decode prog_9_method_20_code 36 = .ok (.if_icmp .ge 172, 3) := by decide +kernel
theorem d_Model_levelOf_39 : decode prog_9_method_20_code 39 = .ok (.aload_n 0, 1) := by decide +kernel
theorem d_Model_levelOf_40 : decode prog_9_method_20_code 40 = .ok (.iload_n 3, 1) := by decide +kernel
theorem d_Model_levelOf_41 : decode prog_9_method_20_code 41 = .ok (.invokevirtual 119, 3) := by decide +kernel
theorem d_Model_levelOf_44 : decode prog_9_method_20_code 44 = .ok (.ifCond .eq 15, 3) := by decide +kernel
theorem d_Model_levelOf_47 : decode prog_9_method_20_code 47 = .ok (.aload_n 0, 1) := by decide +kernel
theorem d_Model_levelOf_48 : decode prog_9_method_20_code 48 = .ok (.getfield 26, 3) := by decide +kernel
theorem d_Model_levelOf_51 : decode prog_9_method_20_code 51 = .ok (.iload_n 3, 1) := by decide +kernel
theorem d_Model_levelOf_52 : decode prog_9_method_20_code 52 = .ok (.iaload, 1) := by decide +kernel
theorem d_Model_levelOf_53 : decode prog_9_method_20_code 53 = .ok (.invokestatic 78, 3) := by decide +kernel
theorem d_Model_levelOf_56 : decode prog_9_method_20_code 56 = .ok (.goto 4, 3) := by decide +kernel
theorem d_Model_levelOf_59 : decode prog_9_method_20_code 59 = .ok (.iconst 0, 1) := by decide +kernel
theorem d_Model_levelOf_60 : decode prog_9_method_20_code 60 = .ok (.istore 4, 2) := by decide +kernel
theorem d_Model_levelOf_62 : decode prog_9_method_20_code 62 = .ok (.iconst 0, 1) := by decide +kernel
theorem d_Model_levelOf_63 : decode prog_9_method_20_code 63 = .ok (.istore 5, 2) := by decide +kernel
theorem d_Model_levelOf_65 : decode prog_9_method_20_code 65 = .ok (.iload 4, 2) := by decide +kernel
theorem d_Model_levelOf_67 : decode prog_9_method_20_code 67 = .ok (.ifCond .le 32, 3) := by decide +kernel
theorem d_Model_levelOf_70 : decode prog_9_method_20_code 70 = .ok (.aload_n 0, 1) := by decide +kernel
theorem d_Model_levelOf_71 : decode prog_9_method_20_code 71 = .ok (.getfield 17, 3) := by decide +kernel
theorem d_Model_levelOf_74 : decode prog_9_method_20_code 74 = .ok (.aload_n 0, 1) := by decide +kernel
theorem d_Model_levelOf_75 : decode prog_9_method_20_code 75 = .ok (.getfield 32, 3) := by decide +kernel
theorem d_Model_levelOf_78 : decode prog_9_method_20_code 78 = .ok (.iload_n 3, 1) := by decide +kernel
theorem d_Model_levelOf_79 : decode prog_9_method_20_code 79 = .ok (.iaload, 1) := by decide +kernel
theorem d_Model_levelOf_80 : decode prog_9_method_20_code 80 = .ok (.iaload, 1) := by decide +kernel
theorem d_Model_levelOf_81 : decode prog_9_method_20_code 81 = .ok (.iload 5, 2) := by decide +kernel
theorem d_Model_levelOf_83 : decode prog_9_method_20_code 83 = .ok (.if_icmp .le 16, 3) := by decide +kernel
theorem d_Model_levelOf_86 : decode prog_9_method_20_code 86 = .ok (.aload_n 0, 1) := by decide +kernel
theorem d_Model_levelOf_87 : decode prog_9_method_20_code 87 = .ok (.getfield 17, 3) := by decide +kernel
theorem d_Model_levelOf_90 : decode prog_9_method_20_code 90 = .ok (.aload_n 0, 1) := by decide +kernel
theorem d_Model_levelOf_91 : decode prog_9_method_20_code 91 = .ok (.getfield 32, 3) := by decide +kernel
theorem d_Model_levelOf_94 : decode prog_9_method_20_code 94 = .ok (.iload_n 3, 1) := by decide +kernel
theorem d_Model_levelOf_95 : decode prog_9_method_20_code 95 = .ok (.iaload, 1) := by decide +kernel
theorem d_Model_levelOf_96 : decode prog_9_method_20_code 96 = .ok (.iaload, 1) := by decide +kernel
theorem d_Model_levelOf_97 : decode prog_9_method_20_code 97 = .ok (.istore 5, 2) := by decide +kernel
theorem d_Model_levelOf_99 : decode prog_9_method_20_code 99 = .ok (.iload 4, 2) := by decide +kernel
theorem d_Model_levelOf_101 : decode prog_9_method_20_code 101 = .ok (.iconst 1, 1) := by decide +kernel
theorem d_Model_levelOf_102 : decode prog_9_method_20_code 102 = .ok (.if_icmp .le 32, 3) := by decide +kernel
theorem d_Model_levelOf_105 : decode prog_9_method_20_code 105 = .ok (.aload_n 0, 1) := by decide +kernel
theorem d_Model_levelOf_106 : decode prog_9_method_20_code 106 = .ok (.getfield 17, 3) := by decide +kernel
theorem d_Model_levelOf_109 : decode prog_9_method_20_code 109 = .ok (.aload_n 0, 1) := by decide +kernel
theorem d_Model_levelOf_110 : decode prog_9_method_20_code 110 = .ok (.getfield 35, 3) := by decide +kernel
theorem d_Model_levelOf_113 : decode prog_9_method_20_code 113 = .ok (.iload_n 3, 1) := by decide +kernel
theorem d_Model_levelOf_114 : decode prog_9_method_20_code 114 = .ok (.iaload, 1) := by decide +kernel
theorem d_Model_levelOf_115 : decode prog_9_method_20_code 115 = .ok (.iaload, 1) := by decide +kernel
theorem d_Model_levelOf_116 : decode prog_9_method_20_code 116 = .ok (.iload 5, 2) := by decide +kernel
theorem d_Model_levelOf_118 : decode prog_9_method_20_code 118 = .ok (.if_icmp .le 16, 3) := by decide +kernel
theorem d_Model_levelOf_121 : decode prog_9_method_20_code 121 = .ok (.aload_n 0, 1) := by decide +kernel
theorem d_Model_levelOf_122 : decode prog_9_method_20_code 122 = .ok (.getfield 17, 3) := by decide +kernel
theorem d_Model_levelOf_125 : decode prog_9_method_20_code 125 = .ok (.aload_n 0, 1) := by decide +kernel
theorem d_Model_levelOf_126 : decode prog_9_method_20_code 126 = .ok (.getfield 35, 3) := by decide +kernel
theorem d_Model_levelOf_129 : decode prog_9_method_20_code 129 = .ok (.iload_n 3, 1) := by decide +kernel
theorem d_Model_levelOf_130 : decode prog_9_method_20_code 130 = .ok (.iaload, 1) := by decide +kernel
theorem d_Model_levelOf_131 : decode prog_9_method_20_code 131 = .ok (.iaload, 1) := by decide +kernel
theorem d_Model_levelOf_132 : decode prog_9_method_20_code 132 = .ok (.istore 5, 2) := by decide +kernel
theorem d_Model_levelOf_134 : decode prog_9_method_20_code 134 = .ok (.iload 4, 2) := by decide +kernel
theorem d_Model_levelOf_136 : decode prog_9_method_20_code 136 = .ok (.iconst 2, 1) := by decide +kernel
theorem d_Model_levelOf_137 : decode prog_9_method_20_code 137 = .ok (.if_icmp .le 32, 3) := by decide +kernel
theorem d_Model_levelOf_140 : decode prog_9_method_20_code 140 = .ok (.aload_n 0, 1) := by decide +kernel
theorem d_Model_levelOf_141 : decode prog_9_method_20_code 141 = .ok (.getfield 17, 3) := by decide +kernel
theorem d_Model_levelOf_144 : decode prog_9_method_20_code 144 = .ok (.aload_n 0, 1) := by decide +kernel
theorem d_Model_levelOf_145 : decode prog_9_method_20_code 145 = .ok (.getfield 38, 3) := by decide +kernel
theorem d_Model_levelOf_148 : decode prog_9_method_20_code 148 = .ok (.iload_n 3, 1) := by decide +kernel
theorem d_Model_levelOf_149 : decode prog_9_method_20_code 149 = .ok (.iaload, 1) := by decide +kernel
theorem d_Model_levelOf_150 : decode prog_9_method_20_code 150 = .ok (.iaload, 1) := by decide +kernel
theorem d_Model_levelOf_151 : decode prog_9_method_20_code 151 = .ok (.iload 5, 2) := by decide +kernel
theorem d_Model_levelOf_153 : decode prog_9_method_20_code 153 = .ok (.if_icmp .le 16, 3) := by decide +kernel
theorem d_Model_levelOf_156 : decode prog_9_method_20_code 156 = .ok (.aload_n 0, 1) := by decide +kernel
theorem d_Model_levelOf_157 : decode prog_9_method_20_code 157 = .ok (.getfield 17, 3) := by decide +kernel
theorem d_Model_levelOf_160 : decode prog_9_method_20_code 160 = .ok (.aload_n 0, 1) := by decide +kernel
theorem d_Model_levelOf_161 : decode prog_9_method_20_code 161 = .ok (.getfield 38, 3) := by decide +kernel
theorem d_Model_levelOf_164 : decode prog_9_method_20_code 164 = .ok (.iload_n 3, 1) := by decide +kernel
theorem d_Model_levelOf_165 : decode prog_9_method_20_code 165 = .ok (.iaload, 1) := by decide +kernel
theorem d_Model_levelOf_166 : decode prog_9_method_20_code 166 = .ok (.iaload, 1) := by decide +kernel
theorem d_Model_levelOf_167 : decode prog_9_method_20_code 167 = .ok (.istore 5, 2) := by decide +kernel
theorem d_Model_levelOf_169 : decode prog_9_method_20_code 169 = .ok (.iload 5, 2) := by decide +kernel
theorem d_Model_levelOf_171 : decode prog_9_method_20_code 171 = .ok (.iconst 1, 1) := by decide +kernel
theorem d_Model_levelOf_172 : decode prog_9_method_20_code 172 = .ok (.iadd, 1) := by decide +kernel
theorem d_Model_levelOf_173 : decode prog_9_method_20_code 173 = .ok (.aload_n 0, 1) := by decide +kernel
theorem d_Model_levelOf_174 : decode prog_9_method_20_code 174 = .ok (.getfield 17, 3) := by decide +kernel
theorem d_Model_levelOf_177 : decode prog_9_method_20_code 177 = .ok (.aload_n 0, 1) := by decide +kernel
theorem d_Model_levelOf_178 : decode prog_9_method_20_code 178 = .ok (.getfield 29, 3) := by decide +kernel
theorem d_Model_levelOf_181 : decode prog_9_method_20_code 181 = .ok (.iload_n 3, 1) := by decide +kernel
theorem d_Model_levelOf_182 : decode prog_9_method_20_code 182 = .ok (.iaload, 1) := by decide +kernel
theorem d_Model_levelOf_183 : decode prog_9_method_20_code 183 = .ok (.iaload, 1) := by decide +kernel
theorem d_Model_levelOf_184 : decode prog_9_method_20_code 184 = .ok (.if_icmp .le 18, 3) := by decide +kernel
theorem d_Model_levelOf_187 : decode prog_9_method_20_code 187 = .ok (.aload_n 0, 1) := by decide +kernel
theorem d_Model_levelOf_188 : decode prog_9_method_20_code 188 = .ok (.getfield 17, 3) := by decide +kernel
theorem d_Model_levelOf_191 : decode prog_9_method_20_code 191 = .ok (.aload_n 0, 1) := by decide +kernel
theorem d_Model_levelOf_192 : decode prog_9_method_20_code 192 = .ok (.getfield 29, 3) := by decide +kernel
theorem d_Model_levelOf_195 : decode prog_9_method_20_code 195 = .ok (.iload_n 3, 1) := by decide +kernel
theorem d_Model_levelOf_196 : decode prog_9_method_20_code 196 = .ok (.iaload, 1) := by decide +kernel
theorem d_Model_levelOf_197 : decode prog_9_method_20_code 197 = .ok (.iload 5, 2) := by decide +kernel
theorem d_Model_levelOf_199 : decode prog_9_method_20_code 199 = .ok (.iconst 1, 1) := by decide +kernel
theorem d_Model_levelOf_200 : decode prog_9_method_20_code 200 = .ok (.iadd, 1) := by decide +kernel
theorem d_Model_levelOf_201 : decode prog_9_method_20_code 201 = .ok (.iastore, 1) := by decide +kernel
theorem d_Model_levelOf_202 : decode prog_9_method_20_code 202 = .ok (.iinc 3 1, 3) := by decide +kernel
theorem d_Model_levelOf_205 : decode prog_9_method_20_code 205 = .ok (.goto (-174), 3) := by decide +kernel
theorem d_Model_levelOf_208 : decode prog_9_method_20_code 208 = .ok (.iinc 2 1, 3) := by decide +kernel
theorem d_Model_levelOf_211 : decode prog_9_method_20_code 211 = .ok (.goto (-188), 3) := by decide +kernel
theorem d_Model_levelOf_214 : decode prog_9_method_20_code 214 = .ok (.iconst 0, 1) := by decide +kernel
theorem d_Model_levelOf_215 : decode prog_9_method_20_code 215 = .ok (.istore_n 2, 1) := by decide +kernel
theorem d_Model_levelOf_216 : decode prog_9_method_20_code 216 = .ok (.iconst 0, 1) := by decide +kernel
theorem d_Model_levelOf_217 : decode prog_9_method_20_code 217 = .ok (.istore_n 3, 1) := by decide +kernel
theorem d_Model_levelOf_218 : decode prog_9_method_20_code 218 = .ok (.iload_n 3, 1) := by decide +kernel
theorem d_Model_levelOf_219 : decode prog_9_method_20_code 219 = .ok (.aload_n 0, 1) := by decide +kernel
theorem d_Model_levelOf_220 : decode prog_9_method_20_code 220 = .ok (.getfield 7, 3) := by decide +kernel
theorem d_Model_levelOf_223 : decode prog_9_method_20_code 223 = .ok (.if_icmp .ge 26, 3) := by decide +kernel
theorem d_Model_levelOf_226 : decode prog_9_method_20_code 226 = .ok (.aload_n 0, 1) := by decide +kernel
theorem d_Model_levelOf_227 : decode prog_9_method_20_code 227 = .ok (.getfield 17, 3) := by decide +kernel
theorem d_Model_levelOf_230 : decode prog_9_method_20_code 230 = .ok (.iload_n 3, 1) := by decide +kernel
theorem d_Model_levelOf_231 : decode prog_9_method_20_code 231 = .ok (.iaload, 1) := by decide +kernel
theorem d_Model_levelOf_232 : decode prog_9_method_20_code 232 = .ok (.iload_n 2, 1) := by decide +kernel
theorem d_Model_levelOf_233 : decode prog_9_method_20_code 233 = .ok (.if_icmp .le 10, 3) := by decide +kernel
theorem d_Model_levelOf_236 : decode prog_9_method_20_code 236 = .ok (.aload_n 0, 1) := by decide +kernel
theorem d_Model_levelOf_237 : decode prog_9_method_20_code 237 = .ok (.getfield 17, 3) := by decide +kernel
theorem d_Model_levelOf_240 : decode prog_9_method_20_code 240 = .ok (.iload_n 3, 1) := by decide +kernel
theorem d_Model_levelOf_241 : decode prog_9_method_20_code 241 = .ok (.iaload, 1) := by decide +kernel
theorem d_Model_levelOf_242 : decode prog_9_method_20_code 242 = .ok (.istore_n 2, 1) := by decide +kernel
theorem d_Model_levelOf_243 : decode prog_9_method_20_code 243 = .ok (.iinc 3 1, 3) := by decide +kernel
theorem d_Model_levelOf_246 : decode prog_9_method_20_code 246 = .ok (.goto (-28), 3) := by decide +kernel
theorem d_Model_levelOf_249 : decode prog_9_method_20_code 249 = .ok (.iload_n 1, 1) := by decide +kernel
theorem d_Model_levelOf_250 : decode prog_9_method_20_code 250 = .ok (.ifCond .ge 7, 3) := by decide +kernel
theorem d_Model_levelOf_253 : decode prog_9_method_20_code 253 = .ok (.iload_n 2, 1) := by decide +kernel
theorem d_Model_levelOf_254 : decode prog_9_method_20_code 254 = .ok (.goto 9, 3) := by decide +kernel
theorem d_Model_levelOf_257 : decode prog_9_method_20_code 257 = .ok (.aload_n 0, 1) := by decide +kernel
theorem d_Model_levelOf_258 : decode prog_9_method_20_code 258 = .ok (.getfield 17, 3) := by decide +kernel
theorem d_Model_levelOf_261 : decode prog_9_method_20_code 261 = .ok (.iload_n 1, 1) := by decide +kernel
theorem d_Model_levelOf_262 : decode prog_9_method_20_code 262 = .ok (.iaload, 1) := by decide +kernel
theorem d_Model_levelOf_263 : decode prog_9_method_20_code 263 = .ok (.ireturn, 1) := by decide +kernel
theorem d_Model_read_0 : decode prog_9_method_21_code 0 = .ok (.aload_n 0, 1) := by decide +kernel
theorem d_Model_read_1 : decode prog_9_method_21_code 1 = .ok (.getfield 13, 3) := by decide +kernel
theorem d_Model_read_4 : decode prog_9_method_21_code 4 = .ok (.iload_n 1, 1) := by decide +kernel
theorem d_Model_read_5 : decode prog_9_method_21_code 5 = .ok (.iaload, 1) := by decide +kernel
theorem d_Model_read_6 : decode prog_9_method_21_code 6 = .ok (.iconst 3, 1) := by decide +kernel
theorem d_Model_read_7 : decode prog_9_method_21_code 7 = .ok (.if_icmp .ne 7, 3) := by decide +kernel
theorem d_Model_read_10 : decode prog_9_method_21_code 10 = .ok (.iconst 2, 1) := by decide +kernel
theorem d_Model_read_11 : decode prog_9_method_21_code 11 = .ok (.goto 9, 3) := by decide +kernel
theorem d_Model_read_14 : decode prog_9_method_21_code 14 = .ok (.aload_n 0, 1) := by decide +kernel
theorem d_Model_read_15 : decode prog_9_method_21_code 15 = .ok (.getfield 13, 3) := by decide +kernel
theorem d_Model_read_18 : decode prog_9_method_21_code 18 = .ok (.iload_n 1, 1) := by decide +kernel
theorem d_Model_read_19 : decode prog_9_method_21_code 19 = .ok (.iaload, 1) := by decide +kernel
theorem d_Model_read_20 : decode prog_9_method_21_code 20 = .ok (.ireturn, 1) := by decide +kernel
theorem d_Model_both_0 : decode prog_9_method_22_code 0 = .ok (.iload_n 0, 1) := by decide +kernel
theorem d_Model_both_1 : decode prog_9_method_22_code 1 = .ok (.ifCond .eq 7, 3) := by decide +kernel
theorem d_Model_both_4 : decode prog_9_method_22_code 4 = .ok (.iload_n 1, 1) := by decide +kernel
theorem d_Model_both_5 : decode prog_9_method_22_code 5 = .ok (.ifCond .ne 7, 3) := by decide +kernel
theorem d_Model_both_8 : decode prog_9_method_22_code 8 = .ok (.iconst 0, 1) := by decide +kernel
theorem d_Model_both_9 : decode prog_9_method_22_code 9 = .ok (.goto 18, 3) := by decide +kernel
theorem d_Model_both_12 : decode prog_9_method_22_code 12 = .ok (.iload_n 0, 1) := by decide +kernel
theorem d_Model_both_13 : decode prog_9_method_22_code 13 = .ok (.iconst 1, 1) := by decide +kernel
theorem d_Model_both_14 : decode prog_9_method_22_code 14 = .ok (.if_icmp .ne 12, 3) := by decide +kernel
theorem d_Model_both_17 : decode prog_9_method_22_code 17 = .ok (.iload_n 1, 1) := by decide +kernel
theorem d_Model_both_18 : decode prog_9_method_22_code 18 = .ok (.iconst 1, 1) := by decide +kernel
theorem d_Model_both_19 : decode prog_9_method_22_code 19 = .ok (.if_icmp .ne 7, 3) := by decide +kernel
theorem d_Model_both_22 : decode prog_9_method_22_code 22 = .ok (.iconst 1, 1) := by decide +kernel
theorem d_Model_both_23 : decode prog_9_method_22_code 23 = .ok (.goto 4, 3) := by decide +kernel
theorem d_Model_both_26 : decode prog_9_method_22_code 26 = .ok (.iconst 2, 1) := by decide +kernel
theorem d_Model_both_27 : decode prog_9_method_22_code 27 = .ok (.ireturn, 1) := by decide +kernel
theorem d_Model_worked_0 : decode prog_9_method_23_code 0 = .ok (.aload_n 0, 1) := by decide +kernel
theorem d_Model_worked_1 : decode prog_9_method_23_code 1 = .ok (.iload_n 1, 1) := by decide +kernel
theorem d_Model_worked_2 : decode prog_9_method_23_code 2 = .ok (.invokevirtual 119, 3) := by decide +kernel
theorem d_Model_worked_5 : decode prog_9_method_23_code 5 = .ok (.ifCond .ne 10, 3) := by decide +kernel
theorem d_Model_worked_8 : decode prog_9_method_23_code 8 = .ok (.aload_n 0, 1) := by decide +kernel
theorem d_Model_worked_9 : decode prog_9_method_23_code 9 = .ok (.getfield 41, 3) := by decide +kernel
theorem d_Model_worked_12 : decode prog_9_method_23_code 12 = .ok (.iload_n 1, 1) := by decide +kernel
theorem d_Model_worked_13 : decode prog_9_method_23_code 13 = .ok (.iaload, 1) := by decide +kernel
theorem d_Model_worked_14 : decode prog_9_method_23_code 14 = .ok (.ireturn, 1) := by decide +kernel
theorem d_Model_worked_15 : decode prog_9_method_23_code 15 = .ok (.aload_n 0, 1) := by decide +kernel
theorem d_Model_worked_16 : decode prog_9_method_23_code 16 = .ok (.aload_n 0, 1) := by decide +kernel
theorem d_Model_worked_17 : decode prog_9_method_23_code 17 = .ok (.getfield 32, 3) := by decide +kernel
theorem d_Model_worked_20 : decode prog_9_method_23_code 20 = .ok (.iload_n 1, 1) := by decide +kernel
theorem d_Model_worked_21 : decode prog_9_method_23_code 21 = .ok (.iaload, 1) := by decide +kernel
theorem d_Model_worked_22 : decode prog_9_method_23_code 22 = .ok (.invokevirtual 132, 3) := by decide +kernel
theorem d_Model_worked_25 : decode prog_9_method_23_code 25 = .ok (.istore_n 2, 1) := by decide +kernel
theorem d_Model_worked_26 : decode prog_9_method_23_code 26 = .ok (.aload_n 0, 1) := by decide +kernel
theorem d_Model_worked_27 : decode prog_9_method_23_code 27 = .ok (.getfield 26, 3) := by decide +kernel
theorem d_Model_worked_30 : decode prog_9_method_23_code 30 = .ok (.iload_n 1, 1) := by decide +kernel
theorem d_Model_worked_31 : decode prog_9_method_23_code 31 = .ok (.iaload, 1) := by decide +kernel
theorem d_Model_worked_32 : decode prog_9_method_23_code 32 = .ok (.invokestatic 78, 3) := by decide +kernel
theorem d_Model_worked_35 : decode prog_9_method_23_code 35 = .ok (.iconst 1, 1) := by decide +kernel
theorem d_Model_worked_36 : decode prog_9_method_23_code 36 = .ok (.if_icmp .le 16, 3) := by decide +kernel
theorem d_Model_worked_39 : decode prog_9_method_23_code 39 = .ok (.aload_n 0, 1) := by decide +kernel
theorem d_Model_worked_40 : decode prog_9_method_23_code 40 = .ok (.aload_n 0, 1) := by decide +kernel
theorem d_Model_worked_41 : decode prog_9_method_23_code 41 = .ok (.getfield 35, 3) := by decide +kernel
theorem d_Model_worked_44 : decode prog_9_method_23_code 44 = .ok (.iload_n 1, 1) := by decide +kernel
theorem d_Model_worked_45 : decode prog_9_method_23_code 45 = .ok (.iaload, 1) := by decide +kernel
theorem d_Model_worked_46 : decode prog_9_method_23_code 46 = .ok (.invokevirtual 132, 3) := by decide +kernel
theorem d_Model_worked_49 : decode prog_9_method_23_code 49 = .ok (.goto 4, 3) := by decide +kernel
theorem d_Model_worked_52 : decode prog_9_method_23_code 52 = .ok (.iconst 0, 1) := by decide +kernel
theorem d_Model_worked_53 : decode prog_9_method_23_code 53 = .ok (.istore_n 3, 1) := by decide +kernel
theorem d_Model_worked_54 : decode prog_9_method_23_code 54 = .ok (.aload_n 0, 1) := by decide +kernel
theorem d_Model_worked_55 : decode prog_9_method_23_code 55 = .ok (.getfield 26, 3) := by decide +kernel
theorem d_Model_worked_58 : decode prog_9_method_23_code 58 = .ok (.iload_n 1, 1) := by decide +kernel
theorem d_Model_worked_59 : decode prog_9_method_23_code 59 = .ok (.iaload, 1) := by decide +kernel
theorem d_Model_worked_60 : decode prog_9_method_23_code 60 = .ok (.tableswitch 173 1 6 #[40, 53, 59, 87, 112, 154], 40) := by decide +kernel
theorem d_Model_worked_100 : decode prog_9_method_23_code 100 = .ok (.iload_n 2, 1) := by decide +kernel
theorem d_Model_worked_101 : decode prog_9_method_23_code 101 = .ok (.iconst 2, 1) := by decide +kernel
theorem d_Model_worked_102 : decode prog_9_method_23_code 102 = .ok (.if_icmp .ne 7, 3) := by decide +kernel
theorem d_Model_worked_105 : decode prog_9_method_23_code 105 = .ok (.iconst 2, 1) := by decide +kernel
theorem d_Model_worked_106 : decode prog_9_method_23_code 106 = .ok (.goto 6, 3) := by decide +kernel
theorem d_Model_worked_109 : decode prog_9_method_23_code 109 = .ok (.iconst 1, 1) := by decide +kernel
theorem d_Model_worked_110 : decode prog_9_method_23_code 110 = .ok (.iload_n 2, 1) := by decide +kernel
theorem d_Model_worked_111 : decode prog_9_method_23_code 111 = .ok (.isub, 1) := by decide +kernel
theorem d_Model_worked_112 : decode prog_9_method_23_code 112 = .ok (.ireturn, 1) := by decide +kernel
theorem d_Model_worked_113 : decode prog_9_method_23_code 113 = .ok (.iload_n 2, 1) := by decide +kernel
theorem d_Model_worked_114 : decode prog_9_method_23_code 114 = .ok (.iload_n 3, 1) := by decide +kernel
theorem d_Model_worked_115 : decode prog_9_method_23_code 115 = .ok (.invokestatic 135, 3) := by decide +kernel
theorem d_Model_worked_118 : decode prog_9_method_23_code 118 = .ok (.ireturn, 1) := by decide +kernel
theorem d_Model_worked_119 : decode prog_9_method_23_code 119 = .ok (.iload_n 2, 1) := by decide +kernel
theorem d_Model_worked_120 : decode prog_9_method_23_code 120 = .ok (.iconst 1, 1) := by decide +kernel
theorem d_Model_worked_121 : decode prog_9_method_23_code 121 = .ok (.if_icmp .eq 8, 3) := by decide +kernel
theorem d_Model_worked_124 : decode prog_9_method_23_code 124 = .ok (.iload_n 3, 1) := by decide +kernel
theorem d_Model_worked_125 : decode prog_9_method_23_code 125 = .ok (.iconst 1, 1) := by decide +kernel
theorem d_Model_worked_126 : decode prog_9_method_23_code 126 = .ok (.if_icmp .ne 7, 3) := by decide +kernel
theorem d_Model_worked_129 : decode prog_9_method_23_code 129 = .ok (.iconst 1, 1) := by decide +kernel
theorem d_Model_worked_130 : decode prog_9_method_23_code 130 = .ok (.goto 16, 3) := by decide +kernel
theorem d_Model_worked_133 : decode prog_9_method_23_code 133 = .ok (.iload_n 2, 1) := by decide +kernel
theorem d_Model_worked_134 : decode prog_9_method_23_code 134 = .ok (.ifCond .ne 11, 3) := by decide +kernel
theorem d_Model_worked_137 : decode prog_9_method_23_code 137 = .ok (.iload_n 3, 1) := by decide +kernel
theorem d_Model_worked_138 : decode prog_9_method_23_code 138 = .ok (.ifCond .ne 7, 3) := by decide +kernel
theorem d_Model_worked_141 : decode prog_9_method_23_code 141 = .ok (.iconst 0, 1) := by decide +kernel
theorem d_Model_worked_142 : decode prog_9_method_23_code 142 = .ok (.goto 4, 3) := by decide +kernel
theorem d_Model_worked_145 : decode prog_9_method_23_code 145 = .ok (.iconst 2, 1) := by decide +kernel
theorem d_Model_worked_146 : decode prog_9_method_23_code 146 = .ok (.ireturn, 1) := by decide +kernel
theorem d_Model_worked_147 : decode prog_9_method_23_code 147 = .ok (.iload_n 2, 1) := by decide +kernel
theorem d_Model_worked_148 : decode prog_9_method_23_code 148 = .ok (.iconst 2, 1) := by decide +kernel
theorem d_Model_worked_149 : decode prog_9_method_23_code 149 = .ok (.if_icmp .eq 8, 3) := by decide +kernel
theorem d_Model_worked_152 : decode prog_9_method_23_code 152 = .ok (.iload_n 3, 1) := by decide +kernel
theorem d_Model_worked_153 : decode prog_9_method_23_code 153 = .ok (.iconst 2, 1) := by decide +kernel
theorem d_Model_worked_154 : decode prog_9_method_23_code 154 = .ok (.if_icmp .ne 7, 3) := by decide +kernel
theorem d_Model_worked_157 : decode prog_9_method_23_code 157 = .ok (.iconst 2, 1) := by decide +kernel
theorem d_Model_worked_158 : decode prog_9_method_23_code 158 = .ok (.goto 13, 3) := by decide +kernel
theorem d_Model_worked_161 : decode prog_9_method_23_code 161 = .ok (.iload_n 2, 1) := by decide +kernel
theorem d_Model_worked_162 : decode prog_9_method_23_code 162 = .ok (.iload_n 3, 1) := by decide +kernel
theorem d_Model_worked_163 : decode prog_9_method_23_code 163 = .ok (.if_icmp .ne 7, 3) := by decide +kernel
theorem d_Model_worked_166 : decode prog_9_method_23_code 166 = .ok (.iconst 0, 1) := by decide +kernel
theorem d_Model_worked_167 : decode prog_9_method_23_code 167 = .ok (.goto 4, 3) := by decide +kernel
theorem d_Model_worked_170 : decode prog_9_method_23_code 170 = .ok (.iconst 1, 1) := by decide +kernel
theorem d_Model_worked_171 : decode prog_9_method_23_code 171 = .ok (.ireturn, 1) := by decide +kernel
theorem d_Model_worked_172 : decode prog_9_method_23_code 172 = .ok (.aload_n 0, 1) := by decide +kernel
theorem d_Model_worked_173 : decode prog_9_method_23_code 173 = .ok (.aload_n 0, 1) := by decide +kernel
theorem d_Model_worked_174 : decode prog_9_method_23_code 174 = .ok (.getfield 38, 3) := by decide +kernel
theorem d_Model_worked_177 : decode prog_9_method_23_code 177 = .ok (.iload_n 1, 1) := by decide +kernel
theorem d_Model_worked_178 : decode prog_9_method_23_code 178 = .ok (.iaload, 1) := by decide +kernel
theorem d_Model_worked_179 : decode prog_9_method_23_code 179 = .ok (.invokevirtual 132, 3) := by decide +kernel
theorem d_Model_worked_182 : decode prog_9_method_23_code 182 = .ok (.istore 4, 2) := by decide +kernel
theorem d_Model_worked_184 : decode prog_9_method_23_code 184 = .ok (.iload 4, 2) := by decide +kernel
theorem d_Model_worked_186 : decode prog_9_method_23_code 186 = .ok (.ifCond .ne 7, 3) := by decide +kernel
theorem d_Model_worked_189 : decode prog_9_method_23_code 189 = .ok (.iload_n 2, 1) := by decide +kernel
theorem d_Model_worked_190 : decode prog_9_method_23_code 190 = .ok (.goto 23, 3) := by decide +kernel
