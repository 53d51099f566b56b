theorem d_Model_worked_193 : decode prog_9_method_23_code 193 = .ok (.iload 4, 2) := by decide +kernel
theorem d_Model_worked_195 : decode prog_9_method_23_code 195 = .ok (.iconst 1, 1) := by decide +kernel
theorem d_Model_worked_196 : decode prog_9_method_23_code 196 = .ok (.if_icmp .ne 7, 3) := by decide +kernel
theorem d_Model_worked_199 : decode prog_9_method_23_code 199 = .ok (.iload_n 3, 1) := by decide +kernel
theorem d_Model_worked_200 : decode prog_9_method_23_code 200 = .ok (.goto 13, 3) := by decide +kernel
theorem d_Model_worked_203 : decode prog_9_method_23_code 203 = .ok (.iload_n 2, 1) := by decide +kernel
theorem d_Model_worked_204 : decode prog_9_method_23_code 204 = .ok (.iload_n 3, 1) := by decide +kernel
theorem d_Model_worked_205 : decode prog_9_method_23_code 205 = .ok (.if_icmp .ne 7, 3) := by decide +kernel
theorem d_Model_worked_208 : decode prog_9_method_23_code 208 = .ok (.iload_n 2, 1) := by decide +kernel
theorem d_Model_worked_209 : decode prog_9_method_23_code 209 = .ok (.goto 4, 3) := by decide +kernel
theorem d_Model_worked_212 : decode prog_9_method_23_code 212 = .ok (.iconst 2, 1) := by decide +kernel
theorem d_Model_worked_213 : decode prog_9_method_23_code 213 = .ok (.ireturn, 1) := by decide +kernel
theorem d_Model_worked_214 : decode prog_9_method_23_code 214 = .ok (.iload_n 3, 1) := by decide +kernel
theorem d_Model_worked_215 : decode prog_9_method_23_code 215 = .ok (.iconst 1, 1) := by decide +kernel
theorem d_Model_worked_216 : decode prog_9_method_23_code 216 = .ok (.if_icmp .ne 7, 3) := by decide +kernel
theorem d_Model_worked_219 : decode prog_9_method_23_code 219 = .ok (.iload_n 2, 1) := by decide +kernel
theorem d_Model_worked_220 : decode prog_9_method_23_code 220 = .ok (.goto 12, 3) := by decide +kernel
theorem d_Model_worked_223 : decode prog_9_method_23_code 223 = .ok (.iload_n 3, 1) := by decide +kernel
theorem d_Model_worked_224 : decode prog_9_method_23_code 224 = .ok (.ifCond .ne 7, 3) := by decide +kernel
theorem d_Model_worked_227 : decode prog_9_method_23_code 227 = .ok (.iconst 3, 1) := by decide +kernel
theorem d_Model_worked_228 : decode prog_9_method_23_code 228 = .ok (.goto 4, 3) := by decide +kernel
theorem d_Model_worked_231 : decode prog_9_method_23_code 231 = .ok (.iconst 2, 1) := by decide +kernel
theorem d_Model_worked_232 : decode prog_9_method_23_code 232 = .ok (.ireturn, 1) := by decide +kernel
theorem d_Model_worked_233 : decode prog_9_method_23_code 233 = .ok (.iload_n 3, 1) := by decide +kernel
theorem d_Model_worked_234 : decode prog_9_method_23_code 234 = .ok (.iconst 1, 1) := by decide +kernel
theorem d_Model_worked_235 : decode prog_9_method_23_code 235 = .ok (.if_icmp .ne 7, 3) := by decide +kernel
theorem d_Model_worked_238 : decode prog_9_method_23_code 238 = .ok (.iload_n 2, 1) := by decide +kernel
theorem d_Model_worked_239 : decode prog_9_method_23_code 239 = .ok (.goto 31, 3) := by decide +kernel
theorem d_Model_worked_242 : decode prog_9_method_23_code 242 = .ok (.iload_n 3, 1) := by decide +kernel
theorem d_Model_worked_243 : decode prog_9_method_23_code 243 = .ok (.ifCond .ne 12, 3) := by decide +kernel
theorem d_Model_worked_246 : decode prog_9_method_23_code 246 = .ok (.aload_n 0, 1) := by decide +kernel
theorem d_Model_worked_247 : decode prog_9_method_23_code 247 = .ok (.getfield 41, 3) := by decide +kernel
theorem d_Model_worked_250 : decode prog_9_method_23_code 250 = .ok (.iload_n 1, 1) := by decide +kernel
theorem d_Model_worked_251 : decode prog_9_method_23_code 251 = .ok (.iaload, 1) := by decide +kernel
theorem d_Model_worked_252 : decode prog_9_method_23_code 252 = .ok (.goto 18, 3) := by decide +kernel
theorem d_Model_worked_255 : decode prog_9_method_23_code 255 = .ok (.iload_n 2, 1) := by decide +kernel
theorem d_Model_worked_256 : decode prog_9_method_23_code 256 = .ok (.aload_n 0, 1) := by decide +kernel
theorem d_Model_worked_257 : decode prog_9_method_23_code 257 = .ok (.getfield 41, 3) := by decide +kernel
theorem d_Model_worked_260 : decode prog_9_method_23_code 260 = .ok (.iload_n 1, 1) := by decide +kernel
theorem d_Model_worked_261 : decode prog_9_method_23_code 261 = .ok (.iaload, 1) := by decide +kernel
theorem d_Model_worked_262 : decode prog_9_method_23_code 262 = .ok (.if_icmp .ne 7, 3) := by decide +kernel
theorem d_Model_worked_265 : decode prog_9_method_23_code 265 = .ok (.iload_n 2, 1) := by decide +kernel
theorem d_Model_worked_266 : decode prog_9_method_23_code 266 = .ok (.goto 4, 3) := by decide +kernel
theorem d_Model_worked_269 : decode prog_9_method_23_code 269 = .ok (.iconst 2, 1) := by decide +kernel
theorem d_Model_worked_270 : decode prog_9_method_23_code 270 = .ok (.ireturn, 1) := by decide +kernel
theorem d_Model_joined_0 : decode prog_9_method_24_code 0 = .ok (.aload_n 0, 1) := by decide +kernel
theorem d_Model_joined_1 : decode prog_9_method_24_code 1 = .ok (.getfield 20, 3) := by decide +kernel
theorem d_Model_joined_4 : decode prog_9_method_24_code 4 = .ok (.iload_n 1, 1) := by decide +kernel
theorem d_Model_joined_5 : decode prog_9_method_24_code 5 = .ok (.iaload, 1) := by decide +kernel
theorem d_Model_joined_6 : decode prog_9_method_24_code 6 = .ok (.ifCond .lt 10, 3) := by decide +kernel
theorem d_Model_joined_9 : decode prog_9_method_24_code 9 = .ok (.aload_n 0, 1) := by decide +kernel
theorem d_Model_joined_10 : decode prog_9_method_24_code 10 = .ok (.getfield 20, 3) := by decide +kernel
theorem d_Model_joined_13 : decode prog_9_method_24_code 13 = .ok (.iload_n 1, 1) := by decide +kernel
theorem d_Model_joined_14 : decode prog_9_method_24_code 14 = .ok (.iaload, 1) := by decide +kernel
theorem d_Model_joined_15 : decode prog_9_method_24_code 15 = .ok (.ireturn, 1) := by decide +kernel
theorem d_Model_joined_16 : decode prog_9_method_24_code 16 = .ok (.iconst 3, 1) := by decide +kernel
theorem d_Model_joined_17 : decode prog_9_method_24_code 17 = .ok (.istore_n 2, 1) := by decide +kernel
theorem d_Model_joined_18 : decode prog_9_method_24_code 18 = .ok (.iconst 0, 1) := by decide +kernel
theorem d_Model_joined_19 : decode prog_9_method_24_code 19 = .ok (.istore_n 3, 1) := by decide +kernel
theorem d_Model_joined_20 : decode prog_9_method_24_code 20 = .ok (.iload_n 3, 1) := by decide +kernel
theorem d_Model_joined_21 : decode prog_9_method_24_code 21 = .ok (.aload_n 0, 1) := by decide +kernel
theorem d_Model_joined_22 : decode prog_9_method_24_code 22 = .ok (.getfield 86, 3) := by decide +kernel
theorem d_Model_joined_25 : decode prog_9_method_24_code 25 = .ok (.if_icmp .ge 58, 3) := by decide +kernel
theorem d_Model_joined_28 : decode prog_9_method_24_code 28 = .ok (.aload_n 0, 1) := by decide +kernel
theorem d_Model_joined_29 : decode prog_9_method_24_code 29 = .ok (.getfield 29, 3) := by decide +kernel
theorem d_Model_joined_32 : decode prog_9_method_24_code 32 = .ok (.iload_n 3, 1) := by decide +kernel
theorem d_Model_joined_33 : decode prog_9_method_24_code 33 = .ok (.iaload, 1) := by decide +kernel
theorem d_Model_joined_34 : decode prog_9_method_24_code 34 = .ok (.iload_n 1, 1) := by decide +kernel
theorem d_Model_joined_35 : decode prog_9_method_24_code 35 = .ok (.if_icmp .ne 42, 3) := by decide +kernel
theorem d_Model_joined_38 : decode prog_9_method_24_code 38 = .ok (.aload_n 0, 1) := by decide +kernel
theorem d_Model_joined_39 : decode prog_9_method_24_code 39 = .ok (.getfield 44, 3) := by decide +kernel
theorem d_Model_joined_42 : decode prog_9_method_24_code 42 = .ok (.iload_n 3, 1) := by decide +kernel
theorem d_Model_joined_43 : decode prog_9_method_24_code 43 = .ok (.iaload, 1) := by decide +kernel
theorem d_Model_joined_44 : decode prog_9_method_24_code 44 = .ok (.iconst 3, 1) := by decide +kernel
theorem d_Model_joined_45 : decode prog_9_method_24_code 45 = .ok (.if_icmp .ne 6, 3) := by decide +kernel
theorem d_Model_joined_48 : decode prog_9_method_24_code 48 = .ok (.goto 29, 3) := by decide +kernel
theorem d_Model_joined_51 : decode prog_9_method_24_code 51 = .ok (.iload_n 2, 1) := by decide +kernel
theorem d_Model_joined_52 : decode prog_9_method_24_code 52 = .ok (.iconst 3, 1) := by decide +kernel
theorem d_Model_joined_53 : decode prog_9_method_24_code 53 = .ok (.if_icmp .eq 13, 3) := by decide +kernel
theorem d_Model_joined_56 : decode prog_9_method_24_code 56 = .ok (.iload_n 2, 1) := by decide +kernel
theorem d_Model_joined_57 : decode prog_9_method_24_code 57 = .ok (.aload_n 0, 1) := by decide +kernel
theorem d_Model_joined_58 : decode prog_9_method_24_code 58 = .ok (.getfield 44, 3) := by decide +kernel
theorem d_Model_joined_61 : decode prog_9_method_24_code 61 = .ok (.iload_n 3, 1) := by decide +kernel
theorem d_Model_joined_62 : decode prog_9_method_24_code 62 = .ok (.iaload, 1) := by decide +kernel
theorem d_Model_joined_63 : decode prog_9_method_24_code 63 = .ok (.if_icmp .ne 12, 3) := by decide +kernel
theorem d_Model_joined_66 : decode prog_9_method_24_code 66 = .ok (.aload_n 0, 1) := by decide +kernel
theorem d_Model_joined_67 : decode prog_9_method_24_code 67 = .ok (.getfield 44, 3) := by decide +kernel
theorem d_Model_joined_70 : decode prog_9_method_24_code 70 = .ok (.iload_n 3, 1) := by decide +kernel
theorem d_Model_joined_71 : decode prog_9_method_24_code 71 = .ok (.iaload, 1) := by decide +kernel
theorem d_Model_joined_72 : decode prog_9_method_24_code 72 = .ok (.goto 4, 3) := by decide +kernel
theorem d_Model_joined_75 : decode prog_9_method_24_code 75 = .ok (.iconst 2, 1) := by decide +kernel
theorem d_Model_joined_76 : decode prog_9_method_24_code 76 = .ok (.istore_n 2, 1) := by decide +kernel
theorem d_Model_joined_77 : decode prog_9_method_24_code 77 = .ok (.iinc 3 1, 3) := by decide +kernel
theorem d_Model_joined_80 : decode prog_9_method_24_code 80 = .ok (.goto (-60), 3) := by decide +kernel
theorem d_Model_joined_83 : decode prog_9_method_24_code 83 = .ok (.iload_n 2, 1) := by decide +kernel
theorem d_Model_joined_84 : decode prog_9_method_24_code 84 = .ok (.ireturn, 1) := by decide +kernel
theorem d_Model_settle_0 : decode prog_9_method_25_code 0 = .ok (.iconst 0, 1) := by decide +kernel
theorem d_Model_settle_1 : decode prog_9_method_25_code 1 = .ok (.istore_n 1, 1) := by decide +kernel
theorem d_Model_settle_2 : decode prog_9_method_25_code 2 = .ok (.iload_n 1, 1) := by decide +kernel
theorem d_Model_settle_3 : decode prog_9_method_25_code 3 = .ok (.bipush 80, 2) := by decide +kernel
theorem d_Model_settle_5 : decode prog_9_method_25_code 5 = .ok (.if_icmp .ge 21, 3) := by decide +kernel
theorem d_Model_settle_8 : decode prog_9_method_25_code 8 = .ok (.aload_n 0, 1) := by decide +kernel
theorem d_Model_settle_9 : decode prog_9_method_25_code 9 = .ok (.getfield 17, 3) := by decide +kernel
theorem d_Model_settle_12 : decode prog_9_method_25_code 12 = .ok (.iload_n 1, 1) := by decide +kernel
theorem d_Model_settle_13 : decode prog_9_method_25_code 13 = .ok (.aload_n 0, 1) := by decide +kernel
theorem d_Model_settle_14 : decode prog_9_method_25_code 14 = .ok (.getfield 13, 3) := by decide +kernel
theorem d_Model_settle_17 : decode prog_9_method_25_code 17 = .ok (.iload_n 1, 1) := by decide +kernel
theorem d_Model_settle_18 : decode prog_9_method_25_code 18 = .ok (.iaload, 1) := by decide +kernel
theorem d_Model_settle_19 : decode prog_9_method_25_code 19 = .ok (.iastore, 1) := by decide +kernel
theorem d_Model_settle_20 : decode prog_9_method_25_code 20 = .ok (.iinc 1 1, 3) := by decide +kernel
theorem d_Model_settle_23 : decode prog_9_method_25_code 23 = .ok (.goto (-21), 3) := by decide +kernel
theorem d_Model_settle_26 : decode prog_9_method_25_code 26 = .ok (.iconst 1, 1) := by decide +kernel
theorem d_Model_settle_27 : decode prog_9_method_25_code 27 = .ok (.istore_n 1, 1) := by decide +kernel
theorem d_Model_settle_28 : decode prog_9_method_25_code 28 = .ok (.iconst 0, 1) := by decide +kernel
theorem d_Model_settle_29 : decode prog_9_method_25_code 29 = .ok (.istore_n 2, 1) := by decide +kernel
theorem d_Model_settle_30 : decode prog_9_method_25_code 30 = .ok (.iload_n 2, 1) := by decide +kernel
theorem d_Model_settle_31 : decode prog_9_method_25_code 31 = .ok (.bipush 90, 2) := by decide +kernel
theorem d_Model_settle_33 : decode prog_9_method_25_code 33 = .ok (.if_icmp .ge 86, 3) := by decide +kernel
theorem d_Model_settle_36 : decode prog_9_method_25_code 36 = .ok (.iload_n 1, 1) := by decide +kernel
theorem d_Model_settle_37 : decode prog_9_method_25_code 37 = .ok (.ifCond .eq 82, 3) := by decide +kernel
theorem d_Model_settle_40 : decode prog_9_method_25_code 40 = .ok (.iconst 0, 1) := by decide +kernel
theorem d_Model_settle_41 : decode prog_9_method_25_code 41 = .ok (.istore_n 1, 1) := by decide +kernel
theorem d_Model_settle_42 : decode prog_9_method_25_code 42 = .ok (.iconst 0, 1) := by decide +kernel
theorem d_Model_settle_43 : decode prog_9_method_25_code 43 = .ok (.istore_n 3, 1) := by decide +kernel
theorem d_Model_settle_44 : decode prog_9_method_25_code 44 = .ok (.iload_n 3, 1) := by decide +kernel
theorem d_Model_settle_45 : decode prog_9_method_25_code 45 = .ok (.aload_n 0, 1) := by decide +kernel
theorem d_Model_settle_46 : decode prog_9_method_25_code 46 = .ok (.getfield 86, 3) := by decide +kernel
theorem d_Model_settle_49 : decode prog_9_method_25_code 49 = .ok (.if_icmp .ge 20, 3) := by decide +kernel
theorem d_Model_settle_52 : decode prog_9_method_25_code 52 = .ok (.aload_n 0, 1) := by decide +kernel
theorem d_Model_settle_53 : decode prog_9_method_25_code 53 = .ok (.getfield 44, 3) := by decide +kernel
theorem d_Model_settle_56 : decode prog_9_method_25_code 56 = .ok (.iload_n 3, 1) := by decide +kernel
theorem d_Model_settle_57 : decode prog_9_method_25_code 57 = .ok (.aload_n 0, 1) := by decide +kernel
theorem d_Model_settle_58 : decode prog_9_method_25_code 58 = .ok (.iload_n 3, 1) := by decide +kernel
theorem d_Model_settle_59 : decode prog_9_method_25_code 59 = .ok (.invokevirtual 139, 3) := by decide +kernel
theorem d_Model_settle_62 : decode prog_9_method_25_code 62 = .ok (.iastore, 1) := by decide +kernel
theorem d_Model_settle_63 : decode prog_9_method_25_code 63 = .ok (.iinc 3 1, 3) := by decide +kernel
theorem d_Model_settle_66 : decode prog_9_method_25_code 66 = .ok (.goto (-22), 3) := by decide +kernel
theorem d_Model_settle_69 : decode prog_9_method_25_code 69 = .ok (.iconst 0, 1) := by decide +kernel
theorem d_Model_settle_70 : decode prog_9_method_25_code 70 = .ok (.istore_n 3, 1) := by decide +kernel
theorem d_Model_settle_71 : decode prog_9_method_25_code 71 = .ok (.iload_n 3, 1) := by decide +kernel
theorem d_Model_settle_72 : decode prog_9_method_25_code 72 = .ok (.aload_n 0, 1) := by decide +kernel
theorem d_Model_settle_73 : decode prog_9_method_25_code 73 = .ok (.getfield 7, 3) := by decide +kernel
theorem d_Model_settle_76 : decode prog_9_method_25_code 76 = .ok (.if_icmp .ge 37, 3) := by decide +kernel
theorem d_Model_settle_79 : decode prog_9_method_25_code 79 = .ok (.aload_n 0, 1) := by decide +kernel
theorem d_Model_settle_80 : decode prog_9_method_25_code 80 = .ok (.iload_n 3, 1) := by decide +kernel
theorem d_Model_settle_81 : decode prog_9_method_25_code 81 = .ok (.invokevirtual 142, 3) := by decide +kernel
theorem d_Model_settle_84 : decode prog_9_method_25_code 84 = .ok (.istore 4, 2) := by decide +kernel
theorem d_Model_settle_86 : decode prog_9_method_25_code 86 = .ok (.iload 4, 2) := by decide +kernel
theorem d_Model_settle_88 : decode prog_9_method_25_code 88 = .ok (.aload_n 0, 1) := by decide +kernel
theorem d_Model_settle_89 : decode prog_9_method_25_code 89 = .ok (.getfield 13, 3) := by decide +kernel
theorem d_Model_settle_92 : decode prog_9_method_25_code 92 = .ok (.iload_n 3, 1) := by decide +kernel
theorem d_Model_settle_93 : decode prog_9_method_25_code 93 = .ok (.iaload, 1) := by decide +kernel
theorem d_Model_settle_94 : decode prog_9_method_25_code 94 = .ok (.if_icmp .eq 5, 3) := by decide +kernel
theorem d_Model_settle_97 : decode prog_9_method_25_code 97 = .ok (.iconst 1, 1) := by decide +kernel
theorem d_Model_settle_98 : decode prog_9_method_25_code 98 = .ok (.istore_n 1, 1) := by decide +kernel
theorem d_Model_settle_99 : decode prog_9_method_25_code 99 = .ok (.aload_n 0, 1) := by decide +kernel
theorem d_Model_settle_100 : decode prog_9_method_25_code 100 = .ok (.getfield 13, 3) := by decide +kernel
theorem d_Model_settle_103 : decode prog_9_method_25_code 103 = .ok (.iload_n 3, 1) := by decide +kernel
theorem d_Model_settle_104 : decode prog_9_method_25_code 104 = .ok (.iload 4, 2) := by decide +kernel
theorem d_Model_settle_106 : decode prog_9_method_25_code 106 = .ok (.iastore, 1) := by decide +kernel
theorem d_Model_settle_107 : decode prog_9_method_25_code 107 = .ok (.iinc 3 1, 3) := by decide +kernel
theorem d_Model_settle_110 : decode prog_9_method_25_code 110 = .ok (.goto (-39), 3) := by decide +kernel
theorem d_Model_settle_113 : decode prog_9_method_25_code 113 = .ok (.iinc 2 1, 3) := by decide +kernel
theorem d_Model_settle_116 : decode prog_9_method_25_code 116 = .ok (.goto (-86), 3) := by decide +kernel
theorem d_Model_settle_119 : decode prog_9_method_25_code 119 = .ok (.iconst 0, 1) := by decide +kernel
theorem d_Model_settle_120 : decode prog_9_method_25_code 120 = .ok (.istore_n 2, 1) := by decide +kernel
theorem d_Model_settle_121 : decode prog_9_method_25_code 121 = .ok (.iload_n 2, 1) := by decide +kernel
theorem d_Model_settle_122 : decode prog_9_method_25_code 122 = .ok (.aload_n 0, 1) := by decide +kernel
theorem d_Model_settle_123 : decode prog_9_method_25_code 123 = .ok (.getfield 86, 3) := by decide +kernel
theorem d_Model_settle_126 : decode prog_9_method_25_code 126 = .ok (.if_icmp .ge 32, 3) := by decide +kernel
theorem d_Model_settle_129 : decode prog_9_method_25_code 129 = .ok (.aload_n 0, 1) := by decide +kernel
theorem d_Model_settle_130 : decode prog_9_method_25_code 130 = .ok (.getfield 26, 3) := by decide +kernel
theorem d_Model_settle_133 : decode prog_9_method_25_code 133 = .ok (.iload_n 2, 1) := by decide +kernel
theorem d_Model_settle_134 : decode prog_9_method_25_code 134 = .ok (.iaload, 1) := by decide +kernel
theorem d_Model_settle_135 : decode prog_9_method_25_code 135 = .ok (.bipush 7, 2) := by decide +kernel
theorem d_Model_settle_137 : decode prog_9_method_25_code 137 = .ok (.if_icmp .ne 15, 3) := by decide +kernel
theorem d_Model_settle_140 : decode prog_9_method_25_code 140 = .ok (.aload_n 0, 1) := by decide +kernel
theorem d_Model_settle_141 : decode prog_9_method_25_code 141 = .ok (.getfield 41, 3) := by decide +kernel
theorem d_Model_settle_144 : decode prog_9_method_25_code 144 = .ok (.iload_n 2, 1) := by decide +kernel
theorem d_Model_settle_145 : decode prog_9_method_25_code 145 = .ok (.aload_n 0, 1) := by decide +kernel
theorem d_Model_settle_146 : decode prog_9_method_25_code 146 = .ok (.getfield 44, 3) := by decide +kernel
theorem d_Model_settle_149 : decode prog_9_method_25_code 149 = .ok (.iload_n 2, 1) := by decide +kernel
theorem d_Model_settle_150 : decode prog_9_method_25_code 150 = .ok (.iaload, 1) := by decide +kernel
theorem d_Model_settle_151 : decode prog_9_method_25_code 151 = .ok (.iastore, 1) := by decide +kernel
theorem d_Model_settle_152 : decode prog_9_method_25_code 152 = .ok (.iinc 2 1, 3) := by decide +kernel
theorem d_Model_settle_155 : decode prog_9_method_25_code 155 = .ok (.goto (-34), 3) := by decide +kernel
theorem d_Model_settle_158 : decode prog_9_method_25_code 158 = .ok (.iconst 0, 1) := by decide +kernel
theorem d_Model_settle_159 : decode prog_9_method_25_code 159 = .ok (.istore_n 2, 1) := by decide +kernel
theorem d_Model_settle_160 : decode prog_9_method_25_code 160 = .ok (.iload_n 2, 1) := by decide +kernel
theorem d_Model_settle_161 : decode prog_9_method_25_code 161 = .ok (.aload_n 0, 1) := by decide +kernel
theorem d_Model_settle_162 : decode prog_9_method_25_code 162 = .ok (.getfield 7, 3) := by decide +kernel
theorem d_Model_settle_165 : decode prog_9_method_25_code 165 = .ok (.if_icmp .ge 51, 3) := by decide +kernel
theorem d_Model_settle_168 : decode prog_9_method_25_code 168 = .ok (.aload_n 0, 1) := by decide +kernel
theorem d_Model_settle_169 : decode prog_9_method_25_code 169 = .ok (.getfield 17, 3) := by decide +kernel
theorem d_Model_settle_172 : decode prog_9_method_25_code 172 = .ok (.iload_n 2, 1) := by decide +kernel
theorem d_Model_settle_173 : decode prog_9_method_25_code 173 = .ok (.iaload, 1) := by decide +kernel
theorem d_Model_settle_174 : decode prog_9_method_25_code 174 = .ok (.aload_n 0, 1) := by decide +kernel
theorem d_Model_settle_175 : decode prog_9_method_25_code 175 = .ok (.getfield 13, 3) := by decide +kernel
theorem d_Model_settle_178 : decode prog_9_method_25_code 178 = .ok (.iload_n 2, 1) := by decide +kernel
theorem d_Model_settle_179 : decode prog_9_method_25_code 179 = .ok (.iaload, 1) := by decide +kernel
theorem d_Model_settle_180 : decode prog_9_method_25_code 180 = .ok (.iadd, 1) := by decide +kernel
theorem d_Model_settle_181 : decode prog_9_method_25_code 181 = .ok (.iconst 1, 1) := by decide +kernel
theorem d_Model_settle_182 : decode prog_9_method_25_code 182 = .ok (.if_icmp .ne 28, 3) := by decide +kernel
theorem d_Model_settle_185 : decode prog_9_method_25_code 185 = .ok (.aload_n 0, 1) := by decide +kernel
theorem d_Model_settle_186 : decode prog_9_method_25_code 186 = .ok (.getfield 17, 3) := by decide +kernel
theorem d_Model_settle_189 : decode prog_9_method_25_code 189 = .ok (.iload_n 2, 1) := by decide +kernel
theorem d_Model_settle_190 : decode prog_9_method_25_code 190 = .ok (.iaload, 1) := by decide +kernel
theorem d_Model_settle_191 : decode prog_9_method_25_code 191 = .ok (.aload_n 0, 1) := by decide +kernel
theorem d_Model_settle_192 : decode prog_9_method_25_code 192 = .ok (.getfield 13, 3) := by decide +kernel
theorem d_Model_settle_195 : decode prog_9_method_25_code 195 = .ok (.iload_n 2, 1) := by decide +kernel
theorem d_Model_settle_196 : decode prog_9_method_25_code 196 = .ok (.iaload, 1) := by decide +kernel
theorem d_Model_settle_197 : decode prog_9_method_25_code 197 = .ok (.if_icmp .eq 13, 3) := by decide +kernel
theorem d_Model_settle_200 : decode prog_9_method_25_code 200 = .ok (.aload_n 0, 1) := by decide +kernel
theorem d_Model_settle_201 : decode prog_9_method_25_code 201 = .ok (.getfield 23, 3) := by decide +kernel
theorem d_Model_settle_204 : decode prog_9_method_25_code 204 = .ok (.iload_n 2, 1) := by decide +kernel
theorem d_Model_settle_205 : decode prog_9_method_25_code 205 = .ok (.dup2, 1) := by decide +kernel
theorem d_Model_settle_206 : decode prog_9_method_25_code 206 = .ok (.iaload, 1) := by decide +kernel
theorem d_Model_settle_207 : decode prog_9_method_25_code 207 = .ok (.iconst 1, 1) := by decide +kernel
theorem d_Model_settle_208 : decode prog_9_method_25_code 208 = .ok (.iadd, 1) := by decide +kernel
theorem d_Model_settle_209 : decode prog_9_method_25_code 209 = .ok (.iastore, 1) := by decide +kernel
theorem d_Model_settle_210 : decode prog_9_method_25_code 210 = .ok (.iinc 2 1, 3) := by decide +kernel
theorem d_Model_settle_213 : decode prog_9_method_25_code 213 = .ok (.goto (-53), 3) := by decide +kernel
theorem d_Model_settle_216 : decode prog_9_method_25_code 216 = .ok (.aload_n 0, 1) := by decide +kernel
theorem d_Model_settle_217 : decode prog_9_method_25_code 217 = .ok (.dup, 1) := by decide +kernel
theorem d_Model_settle_218 : decode prog_9_method_25_code 218 = .ok (.getfield 145, 3) := by decide +kernel
theorem d_Model_settle_221 : decode prog_9_method_25_code 221 = .ok (.iconst 1, 1) := by decide +kernel
theorem d_Model_settle_222 : decode prog_9_method_25_code 222 = .ok (.iadd, 1) := by decide +kernel
theorem d_Model_settle_223 : decode prog_9_method_25_code 223 = .ok (.putfield 145, 3) := by decide +kernel
theorem d_Model_settle_226 : decode prog_9_method_25_code 226 = .ok (.return_, 1) := by decide +kernel
theorem d_Model_build_0 : decode prog_9_method_26_code 0 = .ok (.aload_n 0, 1) := by decide +kernel
theorem d_Model_build_1 : decode prog_9_method_26_code 1 = .ok (.iconst 0, 1) := by decide +kernel
theorem d_Model_build_2 : decode prog_9_method_26_code 2 = .ok (.putfield 75, 3) := by decide +kernel
theorem d_Model_build_5 : decode prog_9_method_26_code 5 = .ok (.aload_n 0, 1) := by decide +kernel
theorem d_Model_build_6 : decode prog_9_method_26_code 6 = .ok (.invokevirtual 148, 3) := by decide +kernel
theorem d_Model_build_9 : decode prog_9_method_26_code 9 = .ok (.ifCond .lt 9, 3) := by decide +kernel
theorem d_Model_build_12 : decode prog_9_method_26_code 12 = .ok (.aload_n 0, 1) := by decide +kernel
theorem d_Model_build_13 : decode prog_9_method_26_code 13 = .ok (.iconst 1, 1) := by decide +kernel
theorem d_Model_build_14 : decode prog_9_method_26_code 14 = .ok (.invokevirtual 97, 3) := by decide +kernel
theorem d_Model_build_17 : decode prog_9_method_26_code 17 = .ok (.ireturn, 1) := by decide +kernel
theorem d_Model_build_18 : decode prog_9_method_26_code 18 = .ok (.aload_n 0, 1) := by decide +kernel
theorem d_Model_build_19 : decode prog_9_method_26_code 19 = .ok (.iconst (-1), 1) := by decide +kernel
theorem d_Model_build_20 : decode prog_9_method_26_code 20 = .ok (.invokevirtual 152, 3) := by decide +kernel
theorem d_Model_build_23 : decode prog_9_method_26_code 23 = .ok (.istore_n 1, 1) := by decide +kernel
theorem d_Model_build_24 : decode prog_9_method_26_code 24 = .ok (.iload_n 1, 1) := by decide +kernel
theorem d_Model_build_25 : decode prog_9_method_26_code 25 = .ok (.bipush 30, 2) := by decide +kernel
theorem d_Model_build_27 : decode prog_9_method_26_code 27 = .ok (.if_icmp .le 9, 3) := by decide +kernel
theorem d_Model_build_30 : decode prog_9_method_26_code 30 = .ok (.aload_n 0, 1) := by decide +kernel
theorem d_Model_build_31 : decode prog_9_method_26_code 31 = .ok (.iconst 1, 1) := by decide +kernel
theorem d_Model_build_32 : decode prog_9_method_26_code 32 = .ok (.invokevirtual 97, 3) := by decide +kernel
theorem d_Model_build_35 : decode prog_9_method_26_code 35 = .ok (.ireturn, 1) := by decide +kernel
theorem d_Model_build_36 : decode prog_9_method_26_code 36 = .ok (.aload_n 0, 1) := by decide +kernel
theorem d_Model_build_37 : decode prog_9_method_26_code 37 = .ok (.getfield 89, 3) := by decide +kernel
theorem d_Model_build_40 : decode prog_9_method_26_code 40 = .ok (.ifCond .ne 12, 3) := by decide +kernel
theorem d_Model_build_43 : decode prog_9_method_26_code 43 = .ok (.aload_n 0, 1) := by decide +kernel
theorem d_Model_build_44 : decode prog_9_method_26_code 44 = .ok (.iconst 1, 1) := by decide +kernel
theorem d_Model_build_45 : decode prog_9_method_26_code 45 = .ok (.putfield 89, 3) := by decide +kernel
theorem d_Model_build_48 : decode prog_9_method_26_code 48 = .ok (.aload_n 0, 1) := by decide +kernel
theorem d_Model_build_49 : decode prog_9_method_26_code 49 = .ok (.invokevirtual 155, 3) := by decide +kernel
theorem d_Model_build_52 : decode prog_9_method_26_code 52 = .ok (.iload_n 1, 1) := by decide +kernel
theorem d_Model_build_53 : decode prog_9_method_26_code 53 = .ok (.ireturn, 1) := by decide +kernel
theorem d_Model_loop_0 : decode prog_9_method_27_code 0 = .ok (.aload_n 0, 1) := by decide +kernel
theorem d_Model_loop_1 : decode prog_9_method_27_code 1 = .ok (.iconst 0, 1) := by decide +kernel
theorem d_Model_loop_2 : decode prog_9_method_27_code 2 = .ok (.putfield 75, 3) := by decide +kernel
theorem d_Model_loop_5 : decode prog_9_method_27_code 5 = .ok (.aload_n 0, 1) := by decide +kernel
theorem d_Model_loop_6 : decode prog_9_method_27_code 6 = .ok (.invokevirtual 148, 3) := by decide +kernel
theorem d_Model_loop_9 : decode prog_9_method_27_code 9 = .ok (.istore_n 1, 1) := by decide +kernel
theorem d_Model_loop_10 : decode prog_9_method_27_code 10 = .ok (.iload_n 1, 1) := by decide +kernel
theorem d_Model_loop_11 : decode prog_9_method_27_code 11 = .ok (.ifCond .ge 11, 3) := by decide +kernel
theorem d_Model_loop_14 : decode prog_9_method_27_code 14 = .ok (.aload_n 0, 1) := by decide +kernel
theorem d_Model_loop_15 : decode prog_9_method_27_code 15 = .ok (.iconst 1, 1) := by decide +kernel
theorem d_Model_loop_16 : decode prog_9_method_27_code 16 = .ok (.invokevirtual 97, 3) := by decide +kernel
theorem d_Model_loop_19 : decode prog_9_method_27_code 19 = .ok (.goto 4, 3) := by decide +kernel
theorem d_Model_loop_22 : decode prog_9_method_27_code 22 = .ok (.iload_n 1, 1) := by decide +kernel
theorem d_Model_loop_23 : decode prog_9_method_27_code 23 = .ok (.ireturn, 1) := by decide +kernel
theorem d_Model_set_0 : decode prog_9_method_28_code 0 = .ok (.aload_n 0, 1) := by decide +kernel
theorem d_Model_set_1 : decode prog_9_method_28_code 1 = .ok (.iconst 0, 1) := by decide +kernel
theorem d_Model_set_2 : decode prog_9_method_28_code 2 = .ok (.putfield 75, 3) := by decide +kernel
theorem d_Model_set_5 : decode prog_9_method_28_code 5 = .ok (.iload_n 1, 1) := by decide +kernel
theorem d_Model_set_6 : decode prog_9_method_28_code 6 = .ok (.iconst 0, 1) := by decide +kernel
theorem d_Model_set_7 : decode prog_9_method_28_code 7 = .ok (.aload_n 0, 1) := by decide +kernel
theorem d_Model_set_8 : decode prog_9_method_28_code 8 = .ok (.getfield 86, 3) := by decide +kernel
theorem d_Model_set_11 : decode prog_9_method_28_code 11 = .ok (.iconst 1, 1) := by decide +kernel
theorem d_Model_set_12 : decode prog_9_method_28_code 12 = .ok (.isub, 1) := by decide +kernel
theorem d_Model_set_13 : decode prog_9_method_28_code 13 = .ok (.invokestatic 82, 3) := by decide +kernel
theorem d_Model_set_16 : decode prog_9_method_28_code 16 = .ok (.ifCond .eq 12, 3) := by decide +kernel
theorem d_Model_set_19 : decode prog_9_method_28_code 19 = .ok (.aload_n 0, 1) := by decide +kernel
theorem d_Model_set_20 : decode prog_9_method_28_code 20 = .ok (.getfield 26, 3) := by decide +kernel
theorem d_Model_set_23 : decode prog_9_method_28_code 23 = .ok (.iload_n 1, 1) := by decide +kernel
theorem d_Model_set_24 : decode prog_9_method_28_code 24 = .ok (.iaload, 1) := by decide +kernel
theorem d_Model_set_25 : decode prog_9_method_28_code 25 = .ok (.ifCond .eq 9, 3) := by decide +kernel
theorem d_Model_set_28 : decode prog_9_method_28_code 28 = .ok (.aload_n 0, 1) := by decide +kernel
theorem d_Model_set_29 : decode prog_9_method_28_code 29 = .ok (.iconst 1, 1) := by decide +kernel
theorem d_Model_set_30 : decode prog_9_method_28_code 30 = .ok (.invokevirtual 97, 3) := by decide +kernel
theorem d_Model_set_33 : decode prog_9_method_28_code 33 = .ok (.ireturn, 1) := by decide +kernel
theorem d_Model_set_34 : decode prog_9_method_28_code 34 = .ok (.iload_n 2, 1) := by decide +kernel
theorem d_Model_set_35 : decode prog_9_method_28_code 35 = .ok (.iconst 0, 1) := by decide +kernel
theorem d_Model_set_36 : decode prog_9_method_28_code 36 = .ok (.iconst 3, 1) := by decide +kernel
theorem d_Model_set_37 : decode prog_9_method_28_code 37 = .ok (.invokestatic 82, 3) := by decide +kernel
theorem d_Model_set_40 : decode prog_9_method_28_code 40 = .ok (.ifCond .ne 9, 3) := by decide +kernel
theorem d_Model_set_43 : decode prog_9_method_28_code 43 = .ok (.aload_n 0, 1) := by decide +kernel
theorem d_Model_set_44 : decode prog_9_method_28_code 44 = .ok (.iconst 2, 1) := by decide +kernel
theorem d_Model_set_45 : decode prog_9_method_28_code 45 = .ok (.invokevirtual 97, 3) := by decide +kernel
theorem d_Model_set_48 : decode prog_9_method_28_code 48 = .ok (.ireturn, 1) := by decide +kernel
theorem d_Model_set_49 : decode prog_9_method_28_code 49 = .ok (.aload_n 0, 1) := by decide +kernel
theorem d_Model_set_50 : decode prog_9_method_28_code 50 = .ok (.getfield 89, 3) := by decide +kernel
theorem d_Model_set_53 : decode prog_9_method_28_code 53 = .ok (.ifCond .ne 9, 3) := by decide +kernel
theorem d_Model_set_56 : decode prog_9_method_28_code 56 = .ok (.aload_n 0, 1) := by decide +kernel
theorem d_Model_set_57 : decode prog_9_method_28_code 57 = .ok (.iconst 3, 1) := by decide +kernel
theorem d_Model_set_58 : decode prog_9_method_28_code 58 = .ok (.invokevirtual 97, 3) := by decide +kernel
theorem d_Model_set_61 : decode prog_9_method_28_code 61 = .ok (.ireturn, 1) := by decide +kernel
theorem d_Model_set_62 : decode prog_9_method_28_code 62 = .ok (.aload_n 0, 1) := by decide +kernel
theorem d_Model_set_63 : decode prog_9_method_28_code 63 = .ok (.getfield 41, 3) := by decide +kernel
theorem d_Model_set_66 : decode prog_9_method_28_code 66 = .ok (.iload_n 1, 1) := by decide +kernel
theorem d_Model_set_67 : decode prog_9_method_28_code 67 = .ok (.iload_n 2, 1) := by decide +kernel
theorem d_Model_set_68 : decode prog_9_method_28_code 68 = .ok (.iastore, 1) := by decide +kernel
theorem d_Model_set_69 : decode prog_9_method_28_code 69 = .ok (.aload_n 0, 1) := by decide +kernel
theorem d_Model_set_70 : decode prog_9_method_28_code 70 = .ok (.invokevirtual 155, 3) := by decide +kernel
theorem d_Model_set_73 : decode prog_9_method_28_code 73 = .ok (.aload_n 0, 1) := by decide +kernel
theorem d_Model_set_74 : decode prog_9_method_28_code 74 = .ok (.getfield 13, 3) := by decide +kernel
theorem d_Model_set_77 : decode prog_9_method_28_code 77 = .ok (.aload_n 0, 1) := by decide +kernel
theorem d_Model_set_78 : decode prog_9_method_28_code 78 = .ok (.getfield 29, 3) := by decide +kernel
theorem d_Model_set_81 : decode prog_9_method_28_code 81 = .ok (.iload_n 1, 1) := by decide +kernel
theorem d_Model_set_82 : decode prog_9_method_28_code 82 = .ok (.iaload, 1) := by decide +kernel
theorem d_Model_set_83 : decode prog_9_method_28_code 83 = .ok (.iaload, 1) := by decide +kernel
theorem d_Model_set_84 : decode prog_9_method_28_code 84 = .ok (.ireturn, 1) := by decide +kernel
theorem d_Model_tick_0 : decode prog_9_method_29_code 0 = .ok (.aload_n 0, 1) := by decide +kernel
theorem d_Model_tick_1 : decode prog_9_method_29_code 1 = .ok (.iconst 0, 1) := by decide +kernel
theorem d_Model_tick_2 : decode prog_9_method_29_code 2 = .ok (.putfield 75, 3) := by decide +kernel
theorem d_Model_tick_5 : decode prog_9_method_29_code 5 = .ok (.iload_n 1, 1) := by decide +kernel
theorem d_Model_tick_6 : decode prog_9_method_29_code 6 = .ok (.iconst 0, 1) := by decide +kernel
theorem d_Model_tick_7 : decode prog_9_method_29_code 7 = .ok (.iconst 1, 1) := by decide +kernel
theorem d_Model_tick_8 : decode prog_9_method_29_code 8 = .ok (.invokestatic 82, 3) := by decide +kernel
theorem d_Model_tick_11 : decode prog_9_method_29_code 11 = .ok (.ifCond .ne 9, 3) := by decide +kernel
theorem d_Model_tick_14 : decode prog_9_method_29_code 14 = .ok (.aload_n 0, 1) := by decide +kernel
theorem d_Model_tick_15 : decode prog_9_method_29_code 15 = .ok (.iconst 1, 1) := by decide +kernel
theorem d_Model_tick_16 : decode prog_9_method_29_code 16 = .ok (.invokevirtual 97, 3) := by decide +kernel
theorem d_Model_tick_19 : decode prog_9_method_29_code 19 = .ok (.ireturn, 1) := by decide +kernel
theorem d_Model_tick_20 : decode prog_9_method_29_code 20 = .ok (.aload_n 0, 1) := by decide +kernel
theorem d_Model_tick_21 : decode prog_9_method_29_code 21 = .ok (.getfield 89, 3) := by decide +kernel
theorem d_Model_tick_24 : decode prog_9_method_29_code 24 = .ok (.ifCond .ne 9, 3) := by decide +kernel
theorem d_Model_tick_27 : decode prog_9_method_29_code 27 = .ok (.aload_n 0, 1) := by decide +kernel
theorem d_Model_tick_28 : decode prog_9_method_29_code 28 = .ok (.iconst 2, 1) := by decide +kernel
theorem d_Model_tick_29 : decode prog_9_method_29_code 29 = .ok (.invokevirtual 97, 3) := by decide +kernel
theorem d_Model_tick_32 : decode prog_9_method_29_code 32 = .ok (.ireturn, 1) := by decide +kernel
theorem d_Model_tick_33 : decode prog_9_method_29_code 33 = .ok (.iconst 0, 1) := by decide +kernel
theorem d_Model_tick_34 : decode prog_9_method_29_code 34 = .ok (.istore_n 2, 1) := by decide +kernel
theorem d_Model_tick_35 : decode prog_9_method_29_code 35 = .ok (.iconst 0, 1) := by decide +kernel
theorem d_Model_tick_36 : decode prog_9_method_29_code 36 = .ok (.istore_n 3, 1) := by decide +kernel
theorem d_Model_tick_37 : decode prog_9_method_29_code 37 = .ok (.iload_n 3, 1) := by decide +kernel
theorem d_Model_tick_38 : decode prog_9_method_29_code 38 = .ok (.aload_n 0, 1) := by decide +kernel
theorem d_Model_tick_39 : decode prog_9_method_29_code 39 = .ok (.getfield 86, 3) := by decide +kernel
theorem d_Model_tick_42 : decode prog_9_method_29_code 42 = .ok (.if_icmp .ge 67, 3) := by decide +kernel
theorem d_Model_tick_45 : decode prog_9_method_29_code 45 = .ok (.aload_n 0, 1) := by decide +kernel
theorem d_Model_tick_46 : decode prog_9_method_29_code 46 = .ok (.getfield 26, 3) := by decide +kernel
theorem d_Model_tick_49 : decode prog_9_method_29_code 49 = .ok (.iload_n 3, 1) := by decide +kernel
theorem d_Model_tick_50 : decode prog_9_method_29_code 50 = .ok (.iaload, 1) := by decide +kernel
theorem d_Model_tick_51 : decode prog_9_method_29_code 51 = .ok (.bipush 8, 2) := by decide +kernel
theorem d_Model_tick_53 : decode prog_9_method_29_code 53 = .ok (.if_icmp .ne 50, 3) := by decide +kernel
theorem d_Model_tick_56 : decode prog_9_method_29_code 56 = .ok (.aload_n 0, 1) := by decide +kernel
theorem d_Model_tick_57 : decode prog_9_method_29_code 57 = .ok (.getfield 35, 3) := by decide +kernel
theorem d_Model_tick_60 : decode prog_9_method_29_code 60 = .ok (.iload_n 3, 1) := by decide +kernel
theorem d_Model_tick_61 : decode prog_9_method_29_code 61 = .ok (.iaload, 1) := by decide +kernel
theorem d_Model_tick_62 : decode prog_9_method_29_code 62 = .ok (.iload_n 1, 1) := by decide +kernel
theorem d_Model_tick_63 : decode prog_9_method_29_code 63 = .ok (.if_icmp .eq 6, 3) := by decide +kernel
theorem d_Model_tick_66 : decode prog_9_method_29_code 66 = .ok (.goto 37, 3) := by decide +kernel
theorem d_Model_tick_69 : decode prog_9_method_29_code 69 = .ok (.aload_n 0, 1) := by decide +kernel
theorem d_Model_tick_70 : decode prog_9_method_29_code 70 = .ok (.aload_n 0, 1) := by decide +kernel
theorem d_Model_tick_71 : decode prog_9_method_29_code 71 = .ok (.getfield 32, 3) := by decide +kernel
theorem d_Model_tick_74 : decode prog_9_method_29_code 74 = .ok (.iload_n 3, 1) := by decide +kernel
theorem d_Model_tick_75 : decode prog_9_method_29_code 75 = .ok (.iaload, 1) := by decide +kernel
theorem d_Model_tick_76 : decode prog_9_method_29_code 76 = .ok (.invokevirtual 132, 3) := by decide +kernel
theorem d_Model_tick_79 : decode prog_9_method_29_code 79 = .ok (.istore 4, 2) := by decide +kernel
theorem d_Model_tick_81 : decode prog_9_method_29_code 81 = .ok (.iload 4, 2) := by decide +kernel
theorem d_Model_tick_83 : decode prog_9_method_29_code 83 = .ok (.aload_n 0, 1) := by decide +kernel
theorem d_Model_tick_84 : decode prog_9_method_29_code 84 = .ok (.getfield 41, 3) := by decide +kernel
theorem d_Model_tick_87 : decode prog_9_method_29_code 87 = .ok (.iload_n 3, 1) := by decide +kernel
theorem d_Model_tick_88 : decode prog_9_method_29_code 88 = .ok (.iaload, 1) := by decide +kernel
theorem d_Model_tick_89 : decode prog_9_method_29_code 89 = .ok (.if_icmp .eq 6, 3) := by decide +kernel
theorem d_Model_tick_92 : decode prog_9_method_29_code 92 = .ok (.iinc 2 1, 3) := by decide +kernel
theorem d_Model_tick_95 : decode prog_9_method_29_code 95 = .ok (.aload_n 0, 1) := by decide +kernel
theorem d_Model_tick_96 : decode prog_9_method_29_code 96 = .ok (.getfield 41, 3) := by decide +kernel
theorem d_Model_tick_99 : decode prog_9_method_29_code 99 = .ok (.iload_n 3, 1) := by decide +kernel
theorem d_Model_tick_100 : decode prog_9_method_29_code 100 = .ok (.iload 4, 2) := by decide +kernel
theorem d_Model_tick_102 : decode prog_9_method_29_code 102 = .ok (.iastore, 1) := by decide +kernel
theorem d_Model_tick_103 : decode prog_9_method_29_code 103 = .ok (.iinc 3 1, 3) := by decide +kernel
theorem d_Model_tick_106 : decode prog_9_method_29_code 106 = .ok (.goto (-69), 3) := by decide +kernel
theorem d_Model_tick_109 : decode prog_9_method_29_code 109 = .ok (.aload_n 0, 1) := by decide +kernel
theorem d_Model_tick_110 : decode prog_9_method_29_code 110 = .ok (.invokevirtual 155, 3) := by decide +kernel
theorem d_Model_tick_113 : decode prog_9_method_29_code 113 = .ok (.iload_n 2, 1) := by decide +kernel
theorem d_Model_tick_114 : decode prog_9_method_29_code 114 = .ok (.ireturn, 1) := by decide +kernel
theorem d_Model_stick_0 : decode prog_9_method_30_code 0 = .ok (.aload_n 0, 1) := by decide +kernel
theorem d_Model_stick_1 : decode prog_9_method_30_code 1 = .ok (.iconst 0, 1) := by decide +kernel
theorem d_Model_stick_2 : decode prog_9_method_30_code 2 = .ok (.putfield 75, 3) := by decide +kernel
theorem d_Model_stick_5 : decode prog_9_method_30_code 5 = .ok (.iload_n 1, 1) := by decide +kernel
theorem d_Model_stick_6 : decode prog_9_method_30_code 6 = .ok (.iconst 0, 1) := by decide +kernel
theorem d_Model_stick_7 : decode prog_9_method_30_code 7 = .ok (.aload_n 0, 1) := by decide +kernel
theorem d_Model_stick_8 : decode prog_9_method_30_code 8 = .ok (.getfield 7, 3) := by decide +kernel
theorem d_Model_stick_11 : decode prog_9_method_30_code 11 = .ok (.iconst 1, 1) := by decide +kernel
theorem d_Model_stick_12 : decode prog_9_method_30_code 12 = .ok (.isub, 1) := by decide +kernel
theorem d_Model_stick_13 : decode prog_9_method_30_code 13 = .ok (.invokestatic 82, 3) := by decide +kernel
