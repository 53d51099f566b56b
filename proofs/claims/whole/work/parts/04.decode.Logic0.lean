theorem d_Logic_asInput_0 : decode prog_5_method_2_code 0 = .ok (.iload_n 0, 1) := by decide +kernel
theorem d_Logic_asInput_1 : decode prog_5_method_2_code 1 = .ok (.iconst 3, 1) := by decide +kernel
theorem d_Logic_asInput_2 : decode prog_5_method_2_code 2 = .ok (.if_icmp .ne 7, 3) := by decide +kernel
theorem d_Logic_asInput_5 : decode prog_5_method_2_code 5 = .ok (.iconst 2, 1) := by decide +kernel
theorem d_Logic_asInput_6 : decode prog_5_method_2_code 6 = .ok (.goto 4, 3) := by decide +kernel
theorem d_Logic_asInput_9 : decode prog_5_method_2_code 9 = .ok (.iload_n 0, 1) := by decide +kernel
theorem d_Logic_asInput_10 : decode prog_5_method_2_code 10 = .ok (.ireturn, 1) := by decide +kernel
theorem d_Logic_not_0 : decode prog_5_method_3_code 0 = .ok (.iload_n 0, 1) := by decide +kernel
theorem d_Logic_not_1 : decode prog_5_method_3_code 1 = .ok (.iconst 2, 1) := by decide +kernel
theorem d_Logic_not_2 : decode prog_5_method_3_code 2 = .ok (.if_icmp .ne 7, 3) := by decide +kernel
theorem d_Logic_not_5 : decode prog_5_method_3_code 5 = .ok (.iconst 2, 1) := by decide +kernel
theorem d_Logic_not_6 : decode prog_5_method_3_code 6 = .ok (.goto 6, 3) := by decide +kernel
theorem d_Logic_not_9 : decode prog_5_method_3_code 9 = .ok (.iconst 1, 1) := by decide +kernel
theorem d_Logic_not_10 : decode prog_5_method_3_code 10 = .ok (.iload_n 0, 1) := by decide +kernel
theorem d_Logic_not_11 : decode prog_5_method_3_code 11 = .ok (.isub, 1) := by decide +kernel
theorem d_Logic_not_12 : decode prog_5_method_3_code 12 = .ok (.ireturn, 1) := by decide +kernel
theorem d_Logic_and_0 : decode prog_5_method_4_code 0 = .ok (.iload_n 0, 1) := by decide +kernel
theorem d_Logic_and_1 : decode prog_5_method_4_code 1 = .ok (.ifCond .eq 7, 3) := by decide +kernel
theorem d_Logic_and_4 : decode prog_5_method_4_code 4 = .ok (.iload_n 1, 1) := by decide +kernel
theorem d_Logic_and_5 : decode prog_5_method_4_code 5 = .ok (.ifCond .ne 5, 3) := by decide +kernel
theorem d_Logic_and_8 : decode prog_5_method_4_code 8 = .ok (.iconst 0, 1) := by decide +kernel
theorem d_Logic_and_9 : decode prog_5_method_4_code 9 = .ok (.ireturn, 1) := by decide +kernel
theorem d_Logic_and_10 : decode prog_5_method_4_code 10 = .ok (.iload_n 0, 1) := by decide +kernel
theorem d_Logic_and_11 : decode prog_5_method_4_code 11 = .ok (.iconst 1, 1) := by decide +kernel
theorem d_Logic_and_12 : decode prog_5_method_4_code 12 = .ok (.if_icmp .ne 12, 3) := by decide +kernel
theorem d_Logic_and_15 : decode prog_5_method_4_code 15 = .ok (.iload_n 1, 1) := by decide +kernel
theorem d_Logic_and_16 : decode prog_5_method_4_code 16 = .ok (.iconst 1, 1) := by decide +kernel
theorem d_Logic_and_17 : decode prog_5_method_4_code 17 = .ok (.if_icmp .ne 7, 3) := by decide +kernel
theorem d_Logic_and_20 : decode prog_5_method_4_code 20 = .ok (.iconst 1, 1) := by decide +kernel
theorem d_Logic_and_21 : decode prog_5_method_4_code 21 = .ok (.goto 4, 3) := by decide +kernel
theorem d_Logic_and_24 : decode prog_5_method_4_code 24 = .ok (.iconst 2, 1) := by decide +kernel
theorem d_Logic_and_25 : decode prog_5_method_4_code 25 = .ok (.ireturn, 1) := by decide +kernel
theorem d_Logic_or_0 : decode prog_5_method_5_code 0 = .ok (.iload_n 0, 1) := by decide +kernel
theorem d_Logic_or_1 : decode prog_5_method_5_code 1 = .ok (.iconst 1, 1) := by decide +kernel
theorem d_Logic_or_2 : decode prog_5_method_5_code 2 = .ok (.if_icmp .eq 8, 3) := by decide +kernel
theorem d_Logic_or_5 : decode prog_5_method_5_code 5 = .ok (.iload_n 1, 1) := by decide +kernel
theorem d_Logic_or_6 : decode prog_5_method_5_code 6 = .ok (.iconst 1, 1) := by decide +kernel
theorem d_Logic_or_7 : decode prog_5_method_5_code 7 = .ok (.if_icmp .ne 5, 3) := by decide +kernel
theorem d_Logic_or_10 : decode prog_5_method_5_code 10 = .ok (.iconst 1, 1) := by decide +kernel
theorem d_Logic_or_11 : decode prog_5_method_5_code 11 = .ok (.ireturn, 1) := by decide +kernel
theorem d_Logic_or_12 : decode prog_5_method_5_code 12 = .ok (.iload_n 0, 1) := by decide +kernel
theorem d_Logic_or_13 : decode prog_5_method_5_code 13 = .ok (.ifCond .ne 11, 3) := by decide +kernel
theorem d_Logic_or_16 : decode prog_5_method_5_code 16 = .ok (.iload_n 1, 1) := by decide +kernel
theorem d_Logic_or_17 : decode prog_5_method_5_code 17 = .ok (.ifCond .ne 7, 3) := by decide +kernel
theorem d_Logic_or_20 : decode prog_5_method_5_code 20 = .ok (.iconst 0, 1) := by decide +kernel
theorem d_Logic_or_21 : decode prog_5_method_5_code 21 = .ok (.goto 4, 3) := by decide +kernel
theorem d_Logic_or_24 : decode prog_5_method_5_code 24 = .ok (.iconst 2, 1) := by decide +kernel
theorem d_Logic_or_25 : decode prog_5_method_5_code 25 = .ok (.ireturn, 1) := by decide +kernel
theorem d_Logic_xor_0 : decode prog_5_method_6_code 0 = .ok (.iload_n 0, 1) := by decide +kernel
theorem d_Logic_xor_1 : decode prog_5_method_6_code 1 = .ok (.iconst 2, 1) := by decide +kernel
theorem d_Logic_xor_2 : decode prog_5_method_6_code 2 = .ok (.if_icmp .eq 8, 3) := by decide +kernel
theorem d_Logic_xor_5 : decode prog_5_method_6_code 5 = .ok (.iload_n 1, 1) := by decide +kernel
theorem d_Logic_xor_6 : decode prog_5_method_6_code 6 = .ok (.iconst 2, 1) := by decide +kernel
theorem d_Logic_xor_7 : decode prog_5_method_6_code 7 = .ok (.if_icmp .ne 5, 3) := by decide +kernel
theorem d_Logic_xor_10 : decode prog_5_method_6_code 10 = .ok (.iconst 2, 1) := by decide +kernel
theorem d_Logic_xor_11 : decode prog_5_method_6_code 11 = .ok (.ireturn, 1) := by decide +kernel
theorem d_Logic_xor_12 : decode prog_5_method_6_code 12 = .ok (.iload_n 0, 1) := by decide +kernel
theorem d_Logic_xor_13 : decode prog_5_method_6_code 13 = .ok (.iload_n 1, 1) := by decide +kernel
theorem d_Logic_xor_14 : decode prog_5_method_6_code 14 = .ok (.if_icmp .ne 7, 3) := by decide +kernel
theorem d_Logic_xor_17 : decode prog_5_method_6_code 17 = .ok (.iconst 0, 1) := by decide +kernel
theorem d_Logic_xor_18 : decode prog_5_method_6_code 18 = .ok (.goto 4, 3) := by decide +kernel
theorem d_Logic_xor_21 : decode prog_5_method_6_code 21 = .ok (.iconst 1, 1) := by decide +kernel
theorem d_Logic_xor_22 : decode prog_5_method_6_code 22 = .ok (.ireturn, 1) := by decide +kernel
theorem d_Logic_mux_0 : decode prog_5_method_7_code 0 = .ok (.iload_n 2, 1) := by decide +kernel
theorem d_Logic_mux_1 : decode prog_5_method_7_code 1 = .ok (.iconst 2, 1) := by decide +kernel
theorem d_Logic_mux_2 : decode prog_5_method_7_code 2 = .ok (.if_icmp .ne 14, 3) := by decide +kernel
theorem d_Logic_mux_5 : decode prog_5_method_7_code 5 = .ok (.iload_n 0, 1) := by decide +kernel
theorem d_Logic_mux_6 : decode prog_5_method_7_code 6 = .ok (.iload_n 1, 1) := by decide +kernel
theorem d_Logic_mux_7 : decode prog_5_method_7_code 7 = .ok (.if_icmp .ne 7, 3) := by decide +kernel
theorem d_Logic_mux_10 : decode prog_5_method_7_code 10 = .ok (.iload_n 0, 1) := by decide +kernel
theorem d_Logic_mux_11 : decode prog_5_method_7_code 11 = .ok (.goto 4, 3) := by decide +kernel
theorem d_Logic_mux_14 : decode prog_5_method_7_code 14 = .ok (.iconst 2, 1) := by decide +kernel
theorem d_Logic_mux_15 : decode prog_5_method_7_code 15 = .ok (.ireturn, 1) := by decide +kernel
theorem d_Logic_mux_16 : decode prog_5_method_7_code 16 = .ok (.iload_n 2, 1) := by decide +kernel
theorem d_Logic_mux_17 : decode prog_5_method_7_code 17 = .ok (.ifCond .ne 7, 3) := by decide +kernel
theorem d_Logic_mux_20 : decode prog_5_method_7_code 20 = .ok (.iload_n 0, 1) := by decide +kernel
theorem d_Logic_mux_21 : decode prog_5_method_7_code 21 = .ok (.goto 4, 3) := by decide +kernel
theorem d_Logic_mux_24 : decode prog_5_method_7_code 24 = .ok (.iload_n 1, 1) := by decide +kernel
theorem d_Logic_mux_25 : decode prog_5_method_7_code 25 = .ok (.ireturn, 1) := by decide +kernel
theorem d_Logic_tri_0 : decode prog_5_method_8_code 0 = .ok (.iload_n 1, 1) := by decide +kernel
theorem d_Logic_tri_1 : decode prog_5_method_8_code 1 = .ok (.iconst 2, 1) := by decide +kernel
theorem d_Logic_tri_2 : decode prog_5_method_8_code 2 = .ok (.if_icmp .ne 5, 3) := by decide +kernel
theorem d_Logic_tri_5 : decode prog_5_method_8_code 5 = .ok (.iconst 2, 1) := by decide +kernel
theorem d_Logic_tri_6 : decode prog_5_method_8_code 6 = .ok (.ireturn, 1) := by decide +kernel
theorem d_Logic_tri_7 : decode prog_5_method_8_code 7 = .ok (.iload_n 1, 1) := by decide +kernel
theorem d_Logic_tri_8 : decode prog_5_method_8_code 8 = .ok (.iconst 1, 1) := by decide +kernel
theorem d_Logic_tri_9 : decode prog_5_method_8_code 9 = .ok (.if_icmp .ne 7, 3) := by decide +kernel
theorem d_Logic_tri_12 : decode prog_5_method_8_code 12 = .ok (.iload_n 0, 1) := by decide +kernel
theorem d_Logic_tri_13 : decode prog_5_method_8_code 13 = .ok (.goto 4, 3) := by decide +kernel
theorem d_Logic_tri_16 : decode prog_5_method_8_code 16 = .ok (.iconst 3, 1) := by decide +kernel
theorem d_Logic_tri_17 : decode prog_5_method_8_code 17 = .ok (.ireturn, 1) := by decide +kernel
theorem d_Logic_latch_0 : decode prog_5_method_9_code 0 = .ok (.iload_n 1, 1) := by decide +kernel
theorem d_Logic_latch_1 : decode prog_5_method_9_code 1 = .ok (.iconst 2, 1) := by decide +kernel
theorem d_Logic_latch_2 : decode prog_5_method_9_code 2 = .ok (.if_icmp .ne 14, 3) := by decide +kernel
theorem d_Logic_latch_5 : decode prog_5_method_9_code 5 = .ok (.iload_n 0, 1) := by decide +kernel
theorem d_Logic_latch_6 : decode prog_5_method_9_code 6 = .ok (.iload_n 2, 1) := by decide +kernel
theorem d_Logic_latch_7 : decode prog_5_method_9_code 7 = .ok (.if_icmp .ne 7, 3) := by decide +kernel
theorem d_Logic_latch_10 : decode prog_5_method_9_code 10 = .ok (.iload_n 0, 1) := by decide +kernel
theorem d_Logic_latch_11 : decode prog_5_method_9_code 11 = .ok (.goto 4, 3) := by decide +kernel
theorem d_Logic_latch_14 : decode prog_5_method_9_code 14 = .ok (.iconst 2, 1) := by decide +kernel
theorem d_Logic_latch_15 : decode prog_5_method_9_code 15 = .ok (.ireturn, 1) := by decide +kernel
theorem d_Logic_latch_16 : decode prog_5_method_9_code 16 = .ok (.iload_n 1, 1) := by decide +kernel
theorem d_Logic_latch_17 : decode prog_5_method_9_code 17 = .ok (.iconst 1, 1) := by decide +kernel
theorem d_Logic_latch_18 : decode prog_5_method_9_code 18 = .ok (.if_icmp .ne 7, 3) := by decide +kernel
theorem d_Logic_latch_21 : decode prog_5_method_9_code 21 = .ok (.iload_n 0, 1) := by decide +kernel
theorem d_Logic_latch_22 : decode prog_5_method_9_code 22 = .ok (.goto 4, 3) := by decide +kernel
theorem d_Logic_latch_25 : decode prog_5_method_9_code 25 = .ok (.iload_n 2, 1) := by decide +kernel
theorem d_Logic_latch_26 : decode prog_5_method_9_code 26 = .ok (.ireturn, 1) := by decide +kernel
theorem d_Logic_together_0 : decode prog_5_method_10_code 0 = .ok (.iload_n 0, 1) := by decide +kernel
theorem d_Logic_together_1 : decode prog_5_method_10_code 1 = .ok (.iconst 3, 1) := by decide +kernel
theorem d_Logic_together_2 : decode prog_5_method_10_code 2 = .ok (.if_icmp .ne 5, 3) := by decide +kernel
theorem d_Logic_together_5 : decode prog_5_method_10_code 5 = .ok (.iload_n 1, 1) := by decide +kernel
theorem d_Logic_together_6 : decode prog_5_method_10_code 6 = .ok (.ireturn, 1) := by decide +kernel
theorem d_Logic_together_7 : decode prog_5_method_10_code 7 = .ok (.iload_n 1, 1) := by decide +kernel
theorem d_Logic_together_8 : decode prog_5_method_10_code 8 = .ok (.iconst 3, 1) := by decide +kernel
theorem d_Logic_together_9 : decode prog_5_method_10_code 9 = .ok (.if_icmp .eq 8, 3) := by decide +kernel
theorem d_Logic_together_12 : decode prog_5_method_10_code 12 = .ok (.iload_n 1, 1) := by decide +kernel
theorem d_Logic_together_13 : decode prog_5_method_10_code 13 = .ok (.iload_n 0, 1) := by decide +kernel
theorem d_Logic_together_14 : decode prog_5_method_10_code 14 = .ok (.if_icmp .ne 7, 3) := by decide +kernel
theorem d_Logic_together_17 : decode prog_5_method_10_code 17 = .ok (.iload_n 0, 1) := by decide +kernel
theorem d_Logic_together_18 : decode prog_5_method_10_code 18 = .ok (.goto 4, 3) := by decide +kernel
theorem d_Logic_together_21 : decode prog_5_method_10_code 21 = .ok (.iconst 2, 1) := by decide +kernel
theorem d_Logic_together_22 : decode prog_5_method_10_code 22 = .ok (.ireturn, 1) := by decide +kernel
theorem d_Logic_turns_0 : decode prog_5_method_11_code 0 = .ok (.iload_n 0, 1) := by decide +kernel
theorem d_Logic_turns_1 : decode prog_5_method_11_code 1 = .ok (.ifCond .ne 8, 3) := by decide +kernel
theorem d_Logic_turns_4 : decode prog_5_method_11_code 4 = .ok (.iload_n 1, 1) := by decide +kernel
theorem d_Logic_turns_5 : decode prog_5_method_11_code 5 = .ok (.iconst 1, 1) := by decide +kernel
theorem d_Logic_turns_6 : decode prog_5_method_11_code 6 = .ok (.if_icmp .eq 12, 3) := by decide +kernel
theorem d_Logic_turns_9 : decode prog_5_method_11_code 9 = .ok (.iload_n 0, 1) := by decide +kernel
theorem d_Logic_turns_10 : decode prog_5_method_11_code 10 = .ok (.iconst 1, 1) := by decide +kernel
theorem d_Logic_turns_11 : decode prog_5_method_11_code 11 = .ok (.if_icmp .ne 11, 3) := by decide +kernel
theorem d_Logic_turns_14 : decode prog_5_method_11_code 14 = .ok (.iload_n 1, 1) := by decide +kernel
theorem d_Logic_turns_15 : decode prog_5_method_11_code 15 = .ok (.ifCond .ne 7, 3) := by decide +kernel
theorem d_Logic_turns_18 : decode prog_5_method_11_code 18 = .ok (.iconst 1, 1) := by decide +kernel
theorem d_Logic_turns_19 : decode prog_5_method_11_code 19 = .ok (.goto 4, 3) := by decide +kernel
theorem d_Logic_turns_22 : decode prog_5_method_11_code 22 = .ok (.iconst 0, 1) := by decide +kernel
theorem d_Logic_turns_23 : decode prog_5_method_11_code 23 = .ok (.ireturn, 1) := by decide +kernel
