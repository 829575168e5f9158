theorem d_Mo_startCode_0 : decode b_Mo_startCode 0 = .ok (.aload_n 0, 1) := by decide +kernel
theorem d_Mo_startCode_1 : decode b_Mo_startCode 1 = .ok (.getfield 59, 3) := by decide +kernel
theorem d_Mo_startCode_4 : decode b_Mo_startCode 4 = .ok (.iconst 3, 1) := by decide +kernel
theorem d_Mo_startCode_5 : decode b_Mo_startCode 5 = .ok (.if_icmp .ne 23, 3) := by decide +kernel
theorem d_Mo_startCode_8 : decode b_Mo_startCode 8 = .ok (.aload_n 0, 1) := by decide +kernel
theorem d_Mo_startCode_9 : decode b_Mo_startCode 9 = .ok (.aload_n 0, 1) := by decide +kernel
theorem d_Mo_startCode_10 : decode b_Mo_startCode 10 = .ok (.getfield 62, 3) := by decide +kernel
theorem d_Mo_startCode_13 : decode b_Mo_startCode 13 = .ok (.iconst 0, 1) := by decide +kernel
theorem d_Mo_startCode_14 : decode b_Mo_startCode 14 = .ok (.invokevirtual 65, 3) := by decide +kernel
theorem d_Mo_startCode_17 : decode b_Mo_startCode 17 = .ok (.ifCond .eq 7, 3) := by decide +kernel
theorem d_Mo_startCode_20 : decode b_Mo_startCode 20 = .ok (.iconst 1, 1) := by decide +kernel
theorem d_Mo_startCode_21 : decode b_Mo_startCode 21 = .ok (.goto 21, 3) := by decide +kernel
theorem d_Mo_startCode_24 : decode b_Mo_startCode 24 = .ok (.iconst 0, 1) := by decide +kernel
theorem d_Mo_startCode_25 : decode b_Mo_startCode 25 = .ok (.goto 17, 3) := by decide +kernel
theorem d_Mo_startCode_28 : decode b_Mo_startCode 28 = .ok (.aload_n 0, 1) := by decide +kernel
theorem d_Mo_startCode_29 : decode b_Mo_startCode 29 = .ok (.getfield 59, 3) := by decide +kernel
theorem d_Mo_startCode_32 : decode b_Mo_startCode 32 = .ok (.iconst 4, 1) := by decide +kernel
theorem d_Mo_startCode_33 : decode b_Mo_startCode 33 = .ok (.if_icmp .ne 8, 3) := by decide +kernel
theorem d_Mo_startCode_36 : decode b_Mo_startCode 36 = .ok (.bipush 64, 2) := by decide +kernel
theorem d_Mo_startCode_38 : decode b_Mo_startCode 38 = .ok (.goto 4, 3) := by decide +kernel
theorem d_Mo_startCode_41 : decode b_Mo_startCode 41 = .ok (.iconst 0, 1) := by decide +kernel
theorem d_Mo_startCode_42 : decode b_Mo_startCode 42 = .ok (.ireturn, 1) := by decide +kernel
theorem d_Mo_unite_0 : decode b_Mo_unite 0 = .ok (.aload_n 0, 1) := by decide +kernel
theorem d_Mo_unite_1 : decode b_Mo_unite 1 = .ok (.iconst 1, 1) := by decide +kernel
theorem d_Mo_unite_2 : decode b_Mo_unite 2 = .ok (.iload_n 1, 1) := by decide +kernel
theorem d_Mo_unite_3 : decode b_Mo_unite 3 = .ok (.iload_n 2, 1) := by decide +kernel
theorem d_Mo_unite_4 : decode b_Mo_unite 4 = .ok (.invokevirtual 108, 3) := by decide +kernel
theorem d_Mo_unite_7 : decode b_Mo_unite 7 = .ok (.ireturn, 1) := by decide +kernel
theorem d_Mo_both_0 : decode b_Mo_both 0 = .ok (.aload_n 0, 1) := by decide +kernel
theorem d_Mo_both_1 : decode b_Mo_both 1 = .ok (.iload_n 2, 1) := by decide +kernel
theorem d_Mo_both_2 : decode b_Mo_both 2 = .ok (.invokevirtual 105, 3) := by decide +kernel
theorem d_Mo_both_5 : decode b_Mo_both 5 = .ok (.ifCond .eq 21, 3) := by decide +kernel
theorem d_Mo_both_8 : decode b_Mo_both 8 = .ok (.aload_n 0, 1) := by decide +kernel
theorem d_Mo_both_9 : decode b_Mo_both 9 = .ok (.iload_n 3, 1) := by decide +kernel
theorem d_Mo_both_10 : decode b_Mo_both 10 = .ok (.invokevirtual 105, 3) := by decide +kernel
theorem d_Mo_both_13 : decode b_Mo_both 13 = .ok (.ifCond .eq 13, 3) := by decide +kernel
theorem d_Mo_both_16 : decode b_Mo_both 16 = .ok (.aload_n 0, 1) := by decide +kernel
theorem d_Mo_both_17 : decode b_Mo_both 17 = .ok (.iload_n 1, 1) := by decide +kernel
theorem d_Mo_both_18 : decode b_Mo_both 18 = .ok (.iload_n 2, 1) := by decide +kernel
theorem d_Mo_both_19 : decode b_Mo_both 19 = .ok (.iload_n 3, 1) := by decide +kernel
theorem d_Mo_both_20 : decode b_Mo_both 20 = .ok (.invokevirtual 102, 3) := by decide +kernel
theorem d_Mo_both_23 : decode b_Mo_both 23 = .ok (.goto 4, 3) := by decide +kernel
theorem d_Mo_both_26 : decode b_Mo_both 26 = .ok (.iconst (-1), 1) := by decide +kernel
theorem d_Mo_both_27 : decode b_Mo_both 27 = .ok (.ireturn, 1) := by decide +kernel
theorem d_Mo_isIn_0 : decode b_Mo_isIn 0 = .ok (.iload_n 1, 1) := by decide +kernel
theorem d_Mo_isIn_1 : decode b_Mo_isIn 1 = .ok (.ifCond .lt 15, 3) := by decide +kernel
theorem d_Mo_isIn_4 : decode b_Mo_isIn 4 = .ok (.iload_n 1, 1) := by decide +kernel
theorem d_Mo_isIn_5 : decode b_Mo_isIn 5 = .ok (.aload_n 0, 1) := by decide +kernel
theorem d_Mo_isIn_6 : decode b_Mo_isIn 6 = .ok (.getfield 51, 3) := by decide +kernel
theorem d_Mo_isIn_9 : decode b_Mo_isIn 9 = .ok (.if_icmp .ge 7, 3) := by decide +kernel
theorem d_Mo_isIn_12 : decode b_Mo_isIn 12 = .ok (.iconst 1, 1) := by decide +kernel
theorem d_Mo_isIn_13 : decode b_Mo_isIn 13 = .ok (.goto 4, 3) := by decide +kernel
theorem d_Mo_isIn_16 : decode b_Mo_isIn 16 = .ok (.iconst 0, 1) := by decide +kernel
theorem d_Mo_isIn_17 : decode b_Mo_isIn 17 = .ok (.ireturn, 1) := by decide +kernel
theorem d_Mo_meet_0 : decode b_Mo_meet 0 = .ok (.aload_n 0, 1) := by decide +kernel
theorem d_Mo_meet_1 : decode b_Mo_meet 1 = .ok (.iconst 2, 1) := by decide +kernel
theorem d_Mo_meet_2 : decode b_Mo_meet 2 = .ok (.iload_n 1, 1) := by decide +kernel
theorem d_Mo_meet_3 : decode b_Mo_meet 3 = .ok (.iload_n 2, 1) := by decide +kernel
theorem d_Mo_meet_4 : decode b_Mo_meet 4 = .ok (.invokevirtual 108, 3) := by decide +kernel
theorem d_Mo_meet_7 : decode b_Mo_meet 7 = .ok (.ireturn, 1) := by decide +kernel
theorem d_Mo_chain_0 : decode b_Mo_chain 0 = .ok (.aload_n 0, 1) := by decide +kernel
theorem d_Mo_chain_1 : decode b_Mo_chain 1 = .ok (.iconst 3, 1) := by decide +kernel
theorem d_Mo_chain_2 : decode b_Mo_chain 2 = .ok (.iload_n 1, 1) := by decide +kernel
theorem d_Mo_chain_3 : decode b_Mo_chain 3 = .ok (.iload_n 2, 1) := by decide +kernel
theorem d_Mo_chain_4 : decode b_Mo_chain 4 = .ok (.invokevirtual 108, 3) := by decide +kernel
theorem d_Mo_chain_7 : decode b_Mo_chain 7 = .ok (.ireturn, 1) := by decide +kernel
theorem d_Mo_star_0 : decode b_Mo_star 0 = .ok (.aload_n 0, 1) := by decide +kernel
theorem d_Mo_star_1 : decode b_Mo_star 1 = .ok (.iconst 4, 1) := by decide +kernel
theorem d_Mo_star_2 : decode b_Mo_star 2 = .ok (.iload_n 1, 1) := by decide +kernel
theorem d_Mo_star_3 : decode b_Mo_star 3 = .ok (.iload_n 1, 1) := by decide +kernel
theorem d_Mo_star_4 : decode b_Mo_star 4 = .ok (.invokevirtual 108, 3) := by decide +kernel
theorem d_Mo_star_7 : decode b_Mo_star 7 = .ok (.ireturn, 1) := by decide +kernel
theorem d_Mo_invert_0 : decode b_Mo_invert 0 = .ok (.aload_n 0, 1) := by decide +kernel
theorem d_Mo_invert_1 : decode b_Mo_invert 1 = .ok (.iconst 5, 1) := by decide +kernel
theorem d_Mo_invert_2 : decode b_Mo_invert 2 = .ok (.iload_n 1, 1) := by decide +kernel
theorem d_Mo_invert_3 : decode b_Mo_invert 3 = .ok (.iload_n 1, 1) := by decide +kernel
theorem d_Mo_invert_4 : decode b_Mo_invert 4 = .ok (.invokevirtual 108, 3) := by decide +kernel
theorem d_Mo_invert_7 : decode b_Mo_invert 7 = .ok (.ireturn, 1) := by decide +kernel
theorem d_Mo_forget_0 : decode b_Mo_forget 0 = .ok (.aload_n 0, 1) := by decide +kernel
theorem d_Mo_forget_1 : decode b_Mo_forget 1 = .ok (.getfield 51, 3) := by decide +kernel
theorem d_Mo_forget_4 : decode b_Mo_forget 4 = .ok (.ifCond .ne 5, 3) := by decide +kernel
theorem d_Mo_forget_7 : decode b_Mo_forget 7 = .ok (.iconst 0, 1) := by decide +kernel
theorem d_Mo_forget_8 : decode b_Mo_forget 8 = .ok (.ireturn, 1) := by decide +kernel
theorem d_Mo_forget_9 : decode b_Mo_forget 9 = .ok (.aload_n 0, 1) := by decide +kernel
theorem d_Mo_forget_10 : decode b_Mo_forget 10 = .ok (.dup, 1) := by decide +kernel
theorem d_Mo_forget_11 : decode b_Mo_forget 11 = .ok (.getfield 51, 3) := by decide +kernel
theorem d_Mo_forget_14 : decode b_Mo_forget 14 = .ok (.iconst 1, 1) := by decide +kernel
theorem d_Mo_forget_15 : decode b_Mo_forget 15 = .ok (.isub, 1) := by decide +kernel
theorem d_Mo_forget_16 : decode b_Mo_forget 16 = .ok (.putfield 51, 3) := by decide +kernel
theorem d_Mo_forget_19 : decode b_Mo_forget 19 = .ok (.iconst 1, 1) := by decide +kernel
theorem d_Mo_forget_20 : decode b_Mo_forget 20 = .ok (.ireturn, 1) := by decide +kernel
theorem d_Mo_count_0 : decode b_Mo_count 0 = .ok (.aload_n 0, 1) := by decide +kernel
theorem d_Mo_count_1 : decode b_Mo_count 1 = .ok (.getfield 51, 3) := by decide +kernel
theorem d_Mo_count_4 : decode b_Mo_count 4 = .ok (.ireturn, 1) := by decide +kernel
theorem d_Mo_states_0 : decode b_Mo_states 0 = .ok (.aload_n 0, 1) := by decide +kernel
theorem d_Mo_states_1 : decode b_Mo_states 1 = .ok (.iload_n 1, 1) := by decide +kernel
theorem d_Mo_states_2 : decode b_Mo_states 2 = .ok (.invokevirtual 105, 3) := by decide +kernel
theorem d_Mo_states_5 : decode b_Mo_states 5 = .ok (.ifCond .eq 12, 3) := by decide +kernel
theorem d_Mo_states_8 : decode b_Mo_states 8 = .ok (.aload_n 0, 1) := by decide +kernel
theorem d_Mo_states_9 : decode b_Mo_states 9 = .ok (.getfield 7, 3) := by decide +kernel
theorem d_Mo_states_12 : decode b_Mo_states 12 = .ok (.iload_n 1, 1) := by decide +kernel
theorem d_Mo_states_13 : decode b_Mo_states 13 = .ok (.iaload, 1) := by decide +kernel
theorem d_Mo_states_14 : decode b_Mo_states 14 = .ok (.goto 4, 3) := by decide +kernel
theorem d_Mo_states_17 : decode b_Mo_states 17 = .ok (.iconst (-1), 1) := by decide +kernel
theorem d_Mo_states_18 : decode b_Mo_states 18 = .ok (.ireturn, 1) := by decide +kernel
theorem d_Mo_next_0 : decode b_Mo_next 0 = .ok (.aload_n 0, 1) := by decide +kernel
theorem d_Mo_next_1 : decode b_Mo_next 1 = .ok (.iload_n 1, 1) := by decide +kernel
theorem d_Mo_next_2 : decode b_Mo_next 2 = .ok (.iload_n 2, 1) := by decide +kernel
theorem d_Mo_next_3 : decode b_Mo_next 3 = .ok (.invokevirtual 111, 3) := by decide +kernel
theorem d_Mo_next_6 : decode b_Mo_next 6 = .ok (.ifCond .eq 22, 3) := by decide +kernel
theorem d_Mo_next_9 : decode b_Mo_next 9 = .ok (.iload_n 3, 1) := by decide +kernel
theorem d_Mo_next_10 : decode b_Mo_next 10 = .ok (.ifCond .eq 8, 3) := by decide +kernel
theorem d_Mo_next_13 : decode b_Mo_next 13 = .ok (.iload_n 3, 1) := by decide +kernel
theorem d_Mo_next_14 : decode b_Mo_next 14 = .ok (.iconst 1, 1) := by decide +kernel
theorem d_Mo_next_15 : decode b_Mo_next 15 = .ok (.if_icmp .ne 13, 3) := by decide +kernel
theorem d_Mo_next_18 : decode b_Mo_next 18 = .ok (.aload_n 0, 1) := by decide +kernel
theorem d_Mo_next_19 : decode b_Mo_next 19 = .ok (.iload_n 1, 1) := by decide +kernel
theorem d_Mo_next_20 : decode b_Mo_next 20 = .ok (.iload_n 2, 1) := by decide +kernel
theorem d_Mo_next_21 : decode b_Mo_next 21 = .ok (.iload_n 3, 1) := by decide +kernel
theorem d_Mo_next_22 : decode b_Mo_next 22 = .ok (.invokevirtual 55, 3) := by decide +kernel
theorem d_Mo_next_25 : decode b_Mo_next 25 = .ok (.goto 4, 3) := by decide +kernel
theorem d_Mo_next_28 : decode b_Mo_next 28 = .ok (.iconst (-1), 1) := by decide +kernel
theorem d_Mo_next_29 : decode b_Mo_next 29 = .ok (.ireturn, 1) := by decide +kernel
theorem d_Mo_isState_0 : decode b_Mo_isState 0 = .ok (.aload_n 0, 1) := by decide +kernel
theorem d_Mo_isState_1 : decode b_Mo_isState 1 = .ok (.iload_n 1, 1) := by decide +kernel
theorem d_Mo_isState_2 : decode b_Mo_isState 2 = .ok (.invokevirtual 105, 3) := by decide +kernel
theorem d_Mo_isState_5 : decode b_Mo_isState 5 = .ok (.ifCond .eq 21, 3) := by decide +kernel
theorem d_Mo_isState_8 : decode b_Mo_isState 8 = .ok (.iload_n 2, 1) := by decide +kernel
theorem d_Mo_isState_9 : decode b_Mo_isState 9 = .ok (.ifCond .lt 17, 3) := by decide +kernel
theorem d_Mo_isState_12 : decode b_Mo_isState 12 = .ok (.iload_n 2, 1) := by decide +kernel
theorem d_Mo_isState_13 : decode b_Mo_isState 13 = .ok (.aload_n 0, 1) := by decide +kernel
theorem d_Mo_isState_14 : decode b_Mo_isState 14 = .ok (.getfield 7, 3) := by decide +kernel
theorem d_Mo_isState_17 : decode b_Mo_isState 17 = .ok (.iload_n 1, 1) := by decide +kernel
theorem d_Mo_isState_18 : decode b_Mo_isState 18 = .ok (.iaload, 1) := by decide +kernel
theorem d_Mo_isState_19 : decode b_Mo_isState 19 = .ok (.if_icmp .ge 7, 3) := by decide +kernel
theorem d_Mo_isState_22 : decode b_Mo_isState 22 = .ok (.iconst 1, 1) := by decide +kernel
theorem d_Mo_isState_23 : decode b_Mo_isState 23 = .ok (.goto 4, 3) := by decide +kernel
theorem d_Mo_isState_26 : decode b_Mo_isState 26 = .ok (.iconst 0, 1) := by decide +kernel
theorem d_Mo_isState_27 : decode b_Mo_isState 27 = .ok (.ireturn, 1) := by decide +kernel
theorem d_Mo_accepts_0 : decode b_Mo_accepts 0 = .ok (.aload_n 0, 1) := by decide +kernel
theorem d_Mo_accepts_1 : decode b_Mo_accepts 1 = .ok (.iload_n 1, 1) := by decide +kernel
theorem d_Mo_accepts_2 : decode b_Mo_accepts 2 = .ok (.iload_n 2, 1) := by decide +kernel
theorem d_Mo_accepts_3 : decode b_Mo_accepts 3 = .ok (.invokevirtual 111, 3) := by decide +kernel
theorem d_Mo_accepts_6 : decode b_Mo_accepts 6 = .ok (.ifCond .eq 16, 3) := by decide +kernel
theorem d_Mo_accepts_9 : decode b_Mo_accepts 9 = .ok (.aload_n 0, 1) := by decide +kernel
theorem d_Mo_accepts_10 : decode b_Mo_accepts 10 = .ok (.iload_n 1, 1) := by decide +kernel
theorem d_Mo_accepts_11 : decode b_Mo_accepts 11 = .ok (.iload_n 2, 1) := by decide +kernel
theorem d_Mo_accepts_12 : decode b_Mo_accepts 12 = .ok (.invokevirtual 65, 3) := by decide +kernel
theorem d_Mo_accepts_15 : decode b_Mo_accepts 15 = .ok (.ifCond .eq 7, 3) := by decide +kernel
theorem d_Mo_accepts_18 : decode b_Mo_accepts 18 = .ok (.iconst 1, 1) := by decide +kernel
theorem d_Mo_accepts_19 : decode b_Mo_accepts 19 = .ok (.goto 4, 3) := by decide +kernel
theorem d_Mo_accepts_22 : decode b_Mo_accepts 22 = .ok (.iconst 0, 1) := by decide +kernel
theorem d_Mo_accepts_23 : decode b_Mo_accepts 23 = .ok (.ireturn, 1) := by decide +kernel
theorem d_Mo_contains_0 : decode b_Mo_contains 0 = .ok (.aload_n 0, 1) := by decide +kernel
theorem d_Mo_contains_1 : decode b_Mo_contains 1 = .ok (.iload_n 1, 1) := by decide +kernel
theorem d_Mo_contains_2 : decode b_Mo_contains 2 = .ok (.invokevirtual 105, 3) := by decide +kernel
theorem d_Mo_contains_5 : decode b_Mo_contains 5 = .ok (.ifCond .eq 15, 3) := by decide +kernel
theorem d_Mo_contains_8 : decode b_Mo_contains 8 = .ok (.iload 4, 2) := by decide +kernel
theorem d_Mo_contains_10 : decode b_Mo_contains 10 = .ok (.ifCond .lt 10, 3) := by decide +kernel
theorem d_Mo_contains_13 : decode b_Mo_contains 13 = .ok (.iload 4, 2) := by decide +kernel
theorem d_Mo_contains_15 : decode b_Mo_contains 15 = .ok (.bipush 64, 2) := by decide +kernel
theorem d_Mo_contains_17 : decode b_Mo_contains 17 = .ok (.if_icmp .le 5, 3) := by decide +kernel
theorem d_Mo_contains_20 : decode b_Mo_contains 20 = .ok (.iconst 0, 1) := by decide +kernel
theorem d_Mo_contains_21 : decode b_Mo_contains 21 = .ok (.ireturn, 1) := by decide +kernel
theorem d_Mo_contains_22 : decode b_Mo_contains 22 = .ok (.iconst 0, 1) := by decide +kernel
theorem d_Mo_contains_23 : decode b_Mo_contains 23 = .ok (.istore 5, 2) := by decide +kernel
theorem d_Mo_contains_25 : decode b_Mo_contains 25 = .ok (.iconst 0, 1) := by decide +kernel
theorem d_Mo_contains_26 : decode b_Mo_contains 26 = .ok (.istore 6, 2) := by decide +kernel
theorem d_Mo_contains_28 : decode b_Mo_contains 28 = .ok (.iload 6, 2) := by decide +kernel
theorem d_Mo_contains_30 : decode b_Mo_contains 30 = .ok (.iload 4, 2) := by decide +kernel
theorem d_Mo_contains_32 : decode b_Mo_contains 32 = .ok (.if_icmp .ge 25, 3) := by decide +kernel
theorem d_Mo_contains_35 : decode b_Mo_contains 35 = .ok (.aload_n 0, 1) := by decide +kernel
theorem d_Mo_contains_36 : decode b_Mo_contains 36 = .ok (.iload_n 1, 1) := by decide +kernel
theorem d_Mo_contains_37 : decode b_Mo_contains 37 = .ok (.iload 5, 2) := by decide +kernel
theorem d_Mo_contains_39 : decode b_Mo_contains 39 = .ok (.lload_n 2, 1) := by decide +kernel
theorem d_Mo_contains_40 : decode b_Mo_contains 40 = .ok (.iload 6, 2) := by decide +kernel
theorem d_Mo_contains_42 : decode b_Mo_contains 42 = .ok (.lushr, 1) := by decide +kernel
theorem d_Mo_contains_43 : decode b_Mo_contains 43 = .ok (.lconst 1, 1) := by decide +kernel
theorem d_Mo_contains_44 : decode b_Mo_contains 44 = .ok (.land, 1) := by decide +kernel
theorem d_Mo_contains_45 : decode b_Mo_contains 45 = .ok (.l2i, 1) := by decide +kernel
theorem d_Mo_contains_46 : decode b_Mo_contains 46 = .ok (.invokevirtual 55, 3) := by decide +kernel
theorem d_Mo_contains_49 : decode b_Mo_contains 49 = .ok (.istore 5, 2) := by decide +kernel
theorem d_Mo_contains_51 : decode b_Mo_contains 51 = .ok (.iinc 6 1, 3) := by decide +kernel
theorem d_Mo_contains_54 : decode b_Mo_contains 54 = .ok (.goto (-26), 3) := by decide +kernel
theorem d_Mo_contains_57 : decode b_Mo_contains 57 = .ok (.aload_n 0, 1) := by decide +kernel
theorem d_Mo_contains_58 : decode b_Mo_contains 58 = .ok (.iload_n 1, 1) := by decide +kernel
theorem d_Mo_contains_59 : decode b_Mo_contains 59 = .ok (.iload 5, 2) := by decide +kernel
theorem d_Mo_contains_61 : decode b_Mo_contains 61 = .ok (.invokevirtual 65, 3) := by decide +kernel
theorem d_Mo_contains_64 : decode b_Mo_contains 64 = .ok (.ireturn, 1) := by decide +kernel
theorem d_Mo_same_0 : decode b_Mo_same 0 = .ok (.aload_n 0, 1) := by decide +kernel
theorem d_Mo_same_1 : decode b_Mo_same 1 = .ok (.iload_n 1, 1) := by decide +kernel
theorem d_Mo_same_2 : decode b_Mo_same 2 = .ok (.invokevirtual 105, 3) := by decide +kernel
theorem d_Mo_same_5 : decode b_Mo_same 5 = .ok (.ifCond .eq 11, 3) := by decide +kernel
theorem d_Mo_same_8 : decode b_Mo_same 8 = .ok (.aload_n 0, 1) := by decide +kernel
theorem d_Mo_same_9 : decode b_Mo_same 9 = .ok (.iload_n 2, 1) := by decide +kernel
theorem d_Mo_same_10 : decode b_Mo_same 10 = .ok (.invokevirtual 105, 3) := by decide +kernel
theorem d_Mo_same_13 : decode b_Mo_same 13 = .ok (.ifCond .ne 5, 3) := by decide +kernel
theorem d_Mo_same_16 : decode b_Mo_same 16 = .ok (.iconst 0, 1) := by decide +kernel
theorem d_Mo_same_17 : decode b_Mo_same 17 = .ok (.ireturn, 1) := by decide +kernel
theorem d_Mo_same_18 : decode b_Mo_same 18 = .ok (.lconst 1, 1) := by decide +kernel
theorem d_Mo_same_19 : decode b_Mo_same 19 = .ok (.lstore_n 3, 1) := by decide +kernel
theorem d_Mo_same_20 : decode b_Mo_same 20 = .ok (.iconst 0, 1) := by decide +kernel
theorem d_Mo_same_21 : decode b_Mo_same 21 = .ok (.istore 5, 2) := by decide +kernel
theorem d_Mo_same_23 : decode b_Mo_same 23 = .ok (.iload 5, 2) := by decide +kernel
theorem d_Mo_same_25 : decode b_Mo_same 25 = .ok (.bipush 36, 2) := by decide +kernel
theorem d_Mo_same_27 : decode b_Mo_same 27 = .ok (.if_icmp .ge 121, 3) := by decide +kernel
theorem d_Mo_same_30 : decode b_Mo_same 30 = .ok (.iconst 0, 1) := by decide +kernel
theorem d_Mo_same_31 : decode b_Mo_same 31 = .ok (.istore 6, 2) := by decide +kernel
theorem d_Mo_same_33 : decode b_Mo_same 33 = .ok (.iload 6, 2) := by decide +kernel
theorem d_Mo_same_35 : decode b_Mo_same 35 = .ok (.bipush 36, 2) := by decide +kernel
theorem d_Mo_same_37 : decode b_Mo_same 37 = .ok (.if_icmp .ge 105, 3) := by decide +kernel
theorem d_Mo_same_40 : decode b_Mo_same 40 = .ok (.lload_n 3, 1) := by decide +kernel
theorem d_Mo_same_41 : decode b_Mo_same 41 = .ok (.iload 6, 2) := by decide +kernel
theorem d_Mo_same_43 : decode b_Mo_same 43 = .ok (.lshr, 1) := by decide +kernel
theorem d_Mo_same_44 : decode b_Mo_same 44 = .ok (.lconst 1, 1) := by decide +kernel
theorem d_Mo_same_45 : decode b_Mo_same 45 = .ok (.land, 1) := by decide +kernel
theorem d_Mo_same_46 : decode b_Mo_same 46 = .ok (.lconst 1, 1) := by decide +kernel
theorem d_Mo_same_47 : decode b_Mo_same 47 = .ok (.lcmp, 1) := by decide +kernel
theorem d_Mo_same_48 : decode b_Mo_same 48 = .ok (.ifCond .ne 88, 3) := by decide +kernel
theorem d_Mo_same_51 : decode b_Mo_same 51 = .ok (.aload_n 0, 1) := by decide +kernel
theorem d_Mo_same_52 : decode b_Mo_same 52 = .ok (.iload_n 1, 1) := by decide +kernel
theorem d_Mo_same_53 : decode b_Mo_same 53 = .ok (.iload 6, 2) := by decide +kernel
theorem d_Mo_same_55 : decode b_Mo_same 55 = .ok (.bipush 6, 2) := by decide +kernel
theorem d_Mo_same_57 : decode b_Mo_same 57 = .ok (.idiv, 1) := by decide +kernel
theorem d_Mo_same_58 : decode b_Mo_same 58 = .ok (.invokevirtual 65, 3) := by decide +kernel
theorem d_Mo_same_61 : decode b_Mo_same 61 = .ok (.aload_n 0, 1) := by decide +kernel
theorem d_Mo_same_62 : decode b_Mo_same 62 = .ok (.iload_n 2, 1) := by decide +kernel
theorem d_Mo_same_63 : decode b_Mo_same 63 = .ok (.iload 6, 2) := by decide +kernel
theorem d_Mo_same_65 : decode b_Mo_same 65 = .ok (.bipush 6, 2) := by decide +kernel
theorem d_Mo_same_67 : decode b_Mo_same 67 = .ok (.irem, 1) := by decide +kernel
theorem d_Mo_same_68 : decode b_Mo_same 68 = .ok (.invokevirtual 65, 3) := by decide +kernel
theorem d_Mo_same_71 : decode b_Mo_same 71 = .ok (.if_icmp .eq 5, 3) := by decide +kernel
theorem d_Mo_same_74 : decode b_Mo_same 74 = .ok (.iconst 0, 1) := by decide +kernel
theorem d_Mo_same_75 : decode b_Mo_same 75 = .ok (.ireturn, 1) := by decide +kernel
theorem d_Mo_same_76 : decode b_Mo_same 76 = .ok (.lload_n 3, 1) := by decide +kernel
theorem d_Mo_same_77 : decode b_Mo_same 77 = .ok (.lconst 1, 1) := by decide +kernel
theorem d_Mo_same_78 : decode b_Mo_same 78 = .ok (.bipush 6, 2) := by decide +kernel
theorem d_Mo_same_80 : decode b_Mo_same 80 = .ok (.aload_n 0, 1) := by decide +kernel
theorem d_Mo_same_81 : decode b_Mo_same 81 = .ok (.iload_n 1, 1) := by decide +kernel
theorem d_Mo_same_82 : decode b_Mo_same 82 = .ok (.iload 6, 2) := by decide +kernel
theorem d_Mo_same_84 : decode b_Mo_same 84 = .ok (.bipush 6, 2) := by decide +kernel
theorem d_Mo_same_86 : decode b_Mo_same 86 = .ok (.idiv, 1) := by decide +kernel
theorem d_Mo_same_87 : decode b_Mo_same 87 = .ok (.iconst 0, 1) := by decide +kernel
theorem d_Mo_same_88 : decode b_Mo_same 88 = .ok (.invokevirtual 55, 3) := by decide +kernel
theorem d_Mo_same_91 : decode b_Mo_same 91 = .ok (.imul, 1) := by decide +kernel
theorem d_Mo_same_92 : decode b_Mo_same 92 = .ok (.aload_n 0, 1) := by decide +kernel
theorem d_Mo_same_93 : decode b_Mo_same 93 = .ok (.iload_n 2, 1) := by decide +kernel
theorem d_Mo_same_94 : decode b_Mo_same 94 = .ok (.iload 6, 2) := by decide +kernel
theorem d_Mo_same_96 : decode b_Mo_same 96 = .ok (.bipush 6, 2) := by decide +kernel
theorem d_Mo_same_98 : decode b_Mo_same 98 = .ok (.irem, 1) := by decide +kernel
theorem d_Mo_same_99 : decode b_Mo_same 99 = .ok (.iconst 0, 1) := by decide +kernel
theorem d_Mo_same_100 : decode b_Mo_same 100 = .ok (.invokevirtual 55, 3) := by decide +kernel
theorem d_Mo_same_103 : decode b_Mo_same 103 = .ok (.iadd, 1) := by decide +kernel
theorem d_Mo_same_104 : decode b_Mo_same 104 = .ok (.lshl, 1) := by decide +kernel
theorem d_Mo_same_105 : decode b_Mo_same 105 = .ok (.lor, 1) := by decide +kernel
theorem d_Mo_same_106 : decode b_Mo_same 106 = .ok (.lconst 1, 1) := by decide +kernel
theorem d_Mo_same_107 : decode b_Mo_same 107 = .ok (.bipush 6, 2) := by decide +kernel
theorem d_Mo_same_109 : decode b_Mo_same 109 = .ok (.aload_n 0, 1) := by decide +kernel
theorem d_Mo_same_110 : decode b_Mo_same 110 = .ok (.iload_n 1, 1) := by decide +kernel
theorem d_Mo_same_111 : decode b_Mo_same 111 = .ok (.iload 6, 2) := by decide +kernel
theorem d_Mo_same_113 : decode b_Mo_same 113 = .ok (.bipush 6, 2) := by decide +kernel
theorem d_Mo_same_115 : decode b_Mo_same 115 = .ok (.idiv, 1) := by decide +kernel
theorem d_Mo_same_116 : decode b_Mo_same 116 = .ok (.iconst 1, 1) := by decide +kernel
theorem d_Mo_same_117 : decode b_Mo_same 117 = .ok (.invokevirtual 55, 3) := by decide +kernel
theorem d_Mo_same_120 : decode b_Mo_same 120 = .ok (.imul, 1) := by decide +kernel
theorem d_Mo_same_121 : decode b_Mo_same 121 = .ok (.aload_n 0, 1) := by decide +kernel
theorem d_Mo_same_122 : decode b_Mo_same 122 = .ok (.iload_n 2, 1) := by decide +kernel
theorem d_Mo_same_123 : decode b_Mo_same 123 = .ok (.iload 6, 2) := by decide +kernel
theorem d_Mo_same_125 : decode b_Mo_same 125 = .ok (.bipush 6, 2) := by decide +kernel
theorem d_Mo_same_127 : decode b_Mo_same 127 = .ok (.irem, 1) := by decide +kernel
theorem d_Mo_same_128 : decode b_Mo_same 128 = .ok (.iconst 1, 1) := by decide +kernel
theorem d_Mo_same_129 : decode b_Mo_same 129 = .ok (.invokevirtual 55, 3) := by decide +kernel
theorem d_Mo_same_132 : decode b_Mo_same 132 = .ok (.iadd, 1) := by decide +kernel
theorem d_Mo_same_133 : decode b_Mo_same 133 = .ok (.lshl, 1) := by decide +kernel
theorem d_Mo_same_134 : decode b_Mo_same 134 = .ok (.lor, 1) := by decide +kernel
theorem d_Mo_same_135 : decode b_Mo_same 135 = .ok (.lstore_n 3, 1) := by decide +kernel
theorem d_Mo_same_136 : decode b_Mo_same 136 = .ok (.iinc 6 1, 3) := by decide +kernel
theorem d_Mo_same_139 : decode b_Mo_same 139 = .ok (.goto (-106), 3) := by decide +kernel
theorem d_Mo_same_142 : decode b_Mo_same 142 = .ok (.iinc 5 1, 3) := by decide +kernel
theorem d_Mo_same_145 : decode b_Mo_same 145 = .ok (.goto (-122), 3) := by decide +kernel
theorem d_Mo_same_148 : decode b_Mo_same 148 = .ok (.iconst 1, 1) := by decide +kernel
theorem d_Mo_same_149 : decode b_Mo_same 149 = .ok (.ireturn, 1) := by decide +kernel
theorem d_Mo_study_0 : decode b_Mo_study 0 = .ok (.aload_n 0, 1) := by decide +kernel
theorem d_Mo_study_1 : decode b_Mo_study 1 = .ok (.iload_n 1, 1) := by decide +kernel
theorem d_Mo_study_2 : decode b_Mo_study 2 = .ok (.invokevirtual 105, 3) := by decide +kernel
theorem d_Mo_study_5 : decode b_Mo_study 5 = .ok (.ifCond .ne 5, 3) := by decide +kernel
theorem d_Mo_study_8 : decode b_Mo_study 8 = .ok (.iconst (-1), 1) := by decide +kernel
theorem d_Mo_study_9 : decode b_Mo_study 9 = .ok (.ireturn, 1) := by decide +kernel
theorem d_Mo_study_10 : decode b_Mo_study 10 = .ok (.aload_n 0, 1) := by decide +kernel
theorem d_Mo_study_11 : decode b_Mo_study 11 = .ok (.iload_n 1, 1) := by decide +kernel
theorem d_Mo_study_12 : decode b_Mo_study 12 = .ok (.invokevirtual 127, 3) := by decide +kernel
theorem d_Mo_study_15 : decode b_Mo_study 15 = .ok (.istore_n 2, 1) := by decide +kernel
theorem d_Mo_study_16 : decode b_Mo_study 16 = .ok (.iload_n 2, 1) := by decide +kernel
theorem d_Mo_study_17 : decode b_Mo_study 17 = .ok (.bipush 60, 2) := by decide +kernel
theorem d_Mo_study_19 : decode b_Mo_study 19 = .ok (.if_icmp .le 6, 3) := by decide +kernel
theorem d_Mo_study_22 : decode b_Mo_study 22 = .ok (.bipush (-3), 2) := by decide +kernel
theorem d_Mo_study_24 : decode b_Mo_study 24 = .ok (.ireturn, 1) := by decide +kernel
theorem d_Mo_study_25 : decode b_Mo_study 25 = .ok (.aload_n 0, 1) := by decide +kernel
theorem d_Mo_study_26 : decode b_Mo_study 26 = .ok (.iload_n 2, 1) := by decide +kernel
theorem d_Mo_study_27 : decode b_Mo_study 27 = .ok (.putfield 130, 3) := by decide +kernel
theorem d_Mo_study_30 : decode b_Mo_study 30 = .ok (.aload_n 0, 1) := by decide +kernel
theorem d_Mo_study_31 : decode b_Mo_study 31 = .ok (.aload_n 0, 1) := by decide +kernel
theorem d_Mo_study_32 : decode b_Mo_study 32 = .ok (.getfield 7, 3) := by decide +kernel
theorem d_Mo_study_35 : decode b_Mo_study 35 = .ok (.iload_n 1, 1) := by decide +kernel
theorem d_Mo_study_36 : decode b_Mo_study 36 = .ok (.iaload, 1) := by decide +kernel
theorem d_Mo_study_37 : decode b_Mo_study 37 = .ok (.putfield 133, 3) := by decide +kernel
theorem d_Mo_study_40 : decode b_Mo_study 40 = .ok (.iconst 0, 1) := by decide +kernel
theorem d_Mo_study_41 : decode b_Mo_study 41 = .ok (.istore_n 3, 1) := by decide +kernel
theorem d_Mo_study_42 : decode b_Mo_study 42 = .ok (.iload_n 3, 1) := by decide +kernel
theorem d_Mo_study_43 : decode b_Mo_study 43 = .ok (.aload_n 0, 1) := by decide +kernel
theorem d_Mo_study_44 : decode b_Mo_study 44 = .ok (.getfield 130, 3) := by decide +kernel
theorem d_Mo_study_47 : decode b_Mo_study 47 = .ok (.if_icmp .ge 33, 3) := by decide +kernel
theorem d_Mo_study_50 : decode b_Mo_study 50 = .ok (.aload_n 0, 1) := by decide +kernel
theorem d_Mo_study_51 : decode b_Mo_study 51 = .ok (.getfield 36, 3) := by decide +kernel
theorem d_Mo_study_54 : decode b_Mo_study 54 = .ok (.iload_n 3, 1) := by decide +kernel
theorem d_Mo_study_55 : decode b_Mo_study 55 = .ok (.aload_n 0, 1) := by decide +kernel
theorem d_Mo_study_56 : decode b_Mo_study 56 = .ok (.getfield 42, 3) := by decide +kernel
theorem d_Mo_study_59 : decode b_Mo_study 59 = .ok (.iload_n 3, 1) := by decide +kernel
theorem d_Mo_study_60 : decode b_Mo_study 60 = .ok (.iaload, 1) := by decide +kernel
theorem d_Mo_study_61 : decode b_Mo_study 61 = .ok (.iastore, 1) := by decide +kernel
theorem d_Mo_study_62 : decode b_Mo_study 62 = .ok (.aload_n 0, 1) := by decide +kernel
theorem d_Mo_study_63 : decode b_Mo_study 63 = .ok (.getfield 39, 3) := by decide +kernel
theorem d_Mo_study_66 : decode b_Mo_study 66 = .ok (.iload_n 3, 1) := by decide +kernel
theorem d_Mo_study_67 : decode b_Mo_study 67 = .ok (.aload_n 0, 1) := by decide +kernel
theorem d_Mo_study_68 : decode b_Mo_study 68 = .ok (.getfield 45, 3) := by decide +kernel
theorem d_Mo_study_71 : decode b_Mo_study 71 = .ok (.iload_n 3, 1) := by decide +kernel
theorem d_Mo_study_72 : decode b_Mo_study 72 = .ok (.laload, 1) := by decide +kernel
theorem d_Mo_study_73 : decode b_Mo_study 73 = .ok (.lastore, 1) := by decide +kernel
theorem d_Mo_study_74 : decode b_Mo_study 74 = .ok (.iinc 3 1, 3) := by decide +kernel
theorem d_Mo_study_77 : decode b_Mo_study 77 = .ok (.goto (-35), 3) := by decide +kernel
theorem d_Mo_study_80 : decode b_Mo_study 80 = .ok (.iconst 0, 1) := by decide +kernel
theorem d_Mo_study_81 : decode b_Mo_study 81 = .ok (.istore_n 3, 1) := by decide +kernel
theorem d_Mo_study_82 : decode b_Mo_study 82 = .ok (.iload_n 3, 1) := by decide +kernel
theorem d_Mo_study_83 : decode b_Mo_study 83 = .ok (.aload_n 0, 1) := by decide +kernel
theorem d_Mo_study_84 : decode b_Mo_study 84 = .ok (.getfield 130, 3) := by decide +kernel
theorem d_Mo_study_87 : decode b_Mo_study 87 = .ok (.if_icmp .ge 114, 3) := by decide +kernel
theorem d_Mo_study_90 : decode b_Mo_study 90 = .ok (.iconst 0, 1) := by decide +kernel
theorem d_Mo_study_91 : decode b_Mo_study 91 = .ok (.istore 4, 2) := by decide +kernel
theorem d_Mo_study_93 : decode b_Mo_study 93 = .ok (.iload 4, 2) := by decide +kernel
theorem d_Mo_study_95 : decode b_Mo_study 95 = .ok (.aload_n 0, 1) := by decide +kernel
theorem d_Mo_study_96 : decode b_Mo_study 96 = .ok (.getfield 130, 3) := by decide +kernel
theorem d_Mo_study_99 : decode b_Mo_study 99 = .ok (.if_icmp .ge 96, 3) := by decide +kernel
theorem d_Mo_study_102 : decode b_Mo_study 102 = .ok (.iconst 0, 1) := by decide +kernel
theorem d_Mo_study_103 : decode b_Mo_study 103 = .ok (.istore 5, 2) := by decide +kernel
theorem d_Mo_study_105 : decode b_Mo_study 105 = .ok (.iconst 0, 1) := by decide +kernel
theorem d_Mo_study_106 : decode b_Mo_study 106 = .ok (.istore 6, 2) := by decide +kernel
theorem d_Mo_study_108 : decode b_Mo_study 108 = .ok (.iload 6, 2) := by decide +kernel
theorem d_Mo_study_110 : decode b_Mo_study 110 = .ok (.aload_n 0, 1) := by decide +kernel
theorem d_Mo_study_111 : decode b_Mo_study 111 = .ok (.getfield 133, 3) := by decide +kernel
theorem d_Mo_study_114 : decode b_Mo_study 114 = .ok (.if_icmp .ge 53, 3) := by decide +kernel
theorem d_Mo_study_117 : decode b_Mo_study 117 = .ok (.aload_n 0, 1) := by decide +kernel
theorem d_Mo_study_118 : decode b_Mo_study 118 = .ok (.getfield 36, 3) := by decide +kernel
theorem d_Mo_study_121 : decode b_Mo_study 121 = .ok (.iload_n 3, 1) := by decide +kernel
theorem d_Mo_study_122 : decode b_Mo_study 122 = .ok (.iaload, 1) := by decide +kernel
theorem d_Mo_study_123 : decode b_Mo_study 123 = .ok (.iload 6, 2) := by decide +kernel
theorem d_Mo_study_125 : decode b_Mo_study 125 = .ok (.invokestatic 114, 3) := by decide +kernel
theorem d_Mo_study_128 : decode b_Mo_study 128 = .ok (.idiv, 1) := by decide +kernel
theorem d_Mo_study_129 : decode b_Mo_study 129 = .ok (.bipush 6, 2) := by decide +kernel
theorem d_Mo_study_131 : decode b_Mo_study 131 = .ok (.irem, 1) := by decide +kernel
theorem d_Mo_study_132 : decode b_Mo_study 132 = .ok (.istore 7, 2) := by decide +kernel
theorem d_Mo_study_134 : decode b_Mo_study 134 = .ok (.iload 5, 2) := by decide +kernel
theorem d_Mo_study_136 : decode b_Mo_study 136 = .ok (.aload_n 0, 1) := by decide +kernel
theorem d_Mo_study_137 : decode b_Mo_study 137 = .ok (.getfield 36, 3) := by decide +kernel
theorem d_Mo_study_140 : decode b_Mo_study 140 = .ok (.iload 4, 2) := by decide +kernel
theorem d_Mo_study_142 : decode b_Mo_study 142 = .ok (.iaload, 1) := by decide +kernel
theorem d_Mo_study_143 : decode b_Mo_study 143 = .ok (.iload 7, 2) := by decide +kernel
theorem d_Mo_study_145 : decode b_Mo_study 145 = .ok (.invokestatic 114, 3) := by decide +kernel
theorem d_Mo_study_148 : decode b_Mo_study 148 = .ok (.idiv, 1) := by decide +kernel
theorem d_Mo_study_149 : decode b_Mo_study 149 = .ok (.bipush 6, 2) := by decide +kernel
theorem d_Mo_study_151 : decode b_Mo_study 151 = .ok (.irem, 1) := by decide +kernel
theorem d_Mo_study_152 : decode b_Mo_study 152 = .ok (.iload 6, 2) := by decide +kernel
theorem d_Mo_study_154 : decode b_Mo_study 154 = .ok (.invokestatic 114, 3) := by decide +kernel
theorem d_Mo_study_157 : decode b_Mo_study 157 = .ok (.imul, 1) := by decide +kernel
theorem d_Mo_study_158 : decode b_Mo_study 158 = .ok (.iadd, 1) := by decide +kernel
theorem d_Mo_study_159 : decode b_Mo_study 159 = .ok (.istore 5, 2) := by decide +kernel
theorem d_Mo_study_161 : decode b_Mo_study 161 = .ok (.iinc 6 1, 3) := by decide +kernel
theorem d_Mo_study_164 : decode b_Mo_study 164 = .ok (.goto (-56), 3) := by decide +kernel
theorem d_Mo_study_167 : decode b_Mo_study 167 = .ok (.aload_n 0, 1) := by decide +kernel
theorem d_Mo_study_168 : decode b_Mo_study 168 = .ok (.getfield 48, 3) := by decide +kernel
theorem d_Mo_study_171 : decode b_Mo_study 171 = .ok (.bipush 60, 2) := by decide +kernel
theorem d_Mo_study_173 : decode b_Mo_study 173 = .ok (.iload_n 3, 1) := by decide +kernel
theorem d_Mo_study_174 : decode b_Mo_study 174 = .ok (.imul, 1) := by decide +kernel
theorem d_Mo_study_175 : decode b_Mo_study 175 = .ok (.iload 4, 2) := by decide +kernel
theorem d_Mo_study_177 : decode b_Mo_study 177 = .ok (.iadd, 1) := by decide +kernel
theorem d_Mo_study_178 : decode b_Mo_study 178 = .ok (.aload_n 0, 1) := by decide +kernel
theorem d_Mo_study_179 : decode b_Mo_study 179 = .ok (.iload 5, 2) := by decide +kernel
theorem d_Mo_study_181 : decode b_Mo_study 181 = .ok (.aload_n 0, 1) := by decide +kernel
theorem d_Mo_study_182 : decode b_Mo_study 182 = .ok (.getfield 130, 3) := by decide +kernel
theorem d_Mo_study_185 : decode b_Mo_study 185 = .ok (.invokevirtual 122, 3) := by decide +kernel
theorem d_Mo_study_188 : decode b_Mo_study 188 = .ok (.iastore, 1) := by decide +kernel
theorem d_Mo_study_189 : decode b_Mo_study 189 = .ok (.iinc 4 1, 3) := by decide +kernel
theorem d_Mo_study_192 : decode b_Mo_study 192 = .ok (.goto (-99), 3) := by decide +kernel
theorem d_Mo_study_195 : decode b_Mo_study 195 = .ok (.iinc 3 1, 3) := by decide +kernel
theorem d_Mo_study_198 : decode b_Mo_study 198 = .ok (.goto (-116), 3) := by decide +kernel
theorem d_Mo_study_201 : decode b_Mo_study 201 = .ok (.aload_n 0, 1) := by decide +kernel
theorem d_Mo_study_202 : decode b_Mo_study 202 = .ok (.getfield 130, 3) := by decide +kernel
theorem d_Mo_study_205 : decode b_Mo_study 205 = .ok (.ireturn, 1) := by decide +kernel
theorem d_Mo_grow_0 : decode b_Mo_grow 0 = .ok (.aload_n 0, 1) := by decide +kernel
theorem d_Mo_grow_1 : decode b_Mo_grow 1 = .ok (.getfield 7, 3) := by decide +kernel
theorem d_Mo_grow_4 : decode b_Mo_grow 4 = .ok (.iload_n 1, 1) := by decide +kernel
theorem d_Mo_grow_5 : decode b_Mo_grow 5 = .ok (.iaload, 1) := by decide +kernel
theorem d_Mo_grow_6 : decode b_Mo_grow 6 = .ok (.istore_n 2, 1) := by decide +kernel
theorem d_Mo_grow_7 : decode b_Mo_grow 7 = .ok (.iconst 1, 1) := by decide +kernel
theorem d_Mo_grow_8 : decode b_Mo_grow 8 = .ok (.istore_n 3, 1) := by decide +kernel
theorem d_Mo_grow_9 : decode b_Mo_grow 9 = .ok (.aload_n 0, 1) := by decide +kernel
theorem d_Mo_grow_10 : decode b_Mo_grow 10 = .ok (.getfield 42, 3) := by decide +kernel
theorem d_Mo_grow_13 : decode b_Mo_grow 13 = .ok (.iconst 0, 1) := by decide +kernel
theorem d_Mo_grow_14 : decode b_Mo_grow 14 = .ok (.iconst 0, 1) := by decide +kernel
theorem d_Mo_grow_15 : decode b_Mo_grow 15 = .ok (.iastore, 1) := by decide +kernel
theorem d_Mo_grow_16 : decode b_Mo_grow 16 = .ok (.iconst 0, 1) := by decide +kernel
theorem d_Mo_grow_17 : decode b_Mo_grow 17 = .ok (.istore 4, 2) := by decide +kernel
theorem d_Mo_grow_19 : decode b_Mo_grow 19 = .ok (.iload 4, 2) := by decide +kernel
theorem d_Mo_grow_21 : decode b_Mo_grow 21 = .ok (.iload_n 2, 1) := by decide +kernel
theorem d_Mo_grow_22 : decode b_Mo_grow 22 = .ok (.if_icmp .ge 30, 3) := by decide +kernel
theorem d_Mo_grow_25 : decode b_Mo_grow 25 = .ok (.aload_n 0, 1) := by decide +kernel
theorem d_Mo_grow_26 : decode b_Mo_grow 26 = .ok (.getfield 42, 3) := by decide +kernel
theorem d_Mo_grow_29 : decode b_Mo_grow 29 = .ok (.iconst 0, 1) := by decide +kernel
theorem d_Mo_grow_30 : decode b_Mo_grow 30 = .ok (.aload_n 0, 1) := by decide +kernel
theorem d_Mo_grow_31 : decode b_Mo_grow 31 = .ok (.getfield 42, 3) := by decide +kernel
theorem d_Mo_grow_34 : decode b_Mo_grow 34 = .ok (.iconst 0, 1) := by decide +kernel
theorem d_Mo_grow_35 : decode b_Mo_grow 35 = .ok (.iaload, 1) := by decide +kernel
theorem d_Mo_grow_36 : decode b_Mo_grow 36 = .ok (.iload 4, 2) := by decide +kernel
theorem d_Mo_grow_38 : decode b_Mo_grow 38 = .ok (.iload 4, 2) := by decide +kernel
theorem d_Mo_grow_40 : decode b_Mo_grow 40 = .ok (.invokestatic 114, 3) := by decide +kernel
theorem d_Mo_grow_43 : decode b_Mo_grow 43 = .ok (.imul, 1) := by decide +kernel
theorem d_Mo_grow_44 : decode b_Mo_grow 44 = .ok (.iadd, 1) := by decide +kernel
theorem d_Mo_grow_45 : decode b_Mo_grow 45 = .ok (.iastore, 1) := by decide +kernel
theorem d_Mo_grow_46 : decode b_Mo_grow 46 = .ok (.iinc 4 1, 3) := by decide +kernel
theorem d_Mo_grow_49 : decode b_Mo_grow 49 = .ok (.goto (-30), 3) := by decide +kernel
theorem d_Mo_grow_52 : decode b_Mo_grow 52 = .ok (.aload_n 0, 1) := by decide +kernel
theorem d_Mo_grow_53 : decode b_Mo_grow 53 = .ok (.getfield 45, 3) := by decide +kernel
theorem d_Mo_grow_56 : decode b_Mo_grow 56 = .ok (.iconst 0, 1) := by decide +kernel
theorem d_Mo_grow_57 : decode b_Mo_grow 57 = .ok (.lconst 1, 1) := by decide +kernel
theorem d_Mo_grow_58 : decode b_Mo_grow 58 = .ok (.lastore, 1) := by decide +kernel
theorem d_Mo_grow_59 : decode b_Mo_grow 59 = .ok (.iconst 0, 1) := by decide +kernel
theorem d_Mo_grow_60 : decode b_Mo_grow 60 = .ok (.istore 4, 2) := by decide +kernel
theorem d_Mo_grow_62 : decode b_Mo_grow 62 = .ok (.iload 4, 2) := by decide +kernel
theorem d_Mo_grow_64 : decode b_Mo_grow 64 = .ok (.iload_n 3, 1) := by decide +kernel
theorem d_Mo_grow_65 : decode b_Mo_grow 65 = .ok (.if_icmp .ge 96, 3) := by decide +kernel
theorem d_Mo_grow_68 : decode b_Mo_grow 68 = .ok (.iload_n 3, 1) := by decide +kernel
theorem d_Mo_grow_69 : decode b_Mo_grow 69 = .ok (.bipush 61, 2) := by decide +kernel
theorem d_Mo_grow_71 : decode b_Mo_grow 71 = .ok (.if_icmp .ge 90, 3) := by decide +kernel
theorem d_Mo_grow_74 : decode b_Mo_grow 74 = .ok (.iconst 0, 1) := by decide +kernel
theorem d_Mo_grow_75 : decode b_Mo_grow 75 = .ok (.istore 5, 2) := by decide +kernel
theorem d_Mo_grow_77 : decode b_Mo_grow 77 = .ok (.iload 5, 2) := by decide +kernel
theorem d_Mo_grow_79 : decode b_Mo_grow 79 = .ok (.iconst 2, 1) := by decide +kernel
theorem d_Mo_grow_80 : decode b_Mo_grow 80 = .ok (.if_icmp .ge 75, 3) := by decide +kernel
theorem d_Mo_grow_83 : decode b_Mo_grow 83 = .ok (.iload_n 3, 1) := by decide +kernel
theorem d_Mo_grow_84 : decode b_Mo_grow 84 = .ok (.bipush 61, 2) := by decide +kernel
theorem d_Mo_grow_86 : decode b_Mo_grow 86 = .ok (.if_icmp .ge 69, 3) := by decide +kernel
theorem d_Mo_grow_89 : decode b_Mo_grow 89 = .ok (.aload_n 0, 1) := by decide +kernel
theorem d_Mo_grow_90 : decode b_Mo_grow 90 = .ok (.aload_n 0, 1) := by decide +kernel
theorem d_Mo_grow_91 : decode b_Mo_grow 91 = .ok (.getfield 42, 3) := by decide +kernel
theorem d_Mo_grow_94 : decode b_Mo_grow 94 = .ok (.iload 4, 2) := by decide +kernel
theorem d_Mo_grow_96 : decode b_Mo_grow 96 = .ok (.iaload, 1) := by decide +kernel
theorem d_Mo_grow_97 : decode b_Mo_grow 97 = .ok (.iload_n 1, 1) := by decide +kernel
theorem d_Mo_grow_98 : decode b_Mo_grow 98 = .ok (.iload_n 2, 1) := by decide +kernel
theorem d_Mo_grow_99 : decode b_Mo_grow 99 = .ok (.iload 5, 2) := by decide +kernel
theorem d_Mo_grow_101 : decode b_Mo_grow 101 = .ok (.invokevirtual 118, 3) := by decide +kernel
theorem d_Mo_grow_104 : decode b_Mo_grow 104 = .ok (.istore 6, 2) := by decide +kernel
theorem d_Mo_grow_106 : decode b_Mo_grow 106 = .ok (.aload_n 0, 1) := by decide +kernel
theorem d_Mo_grow_107 : decode b_Mo_grow 107 = .ok (.iload 6, 2) := by decide +kernel
theorem d_Mo_grow_109 : decode b_Mo_grow 109 = .ok (.iload_n 3, 1) := by decide +kernel
theorem d_Mo_grow_110 : decode b_Mo_grow 110 = .ok (.invokevirtual 122, 3) := by decide +kernel
theorem d_Mo_grow_113 : decode b_Mo_grow 113 = .ok (.iload_n 3, 1) := by decide +kernel
theorem d_Mo_grow_114 : decode b_Mo_grow 114 = .ok (.if_icmp .ne 35, 3) := by decide +kernel
theorem d_Mo_grow_117 : decode b_Mo_grow 117 = .ok (.aload_n 0, 1) := by decide +kernel
theorem d_Mo_grow_118 : decode b_Mo_grow 118 = .ok (.getfield 42, 3) := by decide +kernel
theorem d_Mo_grow_121 : decode b_Mo_grow 121 = .ok (.iload_n 3, 1) := by decide +kernel
theorem d_Mo_grow_122 : decode b_Mo_grow 122 = .ok (.iload 6, 2) := by decide +kernel
theorem d_Mo_grow_124 : decode b_Mo_grow 124 = .ok (.iastore, 1) := by decide +kernel
theorem d_Mo_grow_125 : decode b_Mo_grow 125 = .ok (.aload_n 0, 1) := by decide +kernel
theorem d_Mo_grow_126 : decode b_Mo_grow 126 = .ok (.getfield 45, 3) := by decide +kernel
theorem d_Mo_grow_129 : decode b_Mo_grow 129 = .ok (.iload_n 3, 1) := by decide +kernel
theorem d_Mo_grow_130 : decode b_Mo_grow 130 = .ok (.ldc2_w 125, 3) := by decide +kernel
theorem d_Mo_grow_133 : decode b_Mo_grow 133 = .ok (.aload_n 0, 1) := by decide +kernel
theorem d_Mo_grow_134 : decode b_Mo_grow 134 = .ok (.getfield 45, 3) := by decide +kernel
theorem d_Mo_grow_137 : decode b_Mo_grow 137 = .ok (.iload 4, 2) := by decide +kernel
theorem d_Mo_grow_139 : decode b_Mo_grow 139 = .ok (.laload, 1) := by decide +kernel
theorem d_Mo_grow_140 : decode b_Mo_grow 140 = .ok (.lmul, 1) := by decide +kernel
theorem d_Mo_grow_141 : decode b_Mo_grow 141 = .ok (.iload 5, 2) := by decide +kernel
theorem d_Mo_grow_143 : decode b_Mo_grow 143 = .ok (.i2l, 1) := by decide +kernel
theorem d_Mo_grow_144 : decode b_Mo_grow 144 = .ok (.ladd, 1) := by decide +kernel
theorem d_Mo_grow_145 : decode b_Mo_grow 145 = .ok (.lastore, 1) := by decide +kernel
theorem d_Mo_grow_146 : decode b_Mo_grow 146 = .ok (.iinc 3 1, 3) := by decide +kernel
theorem d_Mo_grow_149 : decode b_Mo_grow 149 = .ok (.iinc 5 1, 3) := by decide +kernel
theorem d_Mo_grow_152 : decode b_Mo_grow 152 = .ok (.goto (-75), 3) := by decide +kernel
theorem d_Mo_grow_155 : decode b_Mo_grow 155 = .ok (.iinc 4 1, 3) := by decide +kernel
theorem d_Mo_grow_158 : decode b_Mo_grow 158 = .ok (.goto (-96), 3) := by decide +kernel
theorem d_Mo_grow_161 : decode b_Mo_grow 161 = .ok (.iload_n 3, 1) := by decide +kernel
theorem d_Mo_grow_162 : decode b_Mo_grow 162 = .ok (.ireturn, 1) := by decide +kernel
