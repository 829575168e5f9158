theorem d_LA_chain_0 : decode b_LA_chain 0 = .ok (.aload_n 0, 1) := by decide +kernel
theorem d_LA_chain_1 : decode b_LA_chain 1 = .ok (.iload_n 1, 1) := by decide +kernel
theorem d_LA_chain_2 : decode b_LA_chain 2 = .ok (.invokevirtual 39, 3) := by decide +kernel
theorem d_LA_chain_5 : decode b_LA_chain 5 = .ok (.ifCond .eq 11, 3) := by decide +kernel
theorem d_LA_chain_8 : decode b_LA_chain 8 = .ok (.aload_n 0, 1) := by decide +kernel
theorem d_LA_chain_9 : decode b_LA_chain 9 = .ok (.iload_n 2, 1) := by decide +kernel
theorem d_LA_chain_10 : decode b_LA_chain 10 = .ok (.invokevirtual 39, 3) := by decide +kernel
theorem d_LA_chain_13 : decode b_LA_chain 13 = .ok (.ifCond .ne 5, 3) := by decide +kernel
theorem d_LA_chain_16 : decode b_LA_chain 16 = .ok (.iconst (-1), 1) := by decide +kernel
theorem d_LA_chain_17 : decode b_LA_chain 17 = .ok (.ireturn, 1) := by decide +kernel
theorem d_LA_chain_18 : decode b_LA_chain 18 = .ok (.aload_n 0, 1) := by decide +kernel
theorem d_LA_chain_19 : decode b_LA_chain 19 = .ok (.new 48, 3) := by decide +kernel
theorem d_LA_chain_22 : decode b_LA_chain 22 = .ok (.dup, 1) := by decide +kernel
theorem d_LA_chain_23 : decode b_LA_chain 23 = .ok (.aload_n 0, 1) := by decide +kernel
theorem d_LA_chain_24 : decode b_LA_chain 24 = .ok (.getfield 11, 3) := by decide +kernel
theorem d_LA_chain_27 : decode b_LA_chain 27 = .ok (.iload_n 1, 1) := by decide +kernel
theorem d_LA_chain_28 : decode b_LA_chain 28 = .ok (.aaload, 1) := by decide +kernel
theorem d_LA_chain_29 : decode b_LA_chain 29 = .ok (.aload_n 0, 1) := by decide +kernel
theorem d_LA_chain_30 : decode b_LA_chain 30 = .ok (.getfield 11, 3) := by decide +kernel
theorem d_LA_chain_33 : decode b_LA_chain 33 = .ok (.iload_n 2, 1) := by decide +kernel
theorem d_LA_chain_34 : decode b_LA_chain 34 = .ok (.aaload, 1) := by decide +kernel
theorem d_LA_chain_35 : decode b_LA_chain 35 = .ok (.invokespecial 50, 3) := by decide +kernel
theorem d_LA_chain_38 : decode b_LA_chain 38 = .ok (.invokevirtual 35, 3) := by decide +kernel
theorem d_LA_chain_41 : decode b_LA_chain 41 = .ok (.ireturn, 1) := by decide +kernel
theorem d_Ch_init_0 : decode b_Ch_init 0 = .ok (.aload_n 0, 1) := by decide +kernel
theorem d_Ch_init_1 : decode b_Ch_init 1 = .ok (.invokespecial 3, 3) := by decide +kernel
theorem d_Ch_init_4 : decode b_Ch_init 4 = .ok (.aload_n 0, 1) := by decide +kernel
theorem d_Ch_init_5 : decode b_Ch_init 5 = .ok (.aload_n 1, 1) := by decide +kernel
theorem d_Ch_init_6 : decode b_Ch_init 6 = .ok (.putfield 9, 3) := by decide +kernel
theorem d_Ch_init_9 : decode b_Ch_init 9 = .ok (.aload_n 0, 1) := by decide +kernel
theorem d_Ch_init_10 : decode b_Ch_init 10 = .ok (.aload_n 2, 1) := by decide +kernel
theorem d_Ch_init_11 : decode b_Ch_init 11 = .ok (.putfield 15, 3) := by decide +kernel
theorem d_Ch_init_14 : decode b_Ch_init 14 = .ok (.return_, 1) := by decide +kernel
theorem d_LA_star_0 : decode b_LA_star 0 = .ok (.aload_n 0, 1) := by decide +kernel
theorem d_LA_star_1 : decode b_LA_star 1 = .ok (.iload_n 1, 1) := by decide +kernel
theorem d_LA_star_2 : decode b_LA_star 2 = .ok (.invokevirtual 39, 3) := by decide +kernel
theorem d_LA_star_5 : decode b_LA_star 5 = .ok (.ifCond .ne 5, 3) := by decide +kernel
theorem d_LA_star_8 : decode b_LA_star 8 = .ok (.iconst (-1), 1) := by decide +kernel
theorem d_LA_star_9 : decode b_LA_star 9 = .ok (.ireturn, 1) := by decide +kernel
theorem d_LA_star_10 : decode b_LA_star 10 = .ok (.aload_n 0, 1) := by decide +kernel
theorem d_LA_star_11 : decode b_LA_star 11 = .ok (.new 53, 3) := by decide +kernel
theorem d_LA_star_14 : decode b_LA_star 14 = .ok (.dup, 1) := by decide +kernel
theorem d_LA_star_15 : decode b_LA_star 15 = .ok (.aload_n 0, 1) := by decide +kernel
theorem d_LA_star_16 : decode b_LA_star 16 = .ok (.getfield 11, 3) := by decide +kernel
theorem d_LA_star_19 : decode b_LA_star 19 = .ok (.iload_n 1, 1) := by decide +kernel
theorem d_LA_star_20 : decode b_LA_star 20 = .ok (.aaload, 1) := by decide +kernel
theorem d_LA_star_21 : decode b_LA_star 21 = .ok (.invokespecial 55, 3) := by decide +kernel
theorem d_LA_star_24 : decode b_LA_star 24 = .ok (.invokevirtual 35, 3) := by decide +kernel
theorem d_LA_star_27 : decode b_LA_star 27 = .ok (.ireturn, 1) := by decide +kernel
theorem d_St_init_0 : decode b_St_init 0 = .ok (.aload_n 0, 1) := by decide +kernel
theorem d_St_init_1 : decode b_St_init 1 = .ok (.invokespecial 3, 3) := by decide +kernel
theorem d_St_init_4 : decode b_St_init 4 = .ok (.aload_n 0, 1) := by decide +kernel
theorem d_St_init_5 : decode b_St_init 5 = .ok (.aload_n 1, 1) := by decide +kernel
theorem d_St_init_6 : decode b_St_init 6 = .ok (.putfield 9, 3) := by decide +kernel
theorem d_St_init_9 : decode b_St_init 9 = .ok (.return_, 1) := by decide +kernel
theorem d_LA_invert_0 : decode b_LA_invert 0 = .ok (.aload_n 0, 1) := by decide +kernel
theorem d_LA_invert_1 : decode b_LA_invert 1 = .ok (.iload_n 1, 1) := by decide +kernel
theorem d_LA_invert_2 : decode b_LA_invert 2 = .ok (.invokevirtual 39, 3) := by decide +kernel
theorem d_LA_invert_5 : decode b_LA_invert 5 = .ok (.ifCond .ne 5, 3) := by decide +kernel
theorem d_LA_invert_8 : decode b_LA_invert 8 = .ok (.iconst (-1), 1) := by decide +kernel
theorem d_LA_invert_9 : decode b_LA_invert 9 = .ok (.ireturn, 1) := by decide +kernel
theorem d_LA_invert_10 : decode b_LA_invert 10 = .ok (.aload_n 0, 1) := by decide +kernel
theorem d_LA_invert_11 : decode b_LA_invert 11 = .ok (.new 58, 3) := by decide +kernel
theorem d_LA_invert_14 : decode b_LA_invert 14 = .ok (.dup, 1) := by decide +kernel
theorem d_LA_invert_15 : decode b_LA_invert 15 = .ok (.aload_n 0, 1) := by decide +kernel
theorem d_LA_invert_16 : decode b_LA_invert 16 = .ok (.getfield 11, 3) := by decide +kernel
theorem d_LA_invert_19 : decode b_LA_invert 19 = .ok (.iload_n 1, 1) := by decide +kernel
theorem d_LA_invert_20 : decode b_LA_invert 20 = .ok (.aaload, 1) := by decide +kernel
theorem d_LA_invert_21 : decode b_LA_invert 21 = .ok (.invokespecial 60, 3) := by decide +kernel
theorem d_LA_invert_24 : decode b_LA_invert 24 = .ok (.invokevirtual 35, 3) := by decide +kernel
theorem d_LA_invert_27 : decode b_LA_invert 27 = .ok (.ireturn, 1) := by decide +kernel
theorem d_In_init_0 : decode b_In_init 0 = .ok (.aload_n 0, 1) := by decide +kernel
theorem d_In_init_1 : decode b_In_init 1 = .ok (.invokespecial 1, 3) := by decide +kernel
theorem d_In_init_4 : decode b_In_init 4 = .ok (.aload_n 0, 1) := by decide +kernel
theorem d_In_init_5 : decode b_In_init 5 = .ok (.aload_n 1, 1) := by decide +kernel
theorem d_In_init_6 : decode b_In_init 6 = .ok (.putfield 7, 3) := by decide +kernel
theorem d_In_init_9 : decode b_In_init 9 = .ok (.return_, 1) := by decide +kernel
theorem d_LA_forget_0 : decode b_LA_forget 0 = .ok (.aload_n 0, 1) := by decide +kernel
theorem d_LA_forget_1 : decode b_LA_forget 1 = .ok (.getfield 61, 3) := by decide +kernel
theorem d_LA_forget_4 : decode b_LA_forget 4 = .ok (.ifCond .ne 5, 3) := by decide +kernel
theorem d_LA_forget_7 : decode b_LA_forget 7 = .ok (.iconst 0, 1) := by decide +kernel
theorem d_LA_forget_8 : decode b_LA_forget 8 = .ok (.ireturn, 1) := by decide +kernel
theorem d_LA_forget_9 : decode b_LA_forget 9 = .ok (.aload_n 0, 1) := by decide +kernel
theorem d_LA_forget_10 : decode b_LA_forget 10 = .ok (.dup, 1) := by decide +kernel
theorem d_LA_forget_11 : decode b_LA_forget 11 = .ok (.getfield 61, 3) := by decide +kernel
theorem d_LA_forget_14 : decode b_LA_forget 14 = .ok (.iconst 1, 1) := by decide +kernel
theorem d_LA_forget_15 : decode b_LA_forget 15 = .ok (.isub, 1) := by decide +kernel
theorem d_LA_forget_16 : decode b_LA_forget 16 = .ok (.putfield 61, 3) := by decide +kernel
theorem d_LA_forget_19 : decode b_LA_forget 19 = .ok (.iconst 1, 1) := by decide +kernel
theorem d_LA_forget_20 : decode b_LA_forget 20 = .ok (.ireturn, 1) := by decide +kernel
theorem d_LA_count_0 : decode b_LA_count 0 = .ok (.aload_n 0, 1) := by decide +kernel
theorem d_LA_count_1 : decode b_LA_count 1 = .ok (.getfield 61, 3) := by decide +kernel
theorem d_LA_count_4 : decode b_LA_count 4 = .ok (.ireturn, 1) := by decide +kernel
theorem d_LA_states_0 : decode b_LA_states 0 = .ok (.aload_n 0, 1) := by decide +kernel
theorem d_LA_states_1 : decode b_LA_states 1 = .ok (.iload_n 1, 1) := by decide +kernel
theorem d_LA_states_2 : decode b_LA_states 2 = .ok (.invokevirtual 39, 3) := by decide +kernel
theorem d_LA_states_5 : decode b_LA_states 5 = .ok (.ifCond .eq 15, 3) := by decide +kernel
theorem d_LA_states_8 : decode b_LA_states 8 = .ok (.aload_n 0, 1) := by decide +kernel
theorem d_LA_states_9 : decode b_LA_states 9 = .ok (.getfield 11, 3) := by decide +kernel
theorem d_LA_states_12 : decode b_LA_states 12 = .ok (.iload_n 1, 1) := by decide +kernel
theorem d_LA_states_13 : decode b_LA_states 13 = .ok (.aaload, 1) := by decide +kernel
theorem d_LA_states_14 : decode b_LA_states 14 = .ok (.getfield 65, 3) := by decide +kernel
theorem d_LA_states_17 : decode b_LA_states 17 = .ok (.goto 4, 3) := by decide +kernel
theorem d_LA_states_20 : decode b_LA_states 20 = .ok (.iconst (-1), 1) := by decide +kernel
theorem d_LA_states_21 : decode b_LA_states 21 = .ok (.ireturn, 1) := by decide +kernel
theorem d_LA_next_0 : decode b_LA_next 0 = .ok (.aload_n 0, 1) := by decide +kernel
theorem d_LA_next_1 : decode b_LA_next 1 = .ok (.iload_n 1, 1) := by decide +kernel
theorem d_LA_next_2 : decode b_LA_next 2 = .ok (.invokevirtual 39, 3) := by decide +kernel
theorem d_LA_next_5 : decode b_LA_next 5 = .ok (.ifCond .eq 25, 3) := by decide +kernel
theorem d_LA_next_8 : decode b_LA_next 8 = .ok (.aload_n 0, 1) := by decide +kernel
theorem d_LA_next_9 : decode b_LA_next 9 = .ok (.getfield 11, 3) := by decide +kernel
theorem d_LA_next_12 : decode b_LA_next 12 = .ok (.iload_n 1, 1) := by decide +kernel
theorem d_LA_next_13 : decode b_LA_next 13 = .ok (.aaload, 1) := by decide +kernel
theorem d_LA_next_14 : decode b_LA_next 14 = .ok (.iload_n 2, 1) := by decide +kernel
theorem d_LA_next_15 : decode b_LA_next 15 = .ok (.invokevirtual 68, 3) := by decide +kernel
theorem d_LA_next_18 : decode b_LA_next 18 = .ok (.ifCond .eq 12, 3) := by decide +kernel
theorem d_LA_next_21 : decode b_LA_next 21 = .ok (.iload_n 3, 1) := by decide +kernel
theorem d_LA_next_22 : decode b_LA_next 22 = .ok (.ifCond .lt 8, 3) := by decide +kernel
theorem d_LA_next_25 : decode b_LA_next 25 = .ok (.iload_n 3, 1) := by decide +kernel
theorem d_LA_next_26 : decode b_LA_next 26 = .ok (.iconst 2, 1) := by decide +kernel
theorem d_LA_next_27 : decode b_LA_next 27 = .ok (.if_icmp .lt 5, 3) := by decide +kernel
theorem d_LA_next_30 : decode b_LA_next 30 = .ok (.iconst (-1), 1) := by decide +kernel
theorem d_LA_next_31 : decode b_LA_next 31 = .ok (.ireturn, 1) := by decide +kernel
theorem d_LA_next_32 : decode b_LA_next 32 = .ok (.aload_n 0, 1) := by decide +kernel
theorem d_LA_next_33 : decode b_LA_next 33 = .ok (.getfield 11, 3) := by decide +kernel
theorem d_LA_next_36 : decode b_LA_next 36 = .ok (.iload_n 1, 1) := by decide +kernel
theorem d_LA_next_37 : decode b_LA_next 37 = .ok (.aaload, 1) := by decide +kernel
theorem d_LA_next_38 : decode b_LA_next 38 = .ok (.iload_n 2, 1) := by decide +kernel
theorem d_LA_next_39 : decode b_LA_next 39 = .ok (.iload_n 3, 1) := by decide +kernel
theorem d_LA_next_40 : decode b_LA_next 40 = .ok (.invokevirtual 71, 3) := by decide +kernel
theorem d_LA_next_43 : decode b_LA_next 43 = .ok (.ireturn, 1) := by decide +kernel
theorem d_Au_hasState_0 : decode b_Au_hasState 0 = .ok (.iload_n 1, 1) := by decide +kernel
theorem d_Au_hasState_1 : decode b_Au_hasState 1 = .ok (.ifCond .lt 15, 3) := by decide +kernel
theorem d_Au_hasState_4 : decode b_Au_hasState 4 = .ok (.iload_n 1, 1) := by decide +kernel
theorem d_Au_hasState_5 : decode b_Au_hasState 5 = .ok (.aload_n 0, 1) := by decide +kernel
theorem d_Au_hasState_6 : decode b_Au_hasState 6 = .ok (.getfield 15, 3) := by decide +kernel
theorem d_Au_hasState_9 : decode b_Au_hasState 9 = .ok (.if_icmp .ge 7, 3) := by decide +kernel
theorem d_Au_hasState_12 : decode b_Au_hasState 12 = .ok (.iconst 1, 1) := by decide +kernel
theorem d_Au_hasState_13 : decode b_Au_hasState 13 = .ok (.goto 4, 3) := by decide +kernel
theorem d_Au_hasState_16 : decode b_Au_hasState 16 = .ok (.iconst 0, 1) := by decide +kernel
theorem d_Au_hasState_17 : decode b_Au_hasState 17 = .ok (.ireturn, 1) := by decide +kernel
theorem d_LA_accepts_0 : decode b_LA_accepts 0 = .ok (.aload_n 0, 1) := by decide +kernel
theorem d_LA_accepts_1 : decode b_LA_accepts 1 = .ok (.iload_n 1, 1) := by decide +kernel
theorem d_LA_accepts_2 : decode b_LA_accepts 2 = .ok (.invokevirtual 39, 3) := by decide +kernel
theorem d_LA_accepts_5 : decode b_LA_accepts 5 = .ok (.ifCond .eq 33, 3) := by decide +kernel
theorem d_LA_accepts_8 : decode b_LA_accepts 8 = .ok (.aload_n 0, 1) := by decide +kernel
theorem d_LA_accepts_9 : decode b_LA_accepts 9 = .ok (.getfield 11, 3) := by decide +kernel
theorem d_LA_accepts_12 : decode b_LA_accepts 12 = .ok (.iload_n 1, 1) := by decide +kernel
theorem d_LA_accepts_13 : decode b_LA_accepts 13 = .ok (.aaload, 1) := by decide +kernel
theorem d_LA_accepts_14 : decode b_LA_accepts 14 = .ok (.iload_n 2, 1) := by decide +kernel
theorem d_LA_accepts_15 : decode b_LA_accepts 15 = .ok (.invokevirtual 68, 3) := by decide +kernel
theorem d_LA_accepts_18 : decode b_LA_accepts 18 = .ok (.ifCond .eq 20, 3) := by decide +kernel
theorem d_LA_accepts_21 : decode b_LA_accepts 21 = .ok (.aload_n 0, 1) := by decide +kernel
theorem d_LA_accepts_22 : decode b_LA_accepts 22 = .ok (.getfield 11, 3) := by decide +kernel
theorem d_LA_accepts_25 : decode b_LA_accepts 25 = .ok (.iload_n 1, 1) := by decide +kernel
theorem d_LA_accepts_26 : decode b_LA_accepts 26 = .ok (.aaload, 1) := by decide +kernel
theorem d_LA_accepts_27 : decode b_LA_accepts 27 = .ok (.iload_n 2, 1) := by decide +kernel
theorem d_LA_accepts_28 : decode b_LA_accepts 28 = .ok (.invokevirtual 75, 3) := by decide +kernel
theorem d_LA_accepts_31 : decode b_LA_accepts 31 = .ok (.ifCond .eq 7, 3) := by decide +kernel
theorem d_LA_accepts_34 : decode b_LA_accepts 34 = .ok (.iconst 1, 1) := by decide +kernel
theorem d_LA_accepts_35 : decode b_LA_accepts 35 = .ok (.goto 4, 3) := by decide +kernel
theorem d_LA_accepts_38 : decode b_LA_accepts 38 = .ok (.iconst 0, 1) := by decide +kernel
theorem d_LA_accepts_39 : decode b_LA_accepts 39 = .ok (.ireturn, 1) := by decide +kernel
theorem d_LA_contains_0 : decode b_LA_contains 0 = .ok (.aload_n 0, 1) := by decide +kernel
theorem d_LA_contains_1 : decode b_LA_contains 1 = .ok (.iload_n 1, 1) := by decide +kernel
theorem d_LA_contains_2 : decode b_LA_contains 2 = .ok (.invokevirtual 39, 3) := by decide +kernel
theorem d_LA_contains_5 : decode b_LA_contains 5 = .ok (.ifCond .eq 15, 3) := by decide +kernel
theorem d_LA_contains_8 : decode b_LA_contains 8 = .ok (.iload 4, 2) := by decide +kernel
theorem d_LA_contains_10 : decode b_LA_contains 10 = .ok (.ifCond .lt 10, 3) := by decide +kernel
theorem d_LA_contains_13 : decode b_LA_contains 13 = .ok (.iload 4, 2) := by decide +kernel
theorem d_LA_contains_15 : decode b_LA_contains 15 = .ok (.bipush 64, 2) := by decide +kernel
theorem d_LA_contains_17 : decode b_LA_contains 17 = .ok (.if_icmp .le 5, 3) := by decide +kernel
theorem d_LA_contains_20 : decode b_LA_contains 20 = .ok (.iconst 0, 1) := by decide +kernel
theorem d_LA_contains_21 : decode b_LA_contains 21 = .ok (.ireturn, 1) := by decide +kernel
theorem d_LA_contains_22 : decode b_LA_contains 22 = .ok (.aload_n 0, 1) := by decide +kernel
theorem d_LA_contains_23 : decode b_LA_contains 23 = .ok (.getfield 11, 3) := by decide +kernel
theorem d_LA_contains_26 : decode b_LA_contains 26 = .ok (.iload_n 1, 1) := by decide +kernel
theorem d_LA_contains_27 : decode b_LA_contains 27 = .ok (.aaload, 1) := by decide +kernel
theorem d_LA_contains_28 : decode b_LA_contains 28 = .ok (.astore 5, 2) := by decide +kernel
theorem d_LA_contains_30 : decode b_LA_contains 30 = .ok (.iconst 0, 1) := by decide +kernel
theorem d_LA_contains_31 : decode b_LA_contains 31 = .ok (.istore 6, 2) := by decide +kernel
theorem d_LA_contains_33 : decode b_LA_contains 33 = .ok (.iconst 0, 1) := by decide +kernel
theorem d_LA_contains_34 : decode b_LA_contains 34 = .ok (.istore 7, 2) := by decide +kernel
theorem d_LA_contains_36 : decode b_LA_contains 36 = .ok (.iload 7, 2) := by decide +kernel
theorem d_LA_contains_38 : decode b_LA_contains 38 = .ok (.iload 4, 2) := by decide +kernel
theorem d_LA_contains_40 : decode b_LA_contains 40 = .ok (.if_icmp .ge 25, 3) := by decide +kernel
theorem d_LA_contains_43 : decode b_LA_contains 43 = .ok (.aload 5, 2) := by decide +kernel
theorem d_LA_contains_45 : decode b_LA_contains 45 = .ok (.iload 6, 2) := by decide +kernel
theorem d_LA_contains_47 : decode b_LA_contains 47 = .ok (.lload_n 2, 1) := by decide +kernel
theorem d_LA_contains_48 : decode b_LA_contains 48 = .ok (.iload 7, 2) := by decide +kernel
theorem d_LA_contains_50 : decode b_LA_contains 50 = .ok (.lushr, 1) := by decide +kernel
theorem d_LA_contains_51 : decode b_LA_contains 51 = .ok (.l2i, 1) := by decide +kernel
theorem d_LA_contains_52 : decode b_LA_contains 52 = .ok (.iconst 1, 1) := by decide +kernel
theorem d_LA_contains_53 : decode b_LA_contains 53 = .ok (.iand, 1) := by decide +kernel
theorem d_LA_contains_54 : decode b_LA_contains 54 = .ok (.invokevirtual 71, 3) := by decide +kernel
theorem d_LA_contains_57 : decode b_LA_contains 57 = .ok (.istore 6, 2) := by decide +kernel
theorem d_LA_contains_59 : decode b_LA_contains 59 = .ok (.iinc 7 1, 3) := by decide +kernel
theorem d_LA_contains_62 : decode b_LA_contains 62 = .ok (.goto (-26), 3) := by decide +kernel
theorem d_LA_contains_65 : decode b_LA_contains 65 = .ok (.aload 5, 2) := by decide +kernel
theorem d_LA_contains_67 : decode b_LA_contains 67 = .ok (.iload 6, 2) := by decide +kernel
theorem d_LA_contains_69 : decode b_LA_contains 69 = .ok (.invokevirtual 75, 3) := by decide +kernel
theorem d_LA_contains_72 : decode b_LA_contains 72 = .ok (.ireturn, 1) := by decide +kernel
theorem d_LA_same_0 : decode b_LA_same 0 = .ok (.aload_n 0, 1) := by decide +kernel
theorem d_LA_same_1 : decode b_LA_same 1 = .ok (.iload_n 1, 1) := by decide +kernel
theorem d_LA_same_2 : decode b_LA_same 2 = .ok (.invokevirtual 39, 3) := by decide +kernel
theorem d_LA_same_5 : decode b_LA_same 5 = .ok (.ifCond .eq 33, 3) := by decide +kernel
theorem d_LA_same_8 : decode b_LA_same 8 = .ok (.aload_n 0, 1) := by decide +kernel
theorem d_LA_same_9 : decode b_LA_same 9 = .ok (.iload_n 2, 1) := by decide +kernel
theorem d_LA_same_10 : decode b_LA_same 10 = .ok (.invokevirtual 39, 3) := by decide +kernel
theorem d_LA_same_13 : decode b_LA_same 13 = .ok (.ifCond .eq 25, 3) := by decide +kernel
theorem d_LA_same_16 : decode b_LA_same 16 = .ok (.aload_n 0, 1) := by decide +kernel
theorem d_LA_same_17 : decode b_LA_same 17 = .ok (.getfield 11, 3) := by decide +kernel
theorem d_LA_same_20 : decode b_LA_same 20 = .ok (.iload_n 1, 1) := by decide +kernel
theorem d_LA_same_21 : decode b_LA_same 21 = .ok (.aaload, 1) := by decide +kernel
theorem d_LA_same_22 : decode b_LA_same 22 = .ok (.aload_n 0, 1) := by decide +kernel
theorem d_LA_same_23 : decode b_LA_same 23 = .ok (.getfield 11, 3) := by decide +kernel
theorem d_LA_same_26 : decode b_LA_same 26 = .ok (.iload_n 2, 1) := by decide +kernel
theorem d_LA_same_27 : decode b_LA_same 27 = .ok (.aaload, 1) := by decide +kernel
theorem d_LA_same_28 : decode b_LA_same 28 = .ok (.invokevirtual 78, 3) := by decide +kernel
theorem d_LA_same_31 : decode b_LA_same 31 = .ok (.ifCond .eq 7, 3) := by decide +kernel
theorem d_LA_same_34 : decode b_LA_same 34 = .ok (.iconst 1, 1) := by decide +kernel
theorem d_LA_same_35 : decode b_LA_same 35 = .ok (.goto 4, 3) := by decide +kernel
theorem d_LA_same_38 : decode b_LA_same 38 = .ok (.iconst 0, 1) := by decide +kernel
theorem d_LA_same_39 : decode b_LA_same 39 = .ok (.ireturn, 1) := by decide +kernel
theorem d_Au_isLike_0 : decode b_Au_isLike 0 = .ok (.aload_n 0, 1) := by decide +kernel
theorem d_Au_isLike_1 : decode b_Au_isLike 1 = .ok (.getfield 15, 3) := by decide +kernel
theorem d_Au_isLike_4 : decode b_Au_isLike 4 = .ok (.aload_n 1, 1) := by decide +kernel
theorem d_Au_isLike_5 : decode b_Au_isLike 5 = .ok (.getfield 15, 3) := by decide +kernel
theorem d_Au_isLike_8 : decode b_Au_isLike 8 = .ok (.if_icmp .ne 14, 3) := by decide +kernel
theorem d_Au_isLike_11 : decode b_Au_isLike 11 = .ok (.aload_n 0, 1) := by decide +kernel
theorem d_Au_isLike_12 : decode b_Au_isLike 12 = .ok (.getfield 19, 3) := by decide +kernel
theorem d_Au_isLike_15 : decode b_Au_isLike 15 = .ok (.aload_n 1, 1) := by decide +kernel
theorem d_Au_isLike_16 : decode b_Au_isLike 16 = .ok (.getfield 19, 3) := by decide +kernel
theorem d_Au_isLike_19 : decode b_Au_isLike 19 = .ok (.if_icmp .eq 5, 3) := by decide +kernel
theorem d_Au_isLike_22 : decode b_Au_isLike 22 = .ok (.iconst 0, 1) := by decide +kernel
theorem d_Au_isLike_23 : decode b_Au_isLike 23 = .ok (.ireturn, 1) := by decide +kernel
theorem d_Au_isLike_24 : decode b_Au_isLike 24 = .ok (.iconst 0, 1) := by decide +kernel
theorem d_Au_isLike_25 : decode b_Au_isLike 25 = .ok (.istore_n 2, 1) := by decide +kernel
theorem d_Au_isLike_26 : decode b_Au_isLike 26 = .ok (.iload_n 2, 1) := by decide +kernel
theorem d_Au_isLike_27 : decode b_Au_isLike 27 = .ok (.iconst 2, 1) := by decide +kernel
theorem d_Au_isLike_28 : decode b_Au_isLike 28 = .ok (.aload_n 0, 1) := by decide +kernel
theorem d_Au_isLike_29 : decode b_Au_isLike 29 = .ok (.getfield 15, 3) := by decide +kernel
theorem d_Au_isLike_32 : decode b_Au_isLike 32 = .ok (.imul, 1) := by decide +kernel
theorem d_Au_isLike_33 : decode b_Au_isLike 33 = .ok (.if_icmp .ge 26, 3) := by decide +kernel
theorem d_Au_isLike_36 : decode b_Au_isLike 36 = .ok (.aload_n 0, 1) := by decide +kernel
theorem d_Au_isLike_37 : decode b_Au_isLike 37 = .ok (.getfield 9, 3) := by decide +kernel
theorem d_Au_isLike_40 : decode b_Au_isLike 40 = .ok (.iload_n 2, 1) := by decide +kernel
theorem d_Au_isLike_41 : decode b_Au_isLike 41 = .ok (.iaload, 1) := by decide +kernel
theorem d_Au_isLike_42 : decode b_Au_isLike 42 = .ok (.aload_n 1, 1) := by decide +kernel
theorem d_Au_isLike_43 : decode b_Au_isLike 43 = .ok (.getfield 9, 3) := by decide +kernel
theorem d_Au_isLike_46 : decode b_Au_isLike 46 = .ok (.iload_n 2, 1) := by decide +kernel
theorem d_Au_isLike_47 : decode b_Au_isLike 47 = .ok (.iaload, 1) := by decide +kernel
theorem d_Au_isLike_48 : decode b_Au_isLike 48 = .ok (.if_icmp .eq 5, 3) := by decide +kernel
theorem d_Au_isLike_51 : decode b_Au_isLike 51 = .ok (.iconst 0, 1) := by decide +kernel
theorem d_Au_isLike_52 : decode b_Au_isLike 52 = .ok (.ireturn, 1) := by decide +kernel
theorem d_Au_isLike_53 : decode b_Au_isLike 53 = .ok (.iinc 2 1, 3) := by decide +kernel
theorem d_Au_isLike_56 : decode b_Au_isLike 56 = .ok (.goto (-30), 3) := by decide +kernel
theorem d_Au_isLike_59 : decode b_Au_isLike 59 = .ok (.iconst 1, 1) := by decide +kernel
theorem d_Au_isLike_60 : decode b_Au_isLike 60 = .ok (.ireturn, 1) := by decide +kernel
theorem d_LA_study_0 : decode b_LA_study 0 = .ok (.aload_n 0, 1) := by decide +kernel
theorem d_LA_study_1 : decode b_LA_study 1 = .ok (.iload_n 1, 1) := by decide +kernel
theorem d_LA_study_2 : decode b_LA_study 2 = .ok (.invokevirtual 39, 3) := by decide +kernel
theorem d_LA_study_5 : decode b_LA_study 5 = .ok (.ifCond .ne 5, 3) := by decide +kernel
theorem d_LA_study_8 : decode b_LA_study 8 = .ok (.iconst (-1), 1) := by decide +kernel
theorem d_LA_study_9 : decode b_LA_study 9 = .ok (.ireturn, 1) := by decide +kernel
theorem d_LA_study_10 : decode b_LA_study 10 = .ok (.aload_n 0, 1) := by decide +kernel
theorem d_LA_study_11 : decode b_LA_study 11 = .ok (.getfield 25, 3) := by decide +kernel
theorem d_LA_study_14 : decode b_LA_study 14 = .ok (.aload_n 0, 1) := by decide +kernel
theorem d_LA_study_15 : decode b_LA_study 15 = .ok (.getfield 11, 3) := by decide +kernel
theorem d_LA_study_18 : decode b_LA_study 18 = .ok (.iload_n 1, 1) := by decide +kernel
theorem d_LA_study_19 : decode b_LA_study 19 = .ok (.aaload, 1) := by decide +kernel
theorem d_LA_study_20 : decode b_LA_study 20 = .ok (.invokevirtual 82, 3) := by decide +kernel
theorem d_LA_study_23 : decode b_LA_study 23 = .ok (.ifCond .eq 13, 3) := by decide +kernel
theorem d_LA_study_26 : decode b_LA_study 26 = .ok (.aload_n 0, 1) := by decide +kernel
theorem d_LA_study_27 : decode b_LA_study 27 = .ok (.getfield 25, 3) := by decide +kernel
theorem d_LA_study_30 : decode b_LA_study 30 = .ok (.getfield 85, 3) := by decide +kernel
theorem d_LA_study_33 : decode b_LA_study 33 = .ok (.goto 5, 3) := by decide +kernel
theorem d_LA_study_36 : decode b_LA_study 36 = .ok (.bipush (-3), 2) := by decide +kernel
theorem d_LA_study_38 : decode b_LA_study 38 = .ok (.ireturn, 1) := by decide +kernel
theorem d_Al_workOut_0 : decode b_Al_workOut 0 = .ok (.aload_n 0, 1) := by decide +kernel
theorem d_Al_workOut_1 : decode b_Al_workOut 1 = .ok (.aload_n 1, 1) := by decide +kernel
theorem d_Al_workOut_2 : decode b_Al_workOut 2 = .ok (.invokevirtual 44, 3) := by decide +kernel
theorem d_Al_workOut_5 : decode b_Al_workOut 5 = .ok (.istore_n 2, 1) := by decide +kernel
theorem d_Al_workOut_6 : decode b_Al_workOut 6 = .ok (.iload_n 2, 1) := by decide +kernel
theorem d_Al_workOut_7 : decode b_Al_workOut 7 = .ok (.bipush 60, 2) := by decide +kernel
theorem d_Al_workOut_9 : decode b_Al_workOut 9 = .ok (.if_icmp .le 5, 3) := by decide +kernel
theorem d_Al_workOut_12 : decode b_Al_workOut 12 = .ok (.iconst 0, 1) := by decide +kernel
theorem d_Al_workOut_13 : decode b_Al_workOut 13 = .ok (.ireturn, 1) := by decide +kernel
theorem d_Al_workOut_14 : decode b_Al_workOut 14 = .ok (.aload_n 0, 1) := by decide +kernel
theorem d_Al_workOut_15 : decode b_Al_workOut 15 = .ok (.iload_n 2, 1) := by decide +kernel
theorem d_Al_workOut_16 : decode b_Al_workOut 16 = .ok (.putfield 40, 3) := by decide +kernel
theorem d_Al_workOut_19 : decode b_Al_workOut 19 = .ok (.aload_n 0, 1) := by decide +kernel
theorem d_Al_workOut_20 : decode b_Al_workOut 20 = .ok (.invokevirtual 48, 3) := by decide +kernel
theorem d_Al_workOut_23 : decode b_Al_workOut 23 = .ok (.aload_n 0, 1) := by decide +kernel
theorem d_Al_workOut_24 : decode b_Al_workOut 24 = .ok (.invokevirtual 51, 3) := by decide +kernel
theorem d_Al_workOut_27 : decode b_Al_workOut 27 = .ok (.aload_n 0, 1) := by decide +kernel
theorem d_Al_workOut_28 : decode b_Al_workOut 28 = .ok (.invokevirtual 54, 3) := by decide +kernel
theorem d_Al_workOut_31 : decode b_Al_workOut 31 = .ok (.iconst 1, 1) := by decide +kernel
theorem d_Al_workOut_32 : decode b_Al_workOut 32 = .ok (.ireturn, 1) := by decide +kernel
theorem d_Al_search_0 : decode b_Al_search 0 = .ok (.aload_n 0, 1) := by decide +kernel
theorem d_Al_search_1 : decode b_Al_search 1 = .ok (.getfield 9, 3) := by decide +kernel
theorem d_Al_search_4 : decode b_Al_search 4 = .ok (.iconst 0, 1) := by decide +kernel
theorem d_Al_search_5 : decode b_Al_search 5 = .ok (.aload_n 1, 1) := by decide +kernel
theorem d_Al_search_6 : decode b_Al_search 6 = .ok (.invokevirtual 57, 3) := by decide +kernel
theorem d_Al_search_9 : decode b_Al_search 9 = .ok (.iastore, 1) := by decide +kernel
theorem d_Al_search_10 : decode b_Al_search 10 = .ok (.iconst 1, 1) := by decide +kernel
theorem d_Al_search_11 : decode b_Al_search 11 = .ok (.istore_n 2, 1) := by decide +kernel
theorem d_Al_search_12 : decode b_Al_search 12 = .ok (.iconst 0, 1) := by decide +kernel
theorem d_Al_search_13 : decode b_Al_search 13 = .ok (.istore_n 3, 1) := by decide +kernel
theorem d_Al_search_14 : decode b_Al_search 14 = .ok (.iload_n 3, 1) := by decide +kernel
theorem d_Al_search_15 : decode b_Al_search 15 = .ok (.iload_n 2, 1) := by decide +kernel
theorem d_Al_search_16 : decode b_Al_search 16 = .ok (.if_icmp .ge 108, 3) := by decide +kernel
theorem d_Al_search_19 : decode b_Al_search 19 = .ok (.iload_n 3, 1) := by decide +kernel
theorem d_Al_search_20 : decode b_Al_search 20 = .ok (.bipush 60, 2) := by decide +kernel
theorem d_Al_search_22 : decode b_Al_search 22 = .ok (.if_icmp .ge 102, 3) := by decide +kernel
theorem d_Al_search_25 : decode b_Al_search 25 = .ok (.iconst 0, 1) := by decide +kernel
theorem d_Al_search_26 : decode b_Al_search 26 = .ok (.istore 4, 2) := by decide +kernel
theorem d_Al_search_28 : decode b_Al_search 28 = .ok (.iload 4, 2) := by decide +kernel
theorem d_Al_search_30 : decode b_Al_search 30 = .ok (.iconst 2, 1) := by decide +kernel
theorem d_Al_search_31 : decode b_Al_search 31 = .ok (.if_icmp .ge 87, 3) := by decide +kernel
theorem d_Al_search_34 : decode b_Al_search 34 = .ok (.aload_n 1, 1) := by decide +kernel
theorem d_Al_search_35 : decode b_Al_search 35 = .ok (.aload_n 0, 1) := by decide +kernel
theorem d_Al_search_36 : decode b_Al_search 36 = .ok (.getfield 9, 3) := by decide +kernel
theorem d_Al_search_39 : decode b_Al_search 39 = .ok (.iload_n 3, 1) := by decide +kernel
theorem d_Al_search_40 : decode b_Al_search 40 = .ok (.iaload, 1) := by decide +kernel
theorem d_Al_search_41 : decode b_Al_search 41 = .ok (.iload 4, 2) := by decide +kernel
theorem d_Al_search_43 : decode b_Al_search 43 = .ok (.invokevirtual 63, 3) := by decide +kernel
theorem d_Al_search_46 : decode b_Al_search 46 = .ok (.istore 5, 2) := by decide +kernel
theorem d_Al_search_48 : decode b_Al_search 48 = .ok (.aload_n 0, 1) := by decide +kernel
theorem d_Al_search_49 : decode b_Al_search 49 = .ok (.iload 5, 2) := by decide +kernel
theorem d_Al_search_51 : decode b_Al_search 51 = .ok (.iload_n 2, 1) := by decide +kernel
theorem d_Al_search_52 : decode b_Al_search 52 = .ok (.invokevirtual 67, 3) := by decide +kernel
theorem d_Al_search_55 : decode b_Al_search 55 = .ok (.istore 6, 2) := by decide +kernel
theorem d_Al_search_57 : decode b_Al_search 57 = .ok (.iload 6, 2) := by decide +kernel
theorem d_Al_search_59 : decode b_Al_search 59 = .ok (.bipush 60, 2) := by decide +kernel
theorem d_Al_search_61 : decode b_Al_search 61 = .ok (.if_icmp .ne 6, 3) := by decide +kernel
theorem d_Al_search_64 : decode b_Al_search 64 = .ok (.bipush 61, 2) := by decide +kernel
theorem d_Al_search_66 : decode b_Al_search 66 = .ok (.ireturn, 1) := by decide +kernel
theorem d_Al_search_67 : decode b_Al_search 67 = .ok (.iload 6, 2) := by decide +kernel
theorem d_Al_search_69 : decode b_Al_search 69 = .ok (.iload_n 2, 1) := by decide +kernel
theorem d_Al_search_70 : decode b_Al_search 70 = .ok (.if_icmp .ne 29, 3) := by decide +kernel
theorem d_Al_search_73 : decode b_Al_search 73 = .ok (.aload_n 0, 1) := by decide +kernel
theorem d_Al_search_74 : decode b_Al_search 74 = .ok (.getfield 9, 3) := by decide +kernel
theorem d_Al_search_77 : decode b_Al_search 77 = .ok (.iload_n 2, 1) := by decide +kernel
theorem d_Al_search_78 : decode b_Al_search 78 = .ok (.iload 5, 2) := by decide +kernel
theorem d_Al_search_80 : decode b_Al_search 80 = .ok (.iastore, 1) := by decide +kernel
theorem d_Al_search_81 : decode b_Al_search 81 = .ok (.aload_n 0, 1) := by decide +kernel
theorem d_Al_search_82 : decode b_Al_search 82 = .ok (.getfield 18, 3) := by decide +kernel
theorem d_Al_search_85 : decode b_Al_search 85 = .ok (.iload_n 2, 1) := by decide +kernel
theorem d_Al_search_86 : decode b_Al_search 86 = .ok (.iload_n 3, 1) := by decide +kernel
theorem d_Al_search_87 : decode b_Al_search 87 = .ok (.iastore, 1) := by decide +kernel
theorem d_Al_search_88 : decode b_Al_search 88 = .ok (.aload_n 0, 1) := by decide +kernel
theorem d_Al_search_89 : decode b_Al_search 89 = .ok (.getfield 21, 3) := by decide +kernel
theorem d_Al_search_92 : decode b_Al_search 92 = .ok (.iload_n 2, 1) := by decide +kernel
theorem d_Al_search_93 : decode b_Al_search 93 = .ok (.iload 4, 2) := by decide +kernel
theorem d_Al_search_95 : decode b_Al_search 95 = .ok (.iastore, 1) := by decide +kernel
theorem d_Al_search_96 : decode b_Al_search 96 = .ok (.iinc 2 1, 3) := by decide +kernel
theorem d_Al_search_99 : decode b_Al_search 99 = .ok (.aload_n 0, 1) := by decide +kernel
theorem d_Al_search_100 : decode b_Al_search 100 = .ok (.getfield 15, 3) := by decide +kernel
theorem d_Al_search_103 : decode b_Al_search 103 = .ok (.iconst 2, 1) := by decide +kernel
theorem d_Al_search_104 : decode b_Al_search 104 = .ok (.iload_n 3, 1) := by decide +kernel
theorem d_Al_search_105 : decode b_Al_search 105 = .ok (.imul, 1) := by decide +kernel
theorem d_Al_search_106 : decode b_Al_search 106 = .ok (.iload 4, 2) := by decide +kernel
theorem d_Al_search_108 : decode b_Al_search 108 = .ok (.iadd, 1) := by decide +kernel
theorem d_Al_search_109 : decode b_Al_search 109 = .ok (.iload 6, 2) := by decide +kernel
theorem d_Al_search_111 : decode b_Al_search 111 = .ok (.iastore, 1) := by decide +kernel
theorem d_Al_search_112 : decode b_Al_search 112 = .ok (.iinc 4 1, 3) := by decide +kernel
theorem d_Al_search_115 : decode b_Al_search 115 = .ok (.goto (-87), 3) := by decide +kernel
theorem d_Al_search_118 : decode b_Al_search 118 = .ok (.iinc 3 1, 3) := by decide +kernel
theorem d_Al_search_121 : decode b_Al_search 121 = .ok (.goto (-107), 3) := by decide +kernel
theorem d_Al_search_124 : decode b_Al_search 124 = .ok (.iload_n 2, 1) := by decide +kernel
theorem d_Al_search_125 : decode b_Al_search 125 = .ok (.ireturn, 1) := by decide +kernel
theorem d_Au_emptyWordMap_0 : decode b_Au_emptyWordMap 0 = .ok (.iconst 0, 1) := by decide +kernel
theorem d_Au_emptyWordMap_1 : decode b_Au_emptyWordMap 1 = .ok (.istore_n 1, 1) := by decide +kernel
theorem d_Au_emptyWordMap_2 : decode b_Au_emptyWordMap 2 = .ok (.iconst 0, 1) := by decide +kernel
theorem d_Au_emptyWordMap_3 : decode b_Au_emptyWordMap 3 = .ok (.istore_n 2, 1) := by decide +kernel
theorem d_Au_emptyWordMap_4 : decode b_Au_emptyWordMap 4 = .ok (.iload_n 2, 1) := by decide +kernel
theorem d_Au_emptyWordMap_5 : decode b_Au_emptyWordMap 5 = .ok (.aload_n 0, 1) := by decide +kernel
theorem d_Au_emptyWordMap_6 : decode b_Au_emptyWordMap 6 = .ok (.getfield 15, 3) := by decide +kernel
theorem d_Au_emptyWordMap_9 : decode b_Au_emptyWordMap 9 = .ok (.if_icmp .ge 17, 3) := by decide +kernel
theorem d_Au_emptyWordMap_12 : decode b_Au_emptyWordMap 12 = .ok (.iload_n 1, 1) := by decide +kernel
theorem d_Au_emptyWordMap_13 : decode b_Au_emptyWordMap 13 = .ok (.iload_n 2, 1) := by decide +kernel
theorem d_Au_emptyWordMap_14 : decode b_Au_emptyWordMap 14 = .ok (.iconst 3, 1) := by decide +kernel
theorem d_Au_emptyWordMap_15 : decode b_Au_emptyWordMap 15 = .ok (.iload_n 2, 1) := by decide +kernel
theorem d_Au_emptyWordMap_16 : decode b_Au_emptyWordMap 16 = .ok (.imul, 1) := by decide +kernel
theorem d_Au_emptyWordMap_17 : decode b_Au_emptyWordMap 17 = .ok (.ishl, 1) := by decide +kernel
theorem d_Au_emptyWordMap_18 : decode b_Au_emptyWordMap 18 = .ok (.ior, 1) := by decide +kernel
theorem d_Au_emptyWordMap_19 : decode b_Au_emptyWordMap 19 = .ok (.istore_n 1, 1) := by decide +kernel
theorem d_Au_emptyWordMap_20 : decode b_Au_emptyWordMap 20 = .ok (.iinc 2 1, 3) := by decide +kernel
theorem d_Au_emptyWordMap_23 : decode b_Au_emptyWordMap 23 = .ok (.goto (-19), 3) := by decide +kernel
theorem d_Au_emptyWordMap_26 : decode b_Au_emptyWordMap 26 = .ok (.iload_n 1, 1) := by decide +kernel
theorem d_Au_emptyWordMap_27 : decode b_Au_emptyWordMap 27 = .ok (.ireturn, 1) := by decide +kernel
theorem d_Au_stepMap_0 : decode b_Au_stepMap 0 = .ok (.iconst 0, 1) := by decide +kernel
theorem d_Au_stepMap_1 : decode b_Au_stepMap 1 = .ok (.istore_n 3, 1) := by decide +kernel
theorem d_Au_stepMap_2 : decode b_Au_stepMap 2 = .ok (.iconst 0, 1) := by decide +kernel
theorem d_Au_stepMap_3 : decode b_Au_stepMap 3 = .ok (.istore 4, 2) := by decide +kernel
theorem d_Au_stepMap_5 : decode b_Au_stepMap 5 = .ok (.iload 4, 2) := by decide +kernel
theorem d_Au_stepMap_7 : decode b_Au_stepMap 7 = .ok (.aload_n 0, 1) := by decide +kernel
theorem d_Au_stepMap_8 : decode b_Au_stepMap 8 = .ok (.getfield 15, 3) := by decide +kernel
theorem d_Au_stepMap_11 : decode b_Au_stepMap 11 = .ok (.if_icmp .ge 31, 3) := by decide +kernel
theorem d_Au_stepMap_14 : decode b_Au_stepMap 14 = .ok (.iload_n 3, 1) := by decide +kernel
theorem d_Au_stepMap_15 : decode b_Au_stepMap 15 = .ok (.aload_n 0, 1) := by decide +kernel
theorem d_Au_stepMap_16 : decode b_Au_stepMap 16 = .ok (.iload_n 1, 1) := by decide +kernel
theorem d_Au_stepMap_17 : decode b_Au_stepMap 17 = .ok (.iconst 3, 1) := by decide +kernel
theorem d_Au_stepMap_18 : decode b_Au_stepMap 18 = .ok (.iload 4, 2) := by decide +kernel
theorem d_Au_stepMap_20 : decode b_Au_stepMap 20 = .ok (.imul, 1) := by decide +kernel
theorem d_Au_stepMap_21 : decode b_Au_stepMap 21 = .ok (.ishr, 1) := by decide +kernel
theorem d_Au_stepMap_22 : decode b_Au_stepMap 22 = .ok (.bipush 7, 2) := by decide +kernel
theorem d_Au_stepMap_24 : decode b_Au_stepMap 24 = .ok (.iand, 1) := by decide +kernel
theorem d_Au_stepMap_25 : decode b_Au_stepMap 25 = .ok (.iload_n 2, 1) := by decide +kernel
theorem d_Au_stepMap_26 : decode b_Au_stepMap 26 = .ok (.invokevirtual 22, 3) := by decide +kernel
theorem d_Au_stepMap_29 : decode b_Au_stepMap 29 = .ok (.iconst 3, 1) := by decide +kernel
theorem d_Au_stepMap_30 : decode b_Au_stepMap 30 = .ok (.iload 4, 2) := by decide +kernel
theorem d_Au_stepMap_32 : decode b_Au_stepMap 32 = .ok (.imul, 1) := by decide +kernel
theorem d_Au_stepMap_33 : decode b_Au_stepMap 33 = .ok (.ishl, 1) := by decide +kernel
theorem d_Au_stepMap_34 : decode b_Au_stepMap 34 = .ok (.ior, 1) := by decide +kernel
theorem d_Au_stepMap_35 : decode b_Au_stepMap 35 = .ok (.istore_n 3, 1) := by decide +kernel
theorem d_Au_stepMap_36 : decode b_Au_stepMap 36 = .ok (.iinc 4 1, 3) := by decide +kernel
theorem d_Au_stepMap_39 : decode b_Au_stepMap 39 = .ok (.goto (-34), 3) := by decide +kernel
theorem d_Au_stepMap_42 : decode b_Au_stepMap 42 = .ok (.iload_n 3, 1) := by decide +kernel
theorem d_Au_stepMap_43 : decode b_Au_stepMap 43 = .ok (.ireturn, 1) := by decide +kernel
