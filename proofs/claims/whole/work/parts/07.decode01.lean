theorem d_St_stepCode_0 : decode b_St_stepCode 0 = .ok (.aload_n 0, 1) := by decide +kernel
theorem d_St_stepCode_1 : decode b_St_stepCode 1 = .ok (.getfield 9, 3) := by decide +kernel
theorem d_St_stepCode_4 : decode b_St_stepCode 4 = .ok (.iload_n 1, 1) := by decide +kernel
theorem d_St_stepCode_5 : decode b_St_stepCode 5 = .ok (.bipush 64, 2) := by decide +kernel
theorem d_St_stepCode_7 : decode b_St_stepCode 7 = .ok (.if_icmp .ne 7, 3) := by decide +kernel
theorem d_St_stepCode_10 : decode b_St_stepCode 10 = .ok (.iconst 1, 1) := by decide +kernel
theorem d_St_stepCode_11 : decode b_St_stepCode 11 = .ok (.goto 4, 3) := by decide +kernel
theorem d_St_stepCode_14 : decode b_St_stepCode 14 = .ok (.iload_n 1, 1) := by decide +kernel
theorem d_St_stepCode_15 : decode b_St_stepCode 15 = .ok (.iload_n 2, 1) := by decide +kernel
theorem d_St_stepCode_16 : decode b_St_stepCode 16 = .ok (.invokevirtual 15, 3) := by decide +kernel
theorem d_St_stepCode_19 : decode b_St_stepCode 19 = .ok (.istore_n 3, 1) := by decide +kernel
theorem d_St_stepCode_20 : decode b_St_stepCode 20 = .ok (.aload_n 0, 1) := by decide +kernel
theorem d_St_stepCode_21 : decode b_St_stepCode 21 = .ok (.getfield 9, 3) := by decide +kernel
theorem d_St_stepCode_24 : decode b_St_stepCode 24 = .ok (.iload_n 3, 1) := by decide +kernel
theorem d_St_stepCode_25 : decode b_St_stepCode 25 = .ok (.invokevirtual 21, 3) := by decide +kernel
theorem d_St_stepCode_28 : decode b_St_stepCode 28 = .ok (.ifCond .eq 9, 3) := by decide +kernel
theorem d_St_stepCode_31 : decode b_St_stepCode 31 = .ok (.iload_n 3, 1) := by decide +kernel
theorem d_St_stepCode_32 : decode b_St_stepCode 32 = .ok (.iconst 1, 1) := by decide +kernel
theorem d_St_stepCode_33 : decode b_St_stepCode 33 = .ok (.ior, 1) := by decide +kernel
theorem d_St_stepCode_34 : decode b_St_stepCode 34 = .ok (.goto 4, 3) := by decide +kernel
theorem d_St_stepCode_37 : decode b_St_stepCode 37 = .ok (.iload_n 3, 1) := by decide +kernel
theorem d_St_stepCode_38 : decode b_St_stepCode 38 = .ok (.ireturn, 1) := by decide +kernel
theorem d_Au_acceptsAnyOf_0 : decode b_Au_acceptsAnyOf 0 = .ok (.aload_n 0, 1) := by decide +kernel
theorem d_Au_acceptsAnyOf_1 : decode b_Au_acceptsAnyOf 1 = .ok (.getfield 19, 3) := by decide +kernel
theorem d_Au_acceptsAnyOf_4 : decode b_Au_acceptsAnyOf 4 = .ok (.iload_n 1, 1) := by decide +kernel
theorem d_Au_acceptsAnyOf_5 : decode b_Au_acceptsAnyOf 5 = .ok (.iand, 1) := by decide +kernel
theorem d_Au_acceptsAnyOf_6 : decode b_Au_acceptsAnyOf 6 = .ok (.ifCond .eq 7, 3) := by decide +kernel
theorem d_Au_acceptsAnyOf_9 : decode b_Au_acceptsAnyOf 9 = .ok (.iconst 1, 1) := by decide +kernel
theorem d_Au_acceptsAnyOf_10 : decode b_Au_acceptsAnyOf 10 = .ok (.goto 4, 3) := by decide +kernel
theorem d_Au_acceptsAnyOf_13 : decode b_Au_acceptsAnyOf 13 = .ok (.iconst 0, 1) := by decide +kernel
theorem d_Au_acceptsAnyOf_14 : decode b_Au_acceptsAnyOf 14 = .ok (.ireturn, 1) := by decide +kernel
theorem d_Re_partByAcceptance_0 : decode b_Re_partByAcceptance 0 = .ok (.iconst 0, 1) := by decide +kernel
theorem d_Re_partByAcceptance_1 : decode b_Re_partByAcceptance 1 = .ok (.istore_n 2, 1) := by decide +kernel
theorem d_Re_partByAcceptance_2 : decode b_Re_partByAcceptance 2 = .ok (.iload_n 2, 1) := by decide +kernel
theorem d_Re_partByAcceptance_3 : decode b_Re_partByAcceptance 3 = .ok (.aload_n 0, 1) := by decide +kernel
theorem d_Re_partByAcceptance_4 : decode b_Re_partByAcceptance 4 = .ok (.getfield 51, 3) := by decide +kernel
theorem d_Re_partByAcceptance_7 : decode b_Re_partByAcceptance 7 = .ok (.if_icmp .ge 35, 3) := by decide +kernel
theorem d_Re_partByAcceptance_10 : decode b_Re_partByAcceptance 10 = .ok (.aload_n 0, 1) := by decide +kernel
theorem d_Re_partByAcceptance_11 : decode b_Re_partByAcceptance 11 = .ok (.getfield 21, 3) := by decide +kernel
theorem d_Re_partByAcceptance_14 : decode b_Re_partByAcceptance 14 = .ok (.iload_n 2, 1) := by decide +kernel
theorem d_Re_partByAcceptance_15 : decode b_Re_partByAcceptance 15 = .ok (.aload_n 1, 1) := by decide +kernel
theorem d_Re_partByAcceptance_16 : decode b_Re_partByAcceptance 16 = .ok (.aload_n 0, 1) := by decide +kernel
theorem d_Re_partByAcceptance_17 : decode b_Re_partByAcceptance 17 = .ok (.getfield 15, 3) := by decide +kernel
theorem d_Re_partByAcceptance_20 : decode b_Re_partByAcceptance 20 = .ok (.iload_n 2, 1) := by decide +kernel
theorem d_Re_partByAcceptance_21 : decode b_Re_partByAcceptance 21 = .ok (.iaload, 1) := by decide +kernel
theorem d_Re_partByAcceptance_22 : decode b_Re_partByAcceptance 22 = .ok (.invokeinterface 68 2, 5) := by decide +kernel
theorem d_Re_partByAcceptance_27 : decode b_Re_partByAcceptance 27 = .ok (.ifCond .eq 7, 3) := by decide +kernel
theorem d_Re_partByAcceptance_30 : decode b_Re_partByAcceptance 30 = .ok (.iconst 1, 1) := by decide +kernel
theorem d_Re_partByAcceptance_31 : decode b_Re_partByAcceptance 31 = .ok (.goto 4, 3) := by decide +kernel
theorem d_Re_partByAcceptance_34 : decode b_Re_partByAcceptance 34 = .ok (.iconst 0, 1) := by decide +kernel
theorem d_Re_partByAcceptance_35 : decode b_Re_partByAcceptance 35 = .ok (.iastore, 1) := by decide +kernel
theorem d_Re_partByAcceptance_36 : decode b_Re_partByAcceptance 36 = .ok (.iinc 2 1, 3) := by decide +kernel
theorem d_Re_partByAcceptance_39 : decode b_Re_partByAcceptance 39 = .ok (.goto (-37), 3) := by decide +kernel
theorem d_Re_partByAcceptance_42 : decode b_Re_partByAcceptance 42 = .ok (.return_, 1) := by decide +kernel
theorem d_Ba_isAcceptingCode_0 : decode b_Ba_isAcceptingCode 0 = .ok (.aload_n 0, 1) := by decide +kernel
theorem d_Ba_isAcceptingCode_1 : decode b_Ba_isAcceptingCode 1 = .ok (.getfield 9, 3) := by decide +kernel
theorem d_Ba_isAcceptingCode_4 : decode b_Ba_isAcceptingCode 4 = .ok (.iconst 2, 1) := by decide +kernel
theorem d_Ba_isAcceptingCode_5 : decode b_Ba_isAcceptingCode 5 = .ok (.if_icmp .ge 16, 3) := by decide +kernel
theorem d_Ba_isAcceptingCode_8 : decode b_Ba_isAcceptingCode 8 = .ok (.iload_n 1, 1) := by decide +kernel
theorem d_Ba_isAcceptingCode_9 : decode b_Ba_isAcceptingCode 9 = .ok (.iconst 1, 1) := by decide +kernel
theorem d_Ba_isAcceptingCode_10 : decode b_Ba_isAcceptingCode 10 = .ok (.if_icmp .ne 7, 3) := by decide +kernel
theorem d_Ba_isAcceptingCode_13 : decode b_Ba_isAcceptingCode 13 = .ok (.iconst 1, 1) := by decide +kernel
theorem d_Ba_isAcceptingCode_14 : decode b_Ba_isAcceptingCode 14 = .ok (.goto 24, 3) := by decide +kernel
theorem d_Ba_isAcceptingCode_17 : decode b_Ba_isAcceptingCode 17 = .ok (.iconst 0, 1) := by decide +kernel
theorem d_Ba_isAcceptingCode_18 : decode b_Ba_isAcceptingCode 18 = .ok (.goto 20, 3) := by decide +kernel
theorem d_Ba_isAcceptingCode_21 : decode b_Ba_isAcceptingCode 21 = .ok (.aload_n 0, 1) := by decide +kernel
theorem d_Ba_isAcceptingCode_22 : decode b_Ba_isAcceptingCode 22 = .ok (.getfield 9, 3) := by decide +kernel
theorem d_Ba_isAcceptingCode_25 : decode b_Ba_isAcceptingCode 25 = .ok (.iconst 2, 1) := by decide +kernel
theorem d_Ba_isAcceptingCode_26 : decode b_Ba_isAcceptingCode 26 = .ok (.if_icmp .ne 11, 3) := by decide +kernel
theorem d_Ba_isAcceptingCode_29 : decode b_Ba_isAcceptingCode 29 = .ok (.iload_n 1, 1) := by decide +kernel
theorem d_Ba_isAcceptingCode_30 : decode b_Ba_isAcceptingCode 30 = .ok (.ifCond .ne 7, 3) := by decide +kernel
theorem d_Ba_isAcceptingCode_33 : decode b_Ba_isAcceptingCode 33 = .ok (.iconst 1, 1) := by decide +kernel
theorem d_Ba_isAcceptingCode_34 : decode b_Ba_isAcceptingCode 34 = .ok (.goto 4, 3) := by decide +kernel
theorem d_Ba_isAcceptingCode_37 : decode b_Ba_isAcceptingCode 37 = .ok (.iconst 0, 1) := by decide +kernel
theorem d_Ba_isAcceptingCode_38 : decode b_Ba_isAcceptingCode 38 = .ok (.ireturn, 1) := by decide +kernel
theorem d_Ch_isAcceptingCode_0 : decode b_Ch_isAcceptingCode 0 = .ok (.aload_n 0, 1) := by decide +kernel
theorem d_Ch_isAcceptingCode_1 : decode b_Ch_isAcceptingCode 1 = .ok (.getfield 15, 3) := by decide +kernel
theorem d_Ch_isAcceptingCode_4 : decode b_Ch_isAcceptingCode 4 = .ok (.iload_n 1, 1) := by decide +kernel
theorem d_Ch_isAcceptingCode_5 : decode b_Ch_isAcceptingCode 5 = .ok (.bipush 64, 2) := by decide +kernel
theorem d_Ch_isAcceptingCode_7 : decode b_Ch_isAcceptingCode 7 = .ok (.irem, 1) := by decide +kernel
theorem d_Ch_isAcceptingCode_8 : decode b_Ch_isAcceptingCode 8 = .ok (.invokevirtual 30, 3) := by decide +kernel
theorem d_Ch_isAcceptingCode_11 : decode b_Ch_isAcceptingCode 11 = .ok (.ireturn, 1) := by decide +kernel
theorem d_In_isAcceptingCode_0 : decode b_In_isAcceptingCode 0 = .ok (.aload_n 0, 1) := by decide +kernel
theorem d_In_isAcceptingCode_1 : decode b_In_isAcceptingCode 1 = .ok (.getfield 7, 3) := by decide +kernel
theorem d_In_isAcceptingCode_4 : decode b_In_isAcceptingCode 4 = .ok (.iload_n 1, 1) := by decide +kernel
theorem d_In_isAcceptingCode_5 : decode b_In_isAcceptingCode 5 = .ok (.invokevirtual 19, 3) := by decide +kernel
theorem d_In_isAcceptingCode_8 : decode b_In_isAcceptingCode 8 = .ok (.ifCond .ne 7, 3) := by decide +kernel
theorem d_In_isAcceptingCode_11 : decode b_In_isAcceptingCode 11 = .ok (.iconst 1, 1) := by decide +kernel
theorem d_In_isAcceptingCode_12 : decode b_In_isAcceptingCode 12 = .ok (.goto 4, 3) := by decide +kernel
theorem d_In_isAcceptingCode_15 : decode b_In_isAcceptingCode 15 = .ok (.iconst 0, 1) := by decide +kernel
theorem d_In_isAcceptingCode_16 : decode b_In_isAcceptingCode 16 = .ok (.ireturn, 1) := by decide +kernel
theorem d_Pa_isAcceptingCode_0 : decode b_Pa_isAcceptingCode 0 = .ok (.aload_n 0, 1) := by decide +kernel
theorem d_Pa_isAcceptingCode_1 : decode b_Pa_isAcceptingCode 1 = .ok (.getfield 9, 3) := by decide +kernel
theorem d_Pa_isAcceptingCode_4 : decode b_Pa_isAcceptingCode 4 = .ok (.iload_n 1, 1) := by decide +kernel
theorem d_Pa_isAcceptingCode_5 : decode b_Pa_isAcceptingCode 5 = .ok (.bipush 6, 2) := by decide +kernel
theorem d_Pa_isAcceptingCode_7 : decode b_Pa_isAcceptingCode 7 = .ok (.idiv, 1) := by decide +kernel
theorem d_Pa_isAcceptingCode_8 : decode b_Pa_isAcceptingCode 8 = .ok (.invokevirtual 28, 3) := by decide +kernel
theorem d_Pa_isAcceptingCode_11 : decode b_Pa_isAcceptingCode 11 = .ok (.istore_n 2, 1) := by decide +kernel
theorem d_Pa_isAcceptingCode_12 : decode b_Pa_isAcceptingCode 12 = .ok (.aload_n 0, 1) := by decide +kernel
theorem d_Pa_isAcceptingCode_13 : decode b_Pa_isAcceptingCode 13 = .ok (.getfield 15, 3) := by decide +kernel
theorem d_Pa_isAcceptingCode_16 : decode b_Pa_isAcceptingCode 16 = .ok (.iload_n 1, 1) := by decide +kernel
theorem d_Pa_isAcceptingCode_17 : decode b_Pa_isAcceptingCode 17 = .ok (.bipush 6, 2) := by decide +kernel
theorem d_Pa_isAcceptingCode_19 : decode b_Pa_isAcceptingCode 19 = .ok (.irem, 1) := by decide +kernel
theorem d_Pa_isAcceptingCode_20 : decode b_Pa_isAcceptingCode 20 = .ok (.invokevirtual 28, 3) := by decide +kernel
theorem d_Pa_isAcceptingCode_23 : decode b_Pa_isAcceptingCode 23 = .ok (.istore_n 3, 1) := by decide +kernel
theorem d_Pa_isAcceptingCode_24 : decode b_Pa_isAcceptingCode 24 = .ok (.aload_n 0, 1) := by decide +kernel
theorem d_Pa_isAcceptingCode_25 : decode b_Pa_isAcceptingCode 25 = .ok (.getfield 18, 3) := by decide +kernel
theorem d_Pa_isAcceptingCode_28 : decode b_Pa_isAcceptingCode 28 = .ok (.ifCond .eq 19, 3) := by decide +kernel
theorem d_Pa_isAcceptingCode_31 : decode b_Pa_isAcceptingCode 31 = .ok (.iload_n 2, 1) := by decide +kernel
theorem d_Pa_isAcceptingCode_32 : decode b_Pa_isAcceptingCode 32 = .ok (.ifCond .eq 11, 3) := by decide +kernel
theorem d_Pa_isAcceptingCode_35 : decode b_Pa_isAcceptingCode 35 = .ok (.iload_n 3, 1) := by decide +kernel
theorem d_Pa_isAcceptingCode_36 : decode b_Pa_isAcceptingCode 36 = .ok (.ifCond .eq 7, 3) := by decide +kernel
theorem d_Pa_isAcceptingCode_39 : decode b_Pa_isAcceptingCode 39 = .ok (.iconst 1, 1) := by decide +kernel
theorem d_Pa_isAcceptingCode_40 : decode b_Pa_isAcceptingCode 40 = .ok (.goto 20, 3) := by decide +kernel
theorem d_Pa_isAcceptingCode_43 : decode b_Pa_isAcceptingCode 43 = .ok (.iconst 0, 1) := by decide +kernel
theorem d_Pa_isAcceptingCode_44 : decode b_Pa_isAcceptingCode 44 = .ok (.goto 16, 3) := by decide +kernel
theorem d_Pa_isAcceptingCode_47 : decode b_Pa_isAcceptingCode 47 = .ok (.iload_n 2, 1) := by decide +kernel
theorem d_Pa_isAcceptingCode_48 : decode b_Pa_isAcceptingCode 48 = .ok (.ifCond .ne 7, 3) := by decide +kernel
theorem d_Pa_isAcceptingCode_51 : decode b_Pa_isAcceptingCode 51 = .ok (.iload_n 3, 1) := by decide +kernel
theorem d_Pa_isAcceptingCode_52 : decode b_Pa_isAcceptingCode 52 = .ok (.ifCond .eq 7, 3) := by decide +kernel
theorem d_Pa_isAcceptingCode_55 : decode b_Pa_isAcceptingCode 55 = .ok (.iconst 1, 1) := by decide +kernel
theorem d_Pa_isAcceptingCode_56 : decode b_Pa_isAcceptingCode 56 = .ok (.goto 4, 3) := by decide +kernel
theorem d_Pa_isAcceptingCode_59 : decode b_Pa_isAcceptingCode 59 = .ok (.iconst 0, 1) := by decide +kernel
theorem d_Pa_isAcceptingCode_60 : decode b_Pa_isAcceptingCode 60 = .ok (.ireturn, 1) := by decide +kernel
theorem d_St_isAcceptingCode_0 : decode b_St_isAcceptingCode 0 = .ok (.iload_n 1, 1) := by decide +kernel
theorem d_St_isAcceptingCode_1 : decode b_St_isAcceptingCode 1 = .ok (.bipush 64, 2) := by decide +kernel
theorem d_St_isAcceptingCode_3 : decode b_St_isAcceptingCode 3 = .ok (.if_icmp .eq 14, 3) := by decide +kernel
theorem d_St_isAcceptingCode_6 : decode b_St_isAcceptingCode 6 = .ok (.aload_n 0, 1) := by decide +kernel
theorem d_St_isAcceptingCode_7 : decode b_St_isAcceptingCode 7 = .ok (.getfield 9, 3) := by decide +kernel
theorem d_St_isAcceptingCode_10 : decode b_St_isAcceptingCode 10 = .ok (.iload_n 1, 1) := by decide +kernel
theorem d_St_isAcceptingCode_11 : decode b_St_isAcceptingCode 11 = .ok (.invokevirtual 21, 3) := by decide +kernel
theorem d_St_isAcceptingCode_14 : decode b_St_isAcceptingCode 14 = .ok (.ifCond .eq 7, 3) := by decide +kernel
theorem d_St_isAcceptingCode_17 : decode b_St_isAcceptingCode 17 = .ok (.iconst 1, 1) := by decide +kernel
theorem d_St_isAcceptingCode_18 : decode b_St_isAcceptingCode 18 = .ok (.goto 4, 3) := by decide +kernel
theorem d_St_isAcceptingCode_21 : decode b_St_isAcceptingCode 21 = .ok (.iconst 0, 1) := by decide +kernel
theorem d_St_isAcceptingCode_22 : decode b_St_isAcceptingCode 22 = .ok (.ireturn, 1) := by decide +kernel
theorem d_Re_refine_0 : decode b_Re_refine 0 = .ok (.iconst 0, 1) := by decide +kernel
theorem d_Re_refine_1 : decode b_Re_refine 1 = .ok (.istore_n 1, 1) := by decide +kernel
theorem d_Re_refine_2 : decode b_Re_refine 2 = .ok (.iconst 0, 1) := by decide +kernel
theorem d_Re_refine_3 : decode b_Re_refine 3 = .ok (.istore_n 2, 1) := by decide +kernel
theorem d_Re_refine_4 : decode b_Re_refine 4 = .ok (.iload_n 2, 1) := by decide +kernel
theorem d_Re_refine_5 : decode b_Re_refine 5 = .ok (.bipush 6, 2) := by decide +kernel
theorem d_Re_refine_7 : decode b_Re_refine 7 = .ok (.if_icmp .gt 28, 3) := by decide +kernel
theorem d_Re_refine_10 : decode b_Re_refine 10 = .ok (.aload_n 0, 1) := by decide +kernel
theorem d_Re_refine_11 : decode b_Re_refine 11 = .ok (.invokevirtual 72, 3) := by decide +kernel
theorem d_Re_refine_14 : decode b_Re_refine 14 = .ok (.istore_n 3, 1) := by decide +kernel
theorem d_Re_refine_15 : decode b_Re_refine 15 = .ok (.iload_n 3, 1) := by decide +kernel
theorem d_Re_refine_16 : decode b_Re_refine 16 = .ok (.iconst (-1), 1) := by decide +kernel
theorem d_Re_refine_17 : decode b_Re_refine 17 = .ok (.if_icmp .eq 8, 3) := by decide +kernel
theorem d_Re_refine_20 : decode b_Re_refine 20 = .ok (.iload_n 3, 1) := by decide +kernel
theorem d_Re_refine_21 : decode b_Re_refine 21 = .ok (.iload_n 1, 1) := by decide +kernel
theorem d_Re_refine_22 : decode b_Re_refine 22 = .ok (.if_icmp .ne 5, 3) := by decide +kernel
theorem d_Re_refine_25 : decode b_Re_refine 25 = .ok (.iload_n 3, 1) := by decide +kernel
theorem d_Re_refine_26 : decode b_Re_refine 26 = .ok (.ireturn, 1) := by decide +kernel
theorem d_Re_refine_27 : decode b_Re_refine 27 = .ok (.iload_n 3, 1) := by decide +kernel
theorem d_Re_refine_28 : decode b_Re_refine 28 = .ok (.istore_n 1, 1) := by decide +kernel
theorem d_Re_refine_29 : decode b_Re_refine 29 = .ok (.iinc 2 1, 3) := by decide +kernel
theorem d_Re_refine_32 : decode b_Re_refine 32 = .ok (.goto (-28), 3) := by decide +kernel
theorem d_Re_refine_35 : decode b_Re_refine 35 = .ok (.iconst (-1), 1) := by decide +kernel
theorem d_Re_refine_36 : decode b_Re_refine 36 = .ok (.ireturn, 1) := by decide +kernel
theorem d_Re_split_0 : decode b_Re_split 0 = .ok (.iconst 0, 1) := by decide +kernel
theorem d_Re_split_1 : decode b_Re_split 1 = .ok (.istore_n 1, 1) := by decide +kernel
theorem d_Re_split_2 : decode b_Re_split 2 = .ok (.iconst 0, 1) := by decide +kernel
theorem d_Re_split_3 : decode b_Re_split 3 = .ok (.istore_n 2, 1) := by decide +kernel
theorem d_Re_split_4 : decode b_Re_split 4 = .ok (.iload_n 2, 1) := by decide +kernel
theorem d_Re_split_5 : decode b_Re_split 5 = .ok (.aload_n 0, 1) := by decide +kernel
theorem d_Re_split_6 : decode b_Re_split 6 = .ok (.getfield 51, 3) := by decide +kernel
theorem d_Re_split_9 : decode b_Re_split 9 = .ok (.if_icmp .ge 46, 3) := by decide +kernel
theorem d_Re_split_12 : decode b_Re_split 12 = .ok (.aload_n 0, 1) := by decide +kernel
theorem d_Re_split_13 : decode b_Re_split 13 = .ok (.iload_n 2, 1) := by decide +kernel
theorem d_Re_split_14 : decode b_Re_split 14 = .ok (.iload_n 1, 1) := by decide +kernel
theorem d_Re_split_15 : decode b_Re_split 15 = .ok (.invokevirtual 75, 3) := by decide +kernel
theorem d_Re_split_18 : decode b_Re_split 18 = .ok (.istore_n 3, 1) := by decide +kernel
theorem d_Re_split_19 : decode b_Re_split 19 = .ok (.iload_n 3, 1) := by decide +kernel
theorem d_Re_split_20 : decode b_Re_split 20 = .ok (.bipush 6, 2) := by decide +kernel
theorem d_Re_split_22 : decode b_Re_split 22 = .ok (.if_icmp .ne 5, 3) := by decide +kernel
theorem d_Re_split_25 : decode b_Re_split 25 = .ok (.iconst (-1), 1) := by decide +kernel
theorem d_Re_split_26 : decode b_Re_split 26 = .ok (.ireturn, 1) := by decide +kernel
theorem d_Re_split_27 : decode b_Re_split 27 = .ok (.iload_n 3, 1) := by decide +kernel
theorem d_Re_split_28 : decode b_Re_split 28 = .ok (.iload_n 1, 1) := by decide +kernel
theorem d_Re_split_29 : decode b_Re_split 29 = .ok (.if_icmp .ne 13, 3) := by decide +kernel
theorem d_Re_split_32 : decode b_Re_split 32 = .ok (.aload_n 0, 1) := by decide +kernel
theorem d_Re_split_33 : decode b_Re_split 33 = .ok (.getfield 27, 3) := by decide +kernel
theorem d_Re_split_36 : decode b_Re_split 36 = .ok (.iload_n 1, 1) := by decide +kernel
theorem d_Re_split_37 : decode b_Re_split 37 = .ok (.iload_n 2, 1) := by decide +kernel
theorem d_Re_split_38 : decode b_Re_split 38 = .ok (.iastore, 1) := by decide +kernel
theorem d_Re_split_39 : decode b_Re_split 39 = .ok (.iinc 1 1, 3) := by decide +kernel
theorem d_Re_split_42 : decode b_Re_split 42 = .ok (.aload_n 0, 1) := by decide +kernel
theorem d_Re_split_43 : decode b_Re_split 43 = .ok (.getfield 24, 3) := by decide +kernel
theorem d_Re_split_46 : decode b_Re_split 46 = .ok (.iload_n 2, 1) := by decide +kernel
theorem d_Re_split_47 : decode b_Re_split 47 = .ok (.iload_n 3, 1) := by decide +kernel
theorem d_Re_split_48 : decode b_Re_split 48 = .ok (.iastore, 1) := by decide +kernel
theorem d_Re_split_49 : decode b_Re_split 49 = .ok (.iinc 2 1, 3) := by decide +kernel
theorem d_Re_split_52 : decode b_Re_split 52 = .ok (.goto (-48), 3) := by decide +kernel
theorem d_Re_split_55 : decode b_Re_split 55 = .ok (.aload_n 0, 1) := by decide +kernel
theorem d_Re_split_56 : decode b_Re_split 56 = .ok (.getfield 21, 3) := by decide +kernel
theorem d_Re_split_59 : decode b_Re_split 59 = .ok (.astore_n 2, 1) := by decide +kernel
theorem d_Re_split_60 : decode b_Re_split 60 = .ok (.aload_n 0, 1) := by decide +kernel
theorem d_Re_split_61 : decode b_Re_split 61 = .ok (.aload_n 0, 1) := by decide +kernel
theorem d_Re_split_62 : decode b_Re_split 62 = .ok (.getfield 24, 3) := by decide +kernel
theorem d_Re_split_65 : decode b_Re_split 65 = .ok (.putfield 21, 3) := by decide +kernel
theorem d_Re_split_68 : decode b_Re_split 68 = .ok (.aload_n 0, 1) := by decide +kernel
theorem d_Re_split_69 : decode b_Re_split 69 = .ok (.aload_n 2, 1) := by decide +kernel
theorem d_Re_split_70 : decode b_Re_split 70 = .ok (.putfield 24, 3) := by decide +kernel
theorem d_Re_split_73 : decode b_Re_split 73 = .ok (.iload_n 1, 1) := by decide +kernel
theorem d_Re_split_74 : decode b_Re_split 74 = .ok (.ireturn, 1) := by decide +kernel
theorem d_Re_partLike_0 : decode b_Re_partLike 0 = .ok (.iconst 0, 1) := by decide +kernel
theorem d_Re_partLike_1 : decode b_Re_partLike 1 = .ok (.istore_n 3, 1) := by decide +kernel
theorem d_Re_partLike_2 : decode b_Re_partLike 2 = .ok (.iload_n 3, 1) := by decide +kernel
theorem d_Re_partLike_3 : decode b_Re_partLike 3 = .ok (.iload_n 2, 1) := by decide +kernel
theorem d_Re_partLike_4 : decode b_Re_partLike 4 = .ok (.if_icmp .ge 25, 3) := by decide +kernel
theorem d_Re_partLike_7 : decode b_Re_partLike 7 = .ok (.aload_n 0, 1) := by decide +kernel
theorem d_Re_partLike_8 : decode b_Re_partLike 8 = .ok (.iload_n 1, 1) := by decide +kernel
theorem d_Re_partLike_9 : decode b_Re_partLike 9 = .ok (.aload_n 0, 1) := by decide +kernel
theorem d_Re_partLike_10 : decode b_Re_partLike 10 = .ok (.getfield 27, 3) := by decide +kernel
theorem d_Re_partLike_13 : decode b_Re_partLike 13 = .ok (.iload_n 3, 1) := by decide +kernel
theorem d_Re_partLike_14 : decode b_Re_partLike 14 = .ok (.iaload, 1) := by decide +kernel
theorem d_Re_partLike_15 : decode b_Re_partLike 15 = .ok (.invokevirtual 78, 3) := by decide +kernel
theorem d_Re_partLike_18 : decode b_Re_partLike 18 = .ok (.ifCond .eq 5, 3) := by decide +kernel
theorem d_Re_partLike_21 : decode b_Re_partLike 21 = .ok (.iload_n 3, 1) := by decide +kernel
theorem d_Re_partLike_22 : decode b_Re_partLike 22 = .ok (.ireturn, 1) := by decide +kernel
theorem d_Re_partLike_23 : decode b_Re_partLike 23 = .ok (.iinc 3 1, 3) := by decide +kernel
theorem d_Re_partLike_26 : decode b_Re_partLike 26 = .ok (.goto (-24), 3) := by decide +kernel
theorem d_Re_partLike_29 : decode b_Re_partLike 29 = .ok (.iload_n 2, 1) := by decide +kernel
theorem d_Re_partLike_30 : decode b_Re_partLike 30 = .ok (.ireturn, 1) := by decide +kernel
theorem d_Re_goAlike_0 : decode b_Re_goAlike 0 = .ok (.aload_n 0, 1) := by decide +kernel
theorem d_Re_goAlike_1 : decode b_Re_goAlike 1 = .ok (.getfield 21, 3) := by decide +kernel
theorem d_Re_goAlike_4 : decode b_Re_goAlike 4 = .ok (.iload_n 1, 1) := by decide +kernel
theorem d_Re_goAlike_5 : decode b_Re_goAlike 5 = .ok (.iaload, 1) := by decide +kernel
theorem d_Re_goAlike_6 : decode b_Re_goAlike 6 = .ok (.aload_n 0, 1) := by decide +kernel
theorem d_Re_goAlike_7 : decode b_Re_goAlike 7 = .ok (.getfield 21, 3) := by decide +kernel
theorem d_Re_goAlike_10 : decode b_Re_goAlike 10 = .ok (.iload_n 2, 1) := by decide +kernel
theorem d_Re_goAlike_11 : decode b_Re_goAlike 11 = .ok (.iaload, 1) := by decide +kernel
theorem d_Re_goAlike_12 : decode b_Re_goAlike 12 = .ok (.if_icmp .ne 69, 3) := by decide +kernel
theorem d_Re_goAlike_15 : decode b_Re_goAlike 15 = .ok (.aload_n 0, 1) := by decide +kernel
theorem d_Re_goAlike_16 : decode b_Re_goAlike 16 = .ok (.getfield 21, 3) := by decide +kernel
theorem d_Re_goAlike_19 : decode b_Re_goAlike 19 = .ok (.aload_n 0, 1) := by decide +kernel
theorem d_Re_goAlike_20 : decode b_Re_goAlike 20 = .ok (.getfield 18, 3) := by decide +kernel
theorem d_Re_goAlike_23 : decode b_Re_goAlike 23 = .ok (.iconst 2, 1) := by decide +kernel
theorem d_Re_goAlike_24 : decode b_Re_goAlike 24 = .ok (.iload_n 1, 1) := by decide +kernel
theorem d_Re_goAlike_25 : decode b_Re_goAlike 25 = .ok (.imul, 1) := by decide +kernel
theorem d_Re_goAlike_26 : decode b_Re_goAlike 26 = .ok (.iaload, 1) := by decide +kernel
theorem d_Re_goAlike_27 : decode b_Re_goAlike 27 = .ok (.iaload, 1) := by decide +kernel
theorem d_Re_goAlike_28 : decode b_Re_goAlike 28 = .ok (.aload_n 0, 1) := by decide +kernel
theorem d_Re_goAlike_29 : decode b_Re_goAlike 29 = .ok (.getfield 21, 3) := by decide +kernel
theorem d_Re_goAlike_32 : decode b_Re_goAlike 32 = .ok (.aload_n 0, 1) := by decide +kernel
theorem d_Re_goAlike_33 : decode b_Re_goAlike 33 = .ok (.getfield 18, 3) := by decide +kernel
theorem d_Re_goAlike_36 : decode b_Re_goAlike 36 = .ok (.iconst 2, 1) := by decide +kernel
theorem d_Re_goAlike_37 : decode b_Re_goAlike 37 = .ok (.iload_n 2, 1) := by decide +kernel
theorem d_Re_goAlike_38 : decode b_Re_goAlike 38 = .ok (.imul, 1) := by decide +kernel
theorem d_Re_goAlike_39 : decode b_Re_goAlike 39 = .ok (.iaload, 1) := by decide +kernel
theorem d_Re_goAlike_40 : decode b_Re_goAlike 40 = .ok (.iaload, 1) := by decide +kernel
theorem d_Re_goAlike_41 : decode b_Re_goAlike 41 = .ok (.if_icmp .ne 40, 3) := by decide +kernel
theorem d_Re_goAlike_44 : decode b_Re_goAlike 44 = .ok (.aload_n 0, 1) := by decide +kernel
theorem d_Re_goAlike_45 : decode b_Re_goAlike 45 = .ok (.getfield 21, 3) := by decide +kernel
theorem d_Re_goAlike_48 : decode b_Re_goAlike 48 = .ok (.aload_n 0, 1) := by decide +kernel
theorem d_Re_goAlike_49 : decode b_Re_goAlike 49 = .ok (.getfield 18, 3) := by decide +kernel
theorem d_Re_goAlike_52 : decode b_Re_goAlike 52 = .ok (.iconst 2, 1) := by decide +kernel
theorem d_Re_goAlike_53 : decode b_Re_goAlike 53 = .ok (.iload_n 1, 1) := by decide +kernel
theorem d_Re_goAlike_54 : decode b_Re_goAlike 54 = .ok (.imul, 1) := by decide +kernel
theorem d_Re_goAlike_55 : decode b_Re_goAlike 55 = .ok (.iconst 1, 1) := by decide +kernel
theorem d_Re_goAlike_56 : decode b_Re_goAlike 56 = .ok (.iadd, 1) := by decide +kernel
theorem d_Re_goAlike_57 : decode b_Re_goAlike 57 = .ok (.iaload, 1) := by decide +kernel
theorem d_Re_goAlike_58 : decode b_Re_goAlike 58 = .ok (.iaload, 1) := by decide +kernel
theorem d_Re_goAlike_59 : decode b_Re_goAlike 59 = .ok (.aload_n 0, 1) := by decide +kernel
theorem d_Re_goAlike_60 : decode b_Re_goAlike 60 = .ok (.getfield 21, 3) := by decide +kernel
theorem d_Re_goAlike_63 : decode b_Re_goAlike 63 = .ok (.aload_n 0, 1) := by decide +kernel
theorem d_Re_goAlike_64 : decode b_Re_goAlike 64 = .ok (.getfield 18, 3) := by decide +kernel
theorem d_Re_goAlike_67 : decode b_Re_goAlike 67 = .ok (.iconst 2, 1) := by decide +kernel
theorem d_Re_goAlike_68 : decode b_Re_goAlike 68 = .ok (.iload_n 2, 1) := by decide +kernel
theorem d_Re_goAlike_69 : decode b_Re_goAlike 69 = .ok (.imul, 1) := by decide +kernel
theorem d_Re_goAlike_70 : decode b_Re_goAlike 70 = .ok (.iconst 1, 1) := by decide +kernel
theorem d_Re_goAlike_71 : decode b_Re_goAlike 71 = .ok (.iadd, 1) := by decide +kernel
theorem d_Re_goAlike_72 : decode b_Re_goAlike 72 = .ok (.iaload, 1) := by decide +kernel
theorem d_Re_goAlike_73 : decode b_Re_goAlike 73 = .ok (.iaload, 1) := by decide +kernel
theorem d_Re_goAlike_74 : decode b_Re_goAlike 74 = .ok (.if_icmp .ne 7, 3) := by decide +kernel
theorem d_Re_goAlike_77 : decode b_Re_goAlike 77 = .ok (.iconst 1, 1) := by decide +kernel
theorem d_Re_goAlike_78 : decode b_Re_goAlike 78 = .ok (.goto 4, 3) := by decide +kernel
theorem d_Re_goAlike_81 : decode b_Re_goAlike 81 = .ok (.iconst 0, 1) := by decide +kernel
theorem d_Re_goAlike_82 : decode b_Re_goAlike 82 = .ok (.ireturn, 1) := by decide +kernel
theorem d_Re_write_0 : decode b_Re_write 0 = .ok (.aload_n 3, 1) := by decide +kernel
theorem d_Re_write_1 : decode b_Re_write 1 = .ok (.iload_n 2, 1) := by decide +kernel
theorem d_Re_write_2 : decode b_Re_write 2 = .ok (.putfield 82, 3) := by decide +kernel
theorem d_Re_write_5 : decode b_Re_write 5 = .ok (.aload_n 3, 1) := by decide +kernel
theorem d_Re_write_6 : decode b_Re_write 6 = .ok (.iconst 0, 1) := by decide +kernel
theorem d_Re_write_7 : decode b_Re_write 7 = .ok (.putfield 85, 3) := by decide +kernel
theorem d_Re_write_10 : decode b_Re_write 10 = .ok (.iconst 0, 1) := by decide +kernel
theorem d_Re_write_11 : decode b_Re_write 11 = .ok (.istore 4, 2) := by decide +kernel
theorem d_Re_write_13 : decode b_Re_write 13 = .ok (.iload 4, 2) := by decide +kernel
theorem d_Re_write_15 : decode b_Re_write 15 = .ok (.iload_n 2, 1) := by decide +kernel
theorem d_Re_write_16 : decode b_Re_write 16 = .ok (.if_icmp .ge 91, 3) := by decide +kernel
theorem d_Re_write_19 : decode b_Re_write 19 = .ok (.aload_n 0, 1) := by decide +kernel
theorem d_Re_write_20 : decode b_Re_write 20 = .ok (.getfield 27, 3) := by decide +kernel
theorem d_Re_write_23 : decode b_Re_write 23 = .ok (.iload 4, 2) := by decide +kernel
theorem d_Re_write_25 : decode b_Re_write 25 = .ok (.iaload, 1) := by decide +kernel
theorem d_Re_write_26 : decode b_Re_write 26 = .ok (.istore 5, 2) := by decide +kernel
theorem d_Re_write_28 : decode b_Re_write 28 = .ok (.iconst 0, 1) := by decide +kernel
theorem d_Re_write_29 : decode b_Re_write 29 = .ok (.istore 6, 2) := by decide +kernel
theorem d_Re_write_31 : decode b_Re_write 31 = .ok (.iload 6, 2) := by decide +kernel
theorem d_Re_write_33 : decode b_Re_write 33 = .ok (.iconst 2, 1) := by decide +kernel
theorem d_Re_write_34 : decode b_Re_write 34 = .ok (.if_icmp .ge 38, 3) := by decide +kernel
theorem d_Re_write_37 : decode b_Re_write 37 = .ok (.aload_n 3, 1) := by decide +kernel
theorem d_Re_write_38 : decode b_Re_write 38 = .ok (.getfield 88, 3) := by decide +kernel
theorem d_Re_write_41 : decode b_Re_write 41 = .ok (.iconst 2, 1) := by decide +kernel
theorem d_Re_write_42 : decode b_Re_write 42 = .ok (.iload 4, 2) := by decide +kernel
theorem d_Re_write_44 : decode b_Re_write 44 = .ok (.imul, 1) := by decide +kernel
theorem d_Re_write_45 : decode b_Re_write 45 = .ok (.iload 6, 2) := by decide +kernel
theorem d_Re_write_47 : decode b_Re_write 47 = .ok (.iadd, 1) := by decide +kernel
theorem d_Re_write_48 : decode b_Re_write 48 = .ok (.aload_n 0, 1) := by decide +kernel
theorem d_Re_write_49 : decode b_Re_write 49 = .ok (.getfield 21, 3) := by decide +kernel
theorem d_Re_write_52 : decode b_Re_write 52 = .ok (.aload_n 0, 1) := by decide +kernel
theorem d_Re_write_53 : decode b_Re_write 53 = .ok (.getfield 18, 3) := by decide +kernel
theorem d_Re_write_56 : decode b_Re_write 56 = .ok (.iconst 2, 1) := by decide +kernel
theorem d_Re_write_57 : decode b_Re_write 57 = .ok (.iload 5, 2) := by decide +kernel
theorem d_Re_write_59 : decode b_Re_write 59 = .ok (.imul, 1) := by decide +kernel
theorem d_Re_write_60 : decode b_Re_write 60 = .ok (.iload 6, 2) := by decide +kernel
theorem d_Re_write_62 : decode b_Re_write 62 = .ok (.iadd, 1) := by decide +kernel
theorem d_Re_write_63 : decode b_Re_write 63 = .ok (.iaload, 1) := by decide +kernel
theorem d_Re_write_64 : decode b_Re_write 64 = .ok (.iaload, 1) := by decide +kernel
theorem d_Re_write_65 : decode b_Re_write 65 = .ok (.iastore, 1) := by decide +kernel
theorem d_Re_write_66 : decode b_Re_write 66 = .ok (.iinc 6 1, 3) := by decide +kernel
theorem d_Re_write_69 : decode b_Re_write 69 = .ok (.goto (-38), 3) := by decide +kernel
theorem d_Re_write_72 : decode b_Re_write 72 = .ok (.aload_n 1, 1) := by decide +kernel
theorem d_Re_write_73 : decode b_Re_write 73 = .ok (.aload_n 0, 1) := by decide +kernel
theorem d_Re_write_74 : decode b_Re_write 74 = .ok (.getfield 15, 3) := by decide +kernel
theorem d_Re_write_77 : decode b_Re_write 77 = .ok (.iload 5, 2) := by decide +kernel
theorem d_Re_write_79 : decode b_Re_write 79 = .ok (.iaload, 1) := by decide +kernel
theorem d_Re_write_80 : decode b_Re_write 80 = .ok (.invokeinterface 68 2, 5) := by decide +kernel
theorem d_Re_write_85 : decode b_Re_write 85 = .ok (.ifCond .eq 16, 3) := by decide +kernel
theorem d_Re_write_88 : decode b_Re_write 88 = .ok (.aload_n 3, 1) := by decide +kernel
theorem d_Re_write_89 : decode b_Re_write 89 = .ok (.dup, 1) := by decide +kernel
theorem d_Re_write_90 : decode b_Re_write 90 = .ok (.getfield 85, 3) := by decide +kernel
theorem d_Re_write_93 : decode b_Re_write 93 = .ok (.iconst 1, 1) := by decide +kernel
theorem d_Re_write_94 : decode b_Re_write 94 = .ok (.iload 4, 2) := by decide +kernel
theorem d_Re_write_96 : decode b_Re_write 96 = .ok (.ishl, 1) := by decide +kernel
theorem d_Re_write_97 : decode b_Re_write 97 = .ok (.ior, 1) := by decide +kernel
theorem d_Re_write_98 : decode b_Re_write 98 = .ok (.putfield 85, 3) := by decide +kernel
theorem d_Re_write_101 : decode b_Re_write 101 = .ok (.iinc 4 1, 3) := by decide +kernel
theorem d_Re_write_104 : decode b_Re_write 104 = .ok (.goto (-91), 3) := by decide +kernel
theorem d_Re_write_107 : decode b_Re_write 107 = .ok (.return_, 1) := by decide +kernel
theorem d_LA_unite_0 : decode b_LA_unite 0 = .ok (.aload_n 0, 1) := by decide +kernel
theorem d_LA_unite_1 : decode b_LA_unite 1 = .ok (.iload_n 1, 1) := by decide +kernel
theorem d_LA_unite_2 : decode b_LA_unite 2 = .ok (.invokevirtual 39, 3) := by decide +kernel
theorem d_LA_unite_5 : decode b_LA_unite 5 = .ok (.ifCond .eq 11, 3) := by decide +kernel
theorem d_LA_unite_8 : decode b_LA_unite 8 = .ok (.aload_n 0, 1) := by decide +kernel
theorem d_LA_unite_9 : decode b_LA_unite 9 = .ok (.iload_n 2, 1) := by decide +kernel
theorem d_LA_unite_10 : decode b_LA_unite 10 = .ok (.invokevirtual 39, 3) := by decide +kernel
theorem d_LA_unite_13 : decode b_LA_unite 13 = .ok (.ifCond .ne 5, 3) := by decide +kernel
theorem d_LA_unite_16 : decode b_LA_unite 16 = .ok (.iconst (-1), 1) := by decide +kernel
theorem d_LA_unite_17 : decode b_LA_unite 17 = .ok (.ireturn, 1) := by decide +kernel
theorem d_LA_unite_18 : decode b_LA_unite 18 = .ok (.aload_n 0, 1) := by decide +kernel
theorem d_LA_unite_19 : decode b_LA_unite 19 = .ok (.new 43, 3) := by decide +kernel
theorem d_LA_unite_22 : decode b_LA_unite 22 = .ok (.dup, 1) := by decide +kernel
theorem d_LA_unite_23 : decode b_LA_unite 23 = .ok (.aload_n 0, 1) := by decide +kernel
theorem d_LA_unite_24 : decode b_LA_unite 24 = .ok (.getfield 11, 3) := by decide +kernel
theorem d_LA_unite_27 : decode b_LA_unite 27 = .ok (.iload_n 1, 1) := by decide +kernel
theorem d_LA_unite_28 : decode b_LA_unite 28 = .ok (.aaload, 1) := by decide +kernel
theorem d_LA_unite_29 : decode b_LA_unite 29 = .ok (.aload_n 0, 1) := by decide +kernel
theorem d_LA_unite_30 : decode b_LA_unite 30 = .ok (.getfield 11, 3) := by decide +kernel
theorem d_LA_unite_33 : decode b_LA_unite 33 = .ok (.iload_n 2, 1) := by decide +kernel
theorem d_LA_unite_34 : decode b_LA_unite 34 = .ok (.aaload, 1) := by decide +kernel
theorem d_LA_unite_35 : decode b_LA_unite 35 = .ok (.iconst 0, 1) := by decide +kernel
theorem d_LA_unite_36 : decode b_LA_unite 36 = .ok (.invokespecial 45, 3) := by decide +kernel
theorem d_LA_unite_39 : decode b_LA_unite 39 = .ok (.invokevirtual 35, 3) := by decide +kernel
theorem d_LA_unite_42 : decode b_LA_unite 42 = .ok (.ireturn, 1) := by decide +kernel
theorem d_LA_isListed_0 : decode b_LA_isListed 0 = .ok (.iload_n 1, 1) := by decide +kernel
theorem d_LA_isListed_1 : decode b_LA_isListed 1 = .ok (.ifCond .lt 15, 3) := by decide +kernel
theorem d_LA_isListed_4 : decode b_LA_isListed 4 = .ok (.iload_n 1, 1) := by decide +kernel
theorem d_LA_isListed_5 : decode b_LA_isListed 5 = .ok (.aload_n 0, 1) := by decide +kernel
theorem d_LA_isListed_6 : decode b_LA_isListed 6 = .ok (.getfield 61, 3) := by decide +kernel
theorem d_LA_isListed_9 : decode b_LA_isListed 9 = .ok (.if_icmp .ge 7, 3) := by decide +kernel
theorem d_LA_isListed_12 : decode b_LA_isListed 12 = .ok (.iconst 1, 1) := by decide +kernel
theorem d_LA_isListed_13 : decode b_LA_isListed 13 = .ok (.goto 4, 3) := by decide +kernel
theorem d_LA_isListed_16 : decode b_LA_isListed 16 = .ok (.iconst 0, 1) := by decide +kernel
theorem d_LA_isListed_17 : decode b_LA_isListed 17 = .ok (.ireturn, 1) := by decide +kernel
theorem d_Pa_init_0 : decode b_Pa_init 0 = .ok (.aload_n 0, 1) := by decide +kernel
theorem d_Pa_init_1 : decode b_Pa_init 1 = .ok (.invokespecial 3, 3) := by decide +kernel
theorem d_Pa_init_4 : decode b_Pa_init 4 = .ok (.aload_n 0, 1) := by decide +kernel
theorem d_Pa_init_5 : decode b_Pa_init 5 = .ok (.aload_n 1, 1) := by decide +kernel
theorem d_Pa_init_6 : decode b_Pa_init 6 = .ok (.putfield 9, 3) := by decide +kernel
theorem d_Pa_init_9 : decode b_Pa_init 9 = .ok (.aload_n 0, 1) := by decide +kernel
theorem d_Pa_init_10 : decode b_Pa_init 10 = .ok (.aload_n 2, 1) := by decide +kernel
theorem d_Pa_init_11 : decode b_Pa_init 11 = .ok (.putfield 15, 3) := by decide +kernel
theorem d_Pa_init_14 : decode b_Pa_init 14 = .ok (.aload_n 0, 1) := by decide +kernel
theorem d_Pa_init_15 : decode b_Pa_init 15 = .ok (.iload_n 3, 1) := by decide +kernel
theorem d_Pa_init_16 : decode b_Pa_init 16 = .ok (.putfield 18, 3) := by decide +kernel
theorem d_Pa_init_19 : decode b_Pa_init 19 = .ok (.return_, 1) := by decide +kernel
theorem d_LA_meet_0 : decode b_LA_meet 0 = .ok (.aload_n 0, 1) := by decide +kernel
theorem d_LA_meet_1 : decode b_LA_meet 1 = .ok (.iload_n 1, 1) := by decide +kernel
theorem d_LA_meet_2 : decode b_LA_meet 2 = .ok (.invokevirtual 39, 3) := by decide +kernel
theorem d_LA_meet_5 : decode b_LA_meet 5 = .ok (.ifCond .eq 11, 3) := by decide +kernel
theorem d_LA_meet_8 : decode b_LA_meet 8 = .ok (.aload_n 0, 1) := by decide +kernel
theorem d_LA_meet_9 : decode b_LA_meet 9 = .ok (.iload_n 2, 1) := by decide +kernel
theorem d_LA_meet_10 : decode b_LA_meet 10 = .ok (.invokevirtual 39, 3) := by decide +kernel
theorem d_LA_meet_13 : decode b_LA_meet 13 = .ok (.ifCond .ne 5, 3) := by decide +kernel
theorem d_LA_meet_16 : decode b_LA_meet 16 = .ok (.iconst (-1), 1) := by decide +kernel
theorem d_LA_meet_17 : decode b_LA_meet 17 = .ok (.ireturn, 1) := by decide +kernel
theorem d_LA_meet_18 : decode b_LA_meet 18 = .ok (.aload_n 0, 1) := by decide +kernel
theorem d_LA_meet_19 : decode b_LA_meet 19 = .ok (.new 43, 3) := by decide +kernel
theorem d_LA_meet_22 : decode b_LA_meet 22 = .ok (.dup, 1) := by decide +kernel
theorem d_LA_meet_23 : decode b_LA_meet 23 = .ok (.aload_n 0, 1) := by decide +kernel
theorem d_LA_meet_24 : decode b_LA_meet 24 = .ok (.getfield 11, 3) := by decide +kernel
theorem d_LA_meet_27 : decode b_LA_meet 27 = .ok (.iload_n 1, 1) := by decide +kernel
theorem d_LA_meet_28 : decode b_LA_meet 28 = .ok (.aaload, 1) := by decide +kernel
theorem d_LA_meet_29 : decode b_LA_meet 29 = .ok (.aload_n 0, 1) := by decide +kernel
theorem d_LA_meet_30 : decode b_LA_meet 30 = .ok (.getfield 11, 3) := by decide +kernel
theorem d_LA_meet_33 : decode b_LA_meet 33 = .ok (.iload_n 2, 1) := by decide +kernel
theorem d_LA_meet_34 : decode b_LA_meet 34 = .ok (.aaload, 1) := by decide +kernel
theorem d_LA_meet_35 : decode b_LA_meet 35 = .ok (.iconst 1, 1) := by decide +kernel
theorem d_LA_meet_36 : decode b_LA_meet 36 = .ok (.invokespecial 45, 3) := by decide +kernel
theorem d_LA_meet_39 : decode b_LA_meet 39 = .ok (.invokevirtual 35, 3) := by decide +kernel
theorem d_LA_meet_42 : decode b_LA_meet 42 = .ok (.ireturn, 1) := by decide +kernel
