theorem d_LA_init_0 : decode b_LA_init 0 = .ok (.aload_n 0, 1) := by decide +kernel
theorem d_LA_init_1 : decode b_LA_init 1 = .ok (.invokespecial 3, 3) := by decide +kernel
theorem d_LA_init_4 : decode b_LA_init 4 = .ok (.aload_n 0, 1) := by decide +kernel
theorem d_LA_init_5 : decode b_LA_init 5 = .ok (.bipush 12, 2) := by decide +kernel
theorem d_LA_init_7 : decode b_LA_init 7 = .ok (.anewarray 9, 3) := by decide +kernel
theorem d_LA_init_10 : decode b_LA_init 10 = .ok (.putfield 11, 3) := by decide +kernel
theorem d_LA_init_13 : decode b_LA_init 13 = .ok (.aload_n 0, 1) := by decide +kernel
theorem d_LA_init_14 : decode b_LA_init 14 = .ok (.new 15, 3) := by decide +kernel
theorem d_LA_init_17 : decode b_LA_init 17 = .ok (.dup, 1) := by decide +kernel
theorem d_LA_init_18 : decode b_LA_init 18 = .ok (.invokespecial 17, 3) := by decide +kernel
theorem d_LA_init_21 : decode b_LA_init 21 = .ok (.putfield 18, 3) := by decide +kernel
theorem d_LA_init_24 : decode b_LA_init 24 = .ok (.aload_n 0, 1) := by decide +kernel
theorem d_LA_init_25 : decode b_LA_init 25 = .ok (.new 22, 3) := by decide +kernel
theorem d_LA_init_28 : decode b_LA_init 28 = .ok (.dup, 1) := by decide +kernel
theorem d_LA_init_29 : decode b_LA_init 29 = .ok (.invokespecial 24, 3) := by decide +kernel
theorem d_LA_init_32 : decode b_LA_init 32 = .ok (.putfield 25, 3) := by decide +kernel
theorem d_LA_init_35 : decode b_LA_init 35 = .ok (.iconst 0, 1) := by decide +kernel
theorem d_LA_init_36 : decode b_LA_init 36 = .ok (.istore_n 1, 1) := by decide +kernel
theorem d_LA_init_37 : decode b_LA_init 37 = .ok (.iload_n 1, 1) := by decide +kernel
theorem d_LA_init_38 : decode b_LA_init 38 = .ok (.bipush 12, 2) := by decide +kernel
theorem d_LA_init_40 : decode b_LA_init 40 = .ok (.if_icmp .ge 22, 3) := by decide +kernel
theorem d_LA_init_43 : decode b_LA_init 43 = .ok (.aload_n 0, 1) := by decide +kernel
theorem d_LA_init_44 : decode b_LA_init 44 = .ok (.getfield 11, 3) := by decide +kernel
theorem d_LA_init_47 : decode b_LA_init 47 = .ok (.iload_n 1, 1) := by decide +kernel
theorem d_LA_init_48 : decode b_LA_init 48 = .ok (.new 9, 3) := by decide +kernel
theorem d_LA_init_51 : decode b_LA_init 51 = .ok (.dup, 1) := by decide +kernel
theorem d_LA_init_52 : decode b_LA_init 52 = .ok (.invokespecial 29, 3) := by decide +kernel
theorem d_LA_init_55 : decode b_LA_init 55 = .ok (.aastore, 1) := by decide +kernel
theorem d_LA_init_56 : decode b_LA_init 56 = .ok (.iinc 1 1, 3) := by decide +kernel
theorem d_LA_init_59 : decode b_LA_init 59 = .ok (.goto (-22), 3) := by decide +kernel
theorem d_LA_init_62 : decode b_LA_init 62 = .ok (.return_, 1) := by decide +kernel
theorem d_Re_init_0 : decode b_Re_init 0 = .ok (.aload_n 0, 1) := by decide +kernel
theorem d_Re_init_1 : decode b_Re_init 1 = .ok (.invokespecial 3, 3) := by decide +kernel
theorem d_Re_init_4 : decode b_Re_init 4 = .ok (.aload_n 0, 1) := by decide +kernel
theorem d_Re_init_5 : decode b_Re_init 5 = .ok (.sipush 384, 3) := by decide +kernel
theorem d_Re_init_8 : decode b_Re_init 8 = .ok (.newarray .int, 2) := by decide +kernel
theorem d_Re_init_10 : decode b_Re_init 10 = .ok (.putfield 9, 3) := by decide +kernel
theorem d_Re_init_13 : decode b_Re_init 13 = .ok (.aload_n 0, 1) := by decide +kernel
theorem d_Re_init_14 : decode b_Re_init 14 = .ok (.sipush 384, 3) := by decide +kernel
theorem d_Re_init_17 : decode b_Re_init 17 = .ok (.newarray .int, 2) := by decide +kernel
theorem d_Re_init_19 : decode b_Re_init 19 = .ok (.putfield 15, 3) := by decide +kernel
theorem d_Re_init_22 : decode b_Re_init 22 = .ok (.aload_n 0, 1) := by decide +kernel
theorem d_Re_init_23 : decode b_Re_init 23 = .ok (.sipush 768, 3) := by decide +kernel
theorem d_Re_init_26 : decode b_Re_init 26 = .ok (.newarray .int, 2) := by decide +kernel
theorem d_Re_init_28 : decode b_Re_init 28 = .ok (.putfield 18, 3) := by decide +kernel
theorem d_Re_init_31 : decode b_Re_init 31 = .ok (.aload_n 0, 1) := by decide +kernel
theorem d_Re_init_32 : decode b_Re_init 32 = .ok (.sipush 384, 3) := by decide +kernel
theorem d_Re_init_35 : decode b_Re_init 35 = .ok (.newarray .int, 2) := by decide +kernel
theorem d_Re_init_37 : decode b_Re_init 37 = .ok (.putfield 21, 3) := by decide +kernel
theorem d_Re_init_40 : decode b_Re_init 40 = .ok (.aload_n 0, 1) := by decide +kernel
theorem d_Re_init_41 : decode b_Re_init 41 = .ok (.sipush 384, 3) := by decide +kernel
theorem d_Re_init_44 : decode b_Re_init 44 = .ok (.newarray .int, 2) := by decide +kernel
theorem d_Re_init_46 : decode b_Re_init 46 = .ok (.putfield 24, 3) := by decide +kernel
theorem d_Re_init_49 : decode b_Re_init 49 = .ok (.aload_n 0, 1) := by decide +kernel
theorem d_Re_init_50 : decode b_Re_init 50 = .ok (.bipush 6, 2) := by decide +kernel
theorem d_Re_init_52 : decode b_Re_init 52 = .ok (.newarray .int, 2) := by decide +kernel
theorem d_Re_init_54 : decode b_Re_init 54 = .ok (.putfield 27, 3) := by decide +kernel
theorem d_Re_init_57 : decode b_Re_init 57 = .ok (.return_, 1) := by decide +kernel
theorem d_Al_init_0 : decode b_Al_init 0 = .ok (.aload_n 0, 1) := by decide +kernel
theorem d_Al_init_1 : decode b_Al_init 1 = .ok (.invokespecial 3, 3) := by decide +kernel
theorem d_Al_init_4 : decode b_Al_init 4 = .ok (.aload_n 0, 1) := by decide +kernel
theorem d_Al_init_5 : decode b_Al_init 5 = .ok (.bipush 60, 2) := by decide +kernel
theorem d_Al_init_7 : decode b_Al_init 7 = .ok (.newarray .int, 2) := by decide +kernel
theorem d_Al_init_9 : decode b_Al_init 9 = .ok (.putfield 9, 3) := by decide +kernel
theorem d_Al_init_12 : decode b_Al_init 12 = .ok (.aload_n 0, 1) := by decide +kernel
theorem d_Al_init_13 : decode b_Al_init 13 = .ok (.bipush 120, 2) := by decide +kernel
theorem d_Al_init_15 : decode b_Al_init 15 = .ok (.newarray .int, 2) := by decide +kernel
theorem d_Al_init_17 : decode b_Al_init 17 = .ok (.putfield 15, 3) := by decide +kernel
theorem d_Al_init_20 : decode b_Al_init 20 = .ok (.aload_n 0, 1) := by decide +kernel
theorem d_Al_init_21 : decode b_Al_init 21 = .ok (.bipush 60, 2) := by decide +kernel
theorem d_Al_init_23 : decode b_Al_init 23 = .ok (.newarray .int, 2) := by decide +kernel
theorem d_Al_init_25 : decode b_Al_init 25 = .ok (.putfield 18, 3) := by decide +kernel
theorem d_Al_init_28 : decode b_Al_init 28 = .ok (.aload_n 0, 1) := by decide +kernel
theorem d_Al_init_29 : decode b_Al_init 29 = .ok (.bipush 60, 2) := by decide +kernel
theorem d_Al_init_31 : decode b_Al_init 31 = .ok (.newarray .int, 2) := by decide +kernel
theorem d_Al_init_33 : decode b_Al_init 33 = .ok (.putfield 21, 3) := by decide +kernel
theorem d_Al_init_36 : decode b_Al_init 36 = .ok (.aload_n 0, 1) := by decide +kernel
theorem d_Al_init_37 : decode b_Al_init 37 = .ok (.bipush 60, 2) := by decide +kernel
theorem d_Al_init_39 : decode b_Al_init 39 = .ok (.newarray .long, 2) := by decide +kernel
theorem d_Al_init_41 : decode b_Al_init 41 = .ok (.putfield 24, 3) := by decide +kernel
theorem d_Al_init_44 : decode b_Al_init 44 = .ok (.aload_n 0, 1) := by decide +kernel
theorem d_Al_init_45 : decode b_Al_init 45 = .ok (.sipush 3600, 3) := by decide +kernel
theorem d_Al_init_48 : decode b_Al_init 48 = .ok (.newarray .int, 2) := by decide +kernel
theorem d_Al_init_50 : decode b_Al_init 50 = .ok (.putfield 28, 3) := by decide +kernel
theorem d_Al_init_53 : decode b_Al_init 53 = .ok (.aload_n 0, 1) := by decide +kernel
theorem d_Al_init_54 : decode b_Al_init 54 = .ok (.bipush 60, 2) := by decide +kernel
theorem d_Al_init_56 : decode b_Al_init 56 = .ok (.newarray .long, 2) := by decide +kernel
theorem d_Al_init_58 : decode b_Al_init 58 = .ok (.putfield 31, 3) := by decide +kernel
theorem d_Al_init_61 : decode b_Al_init 61 = .ok (.aload_n 0, 1) := by decide +kernel
theorem d_Al_init_62 : decode b_Al_init 62 = .ok (.bipush 60, 2) := by decide +kernel
theorem d_Al_init_64 : decode b_Al_init 64 = .ok (.newarray .long, 2) := by decide +kernel
theorem d_Al_init_66 : decode b_Al_init 66 = .ok (.putfield 34, 3) := by decide +kernel
theorem d_Al_init_69 : decode b_Al_init 69 = .ok (.aload_n 0, 1) := by decide +kernel
theorem d_Al_init_70 : decode b_Al_init 70 = .ok (.bipush 60, 2) := by decide +kernel
theorem d_Al_init_72 : decode b_Al_init 72 = .ok (.newarray .long, 2) := by decide +kernel
theorem d_Al_init_74 : decode b_Al_init 74 = .ok (.putfield 37, 3) := by decide +kernel
theorem d_Al_init_77 : decode b_Al_init 77 = .ok (.return_, 1) := by decide +kernel
theorem d_Au_init_0 : decode b_Au_init 0 = .ok (.aload_n 0, 1) := by decide +kernel
theorem d_Au_init_1 : decode b_Au_init 1 = .ok (.invokespecial 3, 3) := by decide +kernel
theorem d_Au_init_4 : decode b_Au_init 4 = .ok (.aload_n 0, 1) := by decide +kernel
theorem d_Au_init_5 : decode b_Au_init 5 = .ok (.bipush 12, 2) := by decide +kernel
theorem d_Au_init_7 : decode b_Au_init 7 = .ok (.newarray .int, 2) := by decide +kernel
theorem d_Au_init_9 : decode b_Au_init 9 = .ok (.putfield 9, 3) := by decide +kernel
theorem d_Au_init_12 : decode b_Au_init 12 = .ok (.return_, 1) := by decide +kernel
theorem d_LA_basic_0 : decode b_LA_basic 0 = .ok (.iload_n 1, 1) := by decide +kernel
theorem d_LA_basic_1 : decode b_LA_basic 1 = .ok (.ifCond .lt 8, 3) := by decide +kernel
theorem d_LA_basic_4 : decode b_LA_basic 4 = .ok (.iload_n 1, 1) := by decide +kernel
theorem d_LA_basic_5 : decode b_LA_basic 5 = .ok (.iconst 4, 1) := by decide +kernel
theorem d_LA_basic_6 : decode b_LA_basic 6 = .ok (.if_icmp .lt 5, 3) := by decide +kernel
theorem d_LA_basic_9 : decode b_LA_basic 9 = .ok (.iconst (-1), 1) := by decide +kernel
theorem d_LA_basic_10 : decode b_LA_basic 10 = .ok (.ireturn, 1) := by decide +kernel
theorem d_LA_basic_11 : decode b_LA_basic 11 = .ok (.aload_n 0, 1) := by decide +kernel
theorem d_LA_basic_12 : decode b_LA_basic 12 = .ok (.new 30, 3) := by decide +kernel
theorem d_LA_basic_15 : decode b_LA_basic 15 = .ok (.dup, 1) := by decide +kernel
theorem d_LA_basic_16 : decode b_LA_basic 16 = .ok (.iload_n 1, 1) := by decide +kernel
theorem d_LA_basic_17 : decode b_LA_basic 17 = .ok (.invokespecial 32, 3) := by decide +kernel
theorem d_LA_basic_20 : decode b_LA_basic 20 = .ok (.invokevirtual 35, 3) := by decide +kernel
theorem d_LA_basic_23 : decode b_LA_basic 23 = .ok (.ireturn, 1) := by decide +kernel
theorem d_Ba_init_0 : decode b_Ba_init 0 = .ok (.aload_n 0, 1) := by decide +kernel
theorem d_Ba_init_1 : decode b_Ba_init 1 = .ok (.invokespecial 3, 3) := by decide +kernel
theorem d_Ba_init_4 : decode b_Ba_init 4 = .ok (.aload_n 0, 1) := by decide +kernel
theorem d_Ba_init_5 : decode b_Ba_init 5 = .ok (.iload_n 1, 1) := by decide +kernel
theorem d_Ba_init_6 : decode b_Ba_init 6 = .ok (.putfield 9, 3) := by decide +kernel
theorem d_Ba_init_9 : decode b_Ba_init 9 = .ok (.return_, 1) := by decide +kernel
theorem d_LA_add_0 : decode b_LA_add 0 = .ok (.aload_n 0, 1) := by decide +kernel
theorem d_LA_add_1 : decode b_LA_add 1 = .ok (.getfield 61, 3) := by decide +kernel
theorem d_LA_add_4 : decode b_LA_add 4 = .ok (.bipush 12, 2) := by decide +kernel
theorem d_LA_add_6 : decode b_LA_add 6 = .ok (.if_icmp .lt 6, 3) := by decide +kernel
theorem d_LA_add_9 : decode b_LA_add 9 = .ok (.bipush (-2), 2) := by decide +kernel
theorem d_LA_add_11 : decode b_LA_add 11 = .ok (.ireturn, 1) := by decide +kernel
theorem d_LA_add_12 : decode b_LA_add 12 = .ok (.aload_n 0, 1) := by decide +kernel
theorem d_LA_add_13 : decode b_LA_add 13 = .ok (.getfield 18, 3) := by decide +kernel
theorem d_LA_add_16 : decode b_LA_add 16 = .ok (.aload_n 1, 1) := by decide +kernel
theorem d_LA_add_17 : decode b_LA_add 17 = .ok (.aload_n 0, 1) := by decide +kernel
theorem d_LA_add_18 : decode b_LA_add 18 = .ok (.getfield 11, 3) := by decide +kernel
theorem d_LA_add_21 : decode b_LA_add 21 = .ok (.aload_n 0, 1) := by decide +kernel
theorem d_LA_add_22 : decode b_LA_add 22 = .ok (.getfield 61, 3) := by decide +kernel
theorem d_LA_add_25 : decode b_LA_add 25 = .ok (.aaload, 1) := by decide +kernel
theorem d_LA_add_26 : decode b_LA_add 26 = .ok (.invokevirtual 116, 3) := by decide +kernel
theorem d_LA_add_29 : decode b_LA_add 29 = .ok (.ifCond .ne 6, 3) := by decide +kernel
theorem d_LA_add_32 : decode b_LA_add 32 = .ok (.bipush (-3), 2) := by decide +kernel
theorem d_LA_add_34 : decode b_LA_add 34 = .ok (.ireturn, 1) := by decide +kernel
theorem d_LA_add_35 : decode b_LA_add 35 = .ok (.aload_n 0, 1) := by decide +kernel
theorem d_LA_add_36 : decode b_LA_add 36 = .ok (.dup, 1) := by decide +kernel
theorem d_LA_add_37 : decode b_LA_add 37 = .ok (.getfield 61, 3) := by decide +kernel
theorem d_LA_add_40 : decode b_LA_add 40 = .ok (.iconst 1, 1) := by decide +kernel
theorem d_LA_add_41 : decode b_LA_add 41 = .ok (.iadd, 1) := by decide +kernel
theorem d_LA_add_42 : decode b_LA_add 42 = .ok (.putfield 61, 3) := by decide +kernel
theorem d_LA_add_45 : decode b_LA_add 45 = .ok (.aload_n 0, 1) := by decide +kernel
theorem d_LA_add_46 : decode b_LA_add 46 = .ok (.getfield 61, 3) := by decide +kernel
theorem d_LA_add_49 : decode b_LA_add 49 = .ok (.iconst 1, 1) := by decide +kernel
theorem d_LA_add_50 : decode b_LA_add 50 = .ok (.isub, 1) := by decide +kernel
theorem d_LA_add_51 : decode b_LA_add 51 = .ok (.ireturn, 1) := by decide +kernel
theorem d_Re_reduce_0 : decode b_Re_reduce 0 = .ok (.aload_n 0, 1) := by decide +kernel
theorem d_Re_reduce_1 : decode b_Re_reduce 1 = .ok (.aload_n 1, 1) := by decide +kernel
theorem d_Re_reduce_2 : decode b_Re_reduce 2 = .ok (.invokevirtual 30, 3) := by decide +kernel
theorem d_Re_reduce_5 : decode b_Re_reduce 5 = .ok (.aload_n 0, 1) := by decide +kernel
theorem d_Re_reduce_6 : decode b_Re_reduce 6 = .ok (.aload_n 1, 1) := by decide +kernel
theorem d_Re_reduce_7 : decode b_Re_reduce 7 = .ok (.invokevirtual 34, 3) := by decide +kernel
theorem d_Re_reduce_10 : decode b_Re_reduce 10 = .ok (.aload_n 0, 1) := by decide +kernel
theorem d_Re_reduce_11 : decode b_Re_reduce 11 = .ok (.invokevirtual 37, 3) := by decide +kernel
theorem d_Re_reduce_14 : decode b_Re_reduce 14 = .ok (.istore_n 3, 1) := by decide +kernel
theorem d_Re_reduce_15 : decode b_Re_reduce 15 = .ok (.iload_n 3, 1) := by decide +kernel
theorem d_Re_reduce_16 : decode b_Re_reduce 16 = .ok (.iconst (-1), 1) := by decide +kernel
theorem d_Re_reduce_17 : decode b_Re_reduce 17 = .ok (.if_icmp .ne 5, 3) := by decide +kernel
theorem d_Re_reduce_20 : decode b_Re_reduce 20 = .ok (.iconst 0, 1) := by decide +kernel
theorem d_Re_reduce_21 : decode b_Re_reduce 21 = .ok (.ireturn, 1) := by decide +kernel
theorem d_Re_reduce_22 : decode b_Re_reduce 22 = .ok (.aload_n 0, 1) := by decide +kernel
theorem d_Re_reduce_23 : decode b_Re_reduce 23 = .ok (.aload_n 1, 1) := by decide +kernel
theorem d_Re_reduce_24 : decode b_Re_reduce 24 = .ok (.iload_n 3, 1) := by decide +kernel
theorem d_Re_reduce_25 : decode b_Re_reduce 25 = .ok (.aload_n 2, 1) := by decide +kernel
theorem d_Re_reduce_26 : decode b_Re_reduce 26 = .ok (.invokevirtual 41, 3) := by decide +kernel
theorem d_Re_reduce_29 : decode b_Re_reduce 29 = .ok (.iconst 1, 1) := by decide +kernel
theorem d_Re_reduce_30 : decode b_Re_reduce 30 = .ok (.ireturn, 1) := by decide +kernel
theorem d_Re_explore_0 : decode b_Re_explore 0 = .ok (.aload_n 0, 1) := by decide +kernel
theorem d_Re_explore_1 : decode b_Re_explore 1 = .ok (.getfield 9, 3) := by decide +kernel
theorem d_Re_explore_4 : decode b_Re_explore 4 = .ok (.iconst (-1), 1) := by decide +kernel
theorem d_Re_explore_5 : decode b_Re_explore 5 = .ok (.invokestatic 45, 3) := by decide +kernel
theorem d_Re_explore_8 : decode b_Re_explore 8 = .ok (.aload_n 0, 1) := by decide +kernel
theorem d_Re_explore_9 : decode b_Re_explore 9 = .ok (.iconst 0, 1) := by decide +kernel
theorem d_Re_explore_10 : decode b_Re_explore 10 = .ok (.putfield 51, 3) := by decide +kernel
theorem d_Re_explore_13 : decode b_Re_explore 13 = .ok (.aload_n 0, 1) := by decide +kernel
theorem d_Re_explore_14 : decode b_Re_explore 14 = .ok (.aload_n 1, 1) := by decide +kernel
theorem d_Re_explore_15 : decode b_Re_explore 15 = .ok (.invokeinterface 55 1, 5) := by decide +kernel
theorem d_Re_explore_20 : decode b_Re_explore 20 = .ok (.invokevirtual 60, 3) := by decide +kernel
theorem d_Re_explore_23 : decode b_Re_explore 23 = .ok (.pop, 1) := by decide +kernel
theorem d_Re_explore_24 : decode b_Re_explore 24 = .ok (.iconst 0, 1) := by decide +kernel
theorem d_Re_explore_25 : decode b_Re_explore 25 = .ok (.istore_n 2, 1) := by decide +kernel
theorem d_Re_explore_26 : decode b_Re_explore 26 = .ok (.iload_n 2, 1) := by decide +kernel
theorem d_Re_explore_27 : decode b_Re_explore 27 = .ok (.aload_n 0, 1) := by decide +kernel
theorem d_Re_explore_28 : decode b_Re_explore 28 = .ok (.getfield 51, 3) := by decide +kernel
theorem d_Re_explore_31 : decode b_Re_explore 31 = .ok (.if_icmp .ge 56, 3) := by decide +kernel
theorem d_Re_explore_34 : decode b_Re_explore 34 = .ok (.iload_n 2, 1) := by decide +kernel
theorem d_Re_explore_35 : decode b_Re_explore 35 = .ok (.sipush 384, 3) := by decide +kernel
theorem d_Re_explore_38 : decode b_Re_explore 38 = .ok (.if_icmp .ge 49, 3) := by decide +kernel
theorem d_Re_explore_41 : decode b_Re_explore 41 = .ok (.iconst 0, 1) := by decide +kernel
theorem d_Re_explore_42 : decode b_Re_explore 42 = .ok (.istore_n 3, 1) := by decide +kernel
theorem d_Re_explore_43 : decode b_Re_explore 43 = .ok (.iload_n 3, 1) := by decide +kernel
theorem d_Re_explore_44 : decode b_Re_explore 44 = .ok (.iconst 2, 1) := by decide +kernel
theorem d_Re_explore_45 : decode b_Re_explore 45 = .ok (.if_icmp .ge 36, 3) := by decide +kernel
theorem d_Re_explore_48 : decode b_Re_explore 48 = .ok (.aload_n 0, 1) := by decide +kernel
theorem d_Re_explore_49 : decode b_Re_explore 49 = .ok (.getfield 18, 3) := by decide +kernel
theorem d_Re_explore_52 : decode b_Re_explore 52 = .ok (.iconst 2, 1) := by decide +kernel
theorem d_Re_explore_53 : decode b_Re_explore 53 = .ok (.iload_n 2, 1) := by decide +kernel
theorem d_Re_explore_54 : decode b_Re_explore 54 = .ok (.imul, 1) := by decide +kernel
theorem d_Re_explore_55 : decode b_Re_explore 55 = .ok (.iload_n 3, 1) := by decide +kernel
theorem d_Re_explore_56 : decode b_Re_explore 56 = .ok (.iadd, 1) := by decide +kernel
theorem d_Re_explore_57 : decode b_Re_explore 57 = .ok (.aload_n 0, 1) := by decide +kernel
theorem d_Re_explore_58 : decode b_Re_explore 58 = .ok (.aload_n 1, 1) := by decide +kernel
theorem d_Re_explore_59 : decode b_Re_explore 59 = .ok (.aload_n 0, 1) := by decide +kernel
theorem d_Re_explore_60 : decode b_Re_explore 60 = .ok (.getfield 15, 3) := by decide +kernel
theorem d_Re_explore_63 : decode b_Re_explore 63 = .ok (.iload_n 2, 1) := by decide +kernel
theorem d_Re_explore_64 : decode b_Re_explore 64 = .ok (.iaload, 1) := by decide +kernel
theorem d_Re_explore_65 : decode b_Re_explore 65 = .ok (.iload_n 3, 1) := by decide +kernel
theorem d_Re_explore_66 : decode b_Re_explore 66 = .ok (.invokeinterface 64 3, 5) := by decide +kernel
theorem d_Re_explore_71 : decode b_Re_explore 71 = .ok (.invokevirtual 60, 3) := by decide +kernel
theorem d_Re_explore_74 : decode b_Re_explore 74 = .ok (.iastore, 1) := by decide +kernel
theorem d_Re_explore_75 : decode b_Re_explore 75 = .ok (.iinc 3 1, 3) := by decide +kernel
theorem d_Re_explore_78 : decode b_Re_explore 78 = .ok (.goto (-35), 3) := by decide +kernel
theorem d_Re_explore_81 : decode b_Re_explore 81 = .ok (.iinc 2 1, 3) := by decide +kernel
theorem d_Re_explore_84 : decode b_Re_explore 84 = .ok (.goto (-58), 3) := by decide +kernel
theorem d_Re_explore_87 : decode b_Re_explore 87 = .ok (.return_, 1) := by decide +kernel
theorem d_Ar_fill_0 : decode b_Ar_fill 0 = .ok (.iconst 0, 1) := by decide +kernel
theorem d_Ar_fill_1 : decode b_Ar_fill 1 = .ok (.istore_n 2, 1) := by decide +kernel
theorem d_Ar_fill_2 : decode b_Ar_fill 2 = .ok (.aload_n 0, 1) := by decide +kernel
theorem d_Ar_fill_3 : decode b_Ar_fill 3 = .ok (.arraylength, 1) := by decide +kernel
theorem d_Ar_fill_4 : decode b_Ar_fill 4 = .ok (.istore_n 3, 1) := by decide +kernel
theorem d_Ar_fill_5 : decode b_Ar_fill 5 = .ok (.iload_n 2, 1) := by decide +kernel
theorem d_Ar_fill_6 : decode b_Ar_fill 6 = .ok (.iload_n 3, 1) := by decide +kernel
theorem d_Ar_fill_7 : decode b_Ar_fill 7 = .ok (.if_icmp .ge 13, 3) := by decide +kernel
theorem d_Ar_fill_10 : decode b_Ar_fill 10 = .ok (.aload_n 0, 1) := by decide +kernel
theorem d_Ar_fill_11 : decode b_Ar_fill 11 = .ok (.iload_n 2, 1) := by decide +kernel
theorem d_Ar_fill_12 : decode b_Ar_fill 12 = .ok (.iload_n 1, 1) := by decide +kernel
theorem d_Ar_fill_13 : decode b_Ar_fill 13 = .ok (.iastore, 1) := by decide +kernel
theorem d_Ar_fill_14 : decode b_Ar_fill 14 = .ok (.iinc 2 1, 3) := by decide +kernel
theorem d_Ar_fill_17 : decode b_Ar_fill 17 = .ok (.goto (-12), 3) := by decide +kernel
theorem d_Ar_fill_20 : decode b_Ar_fill 20 = .ok (.return_, 1) := by decide +kernel
theorem d_Ba_startCode_0 : decode b_Ba_startCode 0 = .ok (.iconst 0, 1) := by decide +kernel
theorem d_Ba_startCode_1 : decode b_Ba_startCode 1 = .ok (.ireturn, 1) := by decide +kernel
theorem d_Ch_startCode_0 : decode b_Ch_startCode 0 = .ok (.aload_n 0, 1) := by decide +kernel
theorem d_Ch_startCode_1 : decode b_Ch_startCode 1 = .ok (.iconst 0, 1) := by decide +kernel
theorem d_Ch_startCode_2 : decode b_Ch_startCode 2 = .ok (.iconst 0, 1) := by decide +kernel
theorem d_Ch_startCode_3 : decode b_Ch_startCode 3 = .ok (.invokevirtual 18, 3) := by decide +kernel
theorem d_Ch_startCode_6 : decode b_Ch_startCode 6 = .ok (.ireturn, 1) := by decide +kernel
theorem d_Ch_codeOf_0 : decode b_Ch_codeOf 0 = .ok (.aload_n 0, 1) := by decide +kernel
theorem d_Ch_codeOf_1 : decode b_Ch_codeOf 1 = .ok (.getfield 9, 3) := by decide +kernel
theorem d_Ch_codeOf_4 : decode b_Ch_codeOf 4 = .ok (.iload_n 1, 1) := by decide +kernel
theorem d_Ch_codeOf_5 : decode b_Ch_codeOf 5 = .ok (.invokevirtual 34, 3) := by decide +kernel
theorem d_Ch_codeOf_8 : decode b_Ch_codeOf 8 = .ok (.ifCond .eq 9, 3) := by decide +kernel
theorem d_Ch_codeOf_11 : decode b_Ch_codeOf 11 = .ok (.iload_n 2, 1) := by decide +kernel
theorem d_Ch_codeOf_12 : decode b_Ch_codeOf 12 = .ok (.iconst 1, 1) := by decide +kernel
theorem d_Ch_codeOf_13 : decode b_Ch_codeOf 13 = .ok (.ior, 1) := by decide +kernel
theorem d_Ch_codeOf_14 : decode b_Ch_codeOf 14 = .ok (.goto 4, 3) := by decide +kernel
theorem d_Ch_codeOf_17 : decode b_Ch_codeOf 17 = .ok (.iload_n 2, 1) := by decide +kernel
theorem d_Ch_codeOf_18 : decode b_Ch_codeOf 18 = .ok (.istore_n 3, 1) := by decide +kernel
theorem d_Ch_codeOf_19 : decode b_Ch_codeOf 19 = .ok (.bipush 64, 2) := by decide +kernel
theorem d_Ch_codeOf_21 : decode b_Ch_codeOf 21 = .ok (.iload_n 1, 1) := by decide +kernel
theorem d_Ch_codeOf_22 : decode b_Ch_codeOf 22 = .ok (.imul, 1) := by decide +kernel
theorem d_Ch_codeOf_23 : decode b_Ch_codeOf 23 = .ok (.iload_n 3, 1) := by decide +kernel
theorem d_Ch_codeOf_24 : decode b_Ch_codeOf 24 = .ok (.iadd, 1) := by decide +kernel
theorem d_Ch_codeOf_25 : decode b_Ch_codeOf 25 = .ok (.ireturn, 1) := by decide +kernel
theorem d_Au_isAccepting_0 : decode b_Au_isAccepting 0 = .ok (.aload_n 0, 1) := by decide +kernel
theorem d_Au_isAccepting_1 : decode b_Au_isAccepting 1 = .ok (.getfield 19, 3) := by decide +kernel
theorem d_Au_isAccepting_4 : decode b_Au_isAccepting 4 = .ok (.iload_n 1, 1) := by decide +kernel
theorem d_Au_isAccepting_5 : decode b_Au_isAccepting 5 = .ok (.ishr, 1) := by decide +kernel
theorem d_Au_isAccepting_6 : decode b_Au_isAccepting 6 = .ok (.iconst 1, 1) := by decide +kernel
theorem d_Au_isAccepting_7 : decode b_Au_isAccepting 7 = .ok (.iand, 1) := by decide +kernel
theorem d_Au_isAccepting_8 : decode b_Au_isAccepting 8 = .ok (.ifCond .eq 7, 3) := by decide +kernel
theorem d_Au_isAccepting_11 : decode b_Au_isAccepting 11 = .ok (.iconst 1, 1) := by decide +kernel
theorem d_Au_isAccepting_12 : decode b_Au_isAccepting 12 = .ok (.goto 4, 3) := by decide +kernel
theorem d_Au_isAccepting_15 : decode b_Au_isAccepting 15 = .ok (.iconst 0, 1) := by decide +kernel
theorem d_Au_isAccepting_16 : decode b_Au_isAccepting 16 = .ok (.ireturn, 1) := by decide +kernel
theorem d_In_startCode_0 : decode b_In_startCode 0 = .ok (.iconst 0, 1) := by decide +kernel
theorem d_In_startCode_1 : decode b_In_startCode 1 = .ok (.ireturn, 1) := by decide +kernel
theorem d_Pa_startCode_0 : decode b_Pa_startCode 0 = .ok (.iconst 0, 1) := by decide +kernel
theorem d_Pa_startCode_1 : decode b_Pa_startCode 1 = .ok (.ireturn, 1) := by decide +kernel
theorem d_St_startCode_0 : decode b_St_startCode 0 = .ok (.bipush 64, 2) := by decide +kernel
theorem d_St_startCode_2 : decode b_St_startCode 2 = .ok (.ireturn, 1) := by decide +kernel
theorem d_Re_numberFor_0 : decode b_Re_numberFor 0 = .ok (.aload_n 0, 1) := by decide +kernel
theorem d_Re_numberFor_1 : decode b_Re_numberFor 1 = .ok (.getfield 9, 3) := by decide +kernel
theorem d_Re_numberFor_4 : decode b_Re_numberFor 4 = .ok (.iload_n 1, 1) := by decide +kernel
theorem d_Re_numberFor_5 : decode b_Re_numberFor 5 = .ok (.iaload, 1) := by decide +kernel
theorem d_Re_numberFor_6 : decode b_Re_numberFor 6 = .ok (.iconst (-1), 1) := by decide +kernel
theorem d_Re_numberFor_7 : decode b_Re_numberFor 7 = .ok (.if_icmp .ne 33, 3) := by decide +kernel
theorem d_Re_numberFor_10 : decode b_Re_numberFor 10 = .ok (.aload_n 0, 1) := by decide +kernel
theorem d_Re_numberFor_11 : decode b_Re_numberFor 11 = .ok (.getfield 9, 3) := by decide +kernel
theorem d_Re_numberFor_14 : decode b_Re_numberFor 14 = .ok (.iload_n 1, 1) := by decide +kernel
theorem d_Re_numberFor_15 : decode b_Re_numberFor 15 = .ok (.aload_n 0, 1) := by decide +kernel
theorem d_Re_numberFor_16 : decode b_Re_numberFor 16 = .ok (.getfield 51, 3) := by decide +kernel
theorem d_Re_numberFor_19 : decode b_Re_numberFor 19 = .ok (.iastore, 1) := by decide +kernel
theorem d_Re_numberFor_20 : decode b_Re_numberFor 20 = .ok (.aload_n 0, 1) := by decide +kernel
theorem d_Re_numberFor_21 : decode b_Re_numberFor 21 = .ok (.getfield 15, 3) := by decide +kernel
theorem d_Re_numberFor_24 : decode b_Re_numberFor 24 = .ok (.aload_n 0, 1) := by decide +kernel
theorem d_Re_numberFor_25 : decode b_Re_numberFor 25 = .ok (.getfield 51, 3) := by decide +kernel
theorem d_Re_numberFor_28 : decode b_Re_numberFor 28 = .ok (.iload_n 1, 1) := by decide +kernel
theorem d_Re_numberFor_29 : decode b_Re_numberFor 29 = .ok (.iastore, 1) := by decide +kernel
theorem d_Re_numberFor_30 : decode b_Re_numberFor 30 = .ok (.aload_n 0, 1) := by decide +kernel
theorem d_Re_numberFor_31 : decode b_Re_numberFor 31 = .ok (.dup, 1) := by decide +kernel
theorem d_Re_numberFor_32 : decode b_Re_numberFor 32 = .ok (.getfield 51, 3) := by decide +kernel
theorem d_Re_numberFor_35 : decode b_Re_numberFor 35 = .ok (.iconst 1, 1) := by decide +kernel
theorem d_Re_numberFor_36 : decode b_Re_numberFor 36 = .ok (.iadd, 1) := by decide +kernel
theorem d_Re_numberFor_37 : decode b_Re_numberFor 37 = .ok (.putfield 51, 3) := by decide +kernel
theorem d_Re_numberFor_40 : decode b_Re_numberFor 40 = .ok (.aload_n 0, 1) := by decide +kernel
theorem d_Re_numberFor_41 : decode b_Re_numberFor 41 = .ok (.getfield 9, 3) := by decide +kernel
theorem d_Re_numberFor_44 : decode b_Re_numberFor 44 = .ok (.iload_n 1, 1) := by decide +kernel
theorem d_Re_numberFor_45 : decode b_Re_numberFor 45 = .ok (.iaload, 1) := by decide +kernel
theorem d_Re_numberFor_46 : decode b_Re_numberFor 46 = .ok (.ireturn, 1) := by decide +kernel
theorem d_Ba_stepCode_0 : decode b_Ba_stepCode 0 = .ok (.iload_n 1, 1) := by decide +kernel
theorem d_Ba_stepCode_1 : decode b_Ba_stepCode 1 = .ok (.ifCond .ne 15, 3) := by decide +kernel
theorem d_Ba_stepCode_4 : decode b_Ba_stepCode 4 = .ok (.iload_n 2, 1) := by decide +kernel
theorem d_Ba_stepCode_5 : decode b_Ba_stepCode 5 = .ok (.aload_n 0, 1) := by decide +kernel
theorem d_Ba_stepCode_6 : decode b_Ba_stepCode 6 = .ok (.getfield 9, 3) := by decide +kernel
theorem d_Ba_stepCode_9 : decode b_Ba_stepCode 9 = .ok (.if_icmp .ne 7, 3) := by decide +kernel
theorem d_Ba_stepCode_12 : decode b_Ba_stepCode 12 = .ok (.iconst 1, 1) := by decide +kernel
theorem d_Ba_stepCode_13 : decode b_Ba_stepCode 13 = .ok (.goto 4, 3) := by decide +kernel
theorem d_Ba_stepCode_16 : decode b_Ba_stepCode 16 = .ok (.iconst 2, 1) := by decide +kernel
theorem d_Ba_stepCode_17 : decode b_Ba_stepCode 17 = .ok (.ireturn, 1) := by decide +kernel
theorem d_Ch_stepCode_0 : decode b_Ch_stepCode 0 = .ok (.aload_n 0, 1) := by decide +kernel
theorem d_Ch_stepCode_1 : decode b_Ch_stepCode 1 = .ok (.getfield 9, 3) := by decide +kernel
theorem d_Ch_stepCode_4 : decode b_Ch_stepCode 4 = .ok (.iload_n 1, 1) := by decide +kernel
theorem d_Ch_stepCode_5 : decode b_Ch_stepCode 5 = .ok (.bipush 64, 2) := by decide +kernel
theorem d_Ch_stepCode_7 : decode b_Ch_stepCode 7 = .ok (.idiv, 1) := by decide +kernel
theorem d_Ch_stepCode_8 : decode b_Ch_stepCode 8 = .ok (.iload_n 2, 1) := by decide +kernel
theorem d_Ch_stepCode_9 : decode b_Ch_stepCode 9 = .ok (.invokevirtual 22, 3) := by decide +kernel
theorem d_Ch_stepCode_12 : decode b_Ch_stepCode 12 = .ok (.istore_n 3, 1) := by decide +kernel
theorem d_Ch_stepCode_13 : decode b_Ch_stepCode 13 = .ok (.aload_n 0, 1) := by decide +kernel
theorem d_Ch_stepCode_14 : decode b_Ch_stepCode 14 = .ok (.getfield 15, 3) := by decide +kernel
theorem d_Ch_stepCode_17 : decode b_Ch_stepCode 17 = .ok (.iload_n 1, 1) := by decide +kernel
theorem d_Ch_stepCode_18 : decode b_Ch_stepCode 18 = .ok (.bipush 64, 2) := by decide +kernel
theorem d_Ch_stepCode_20 : decode b_Ch_stepCode 20 = .ok (.irem, 1) := by decide +kernel
theorem d_Ch_stepCode_21 : decode b_Ch_stepCode 21 = .ok (.iload_n 2, 1) := by decide +kernel
theorem d_Ch_stepCode_22 : decode b_Ch_stepCode 22 = .ok (.invokevirtual 27, 3) := by decide +kernel
theorem d_Ch_stepCode_25 : decode b_Ch_stepCode 25 = .ok (.istore 4, 2) := by decide +kernel
theorem d_Ch_stepCode_27 : decode b_Ch_stepCode 27 = .ok (.aload_n 0, 1) := by decide +kernel
theorem d_Ch_stepCode_28 : decode b_Ch_stepCode 28 = .ok (.iload_n 3, 1) := by decide +kernel
theorem d_Ch_stepCode_29 : decode b_Ch_stepCode 29 = .ok (.iload 4, 2) := by decide +kernel
theorem d_Ch_stepCode_31 : decode b_Ch_stepCode 31 = .ok (.invokevirtual 18, 3) := by decide +kernel
theorem d_Ch_stepCode_34 : decode b_Ch_stepCode 34 = .ok (.ireturn, 1) := by decide +kernel
theorem d_Au_step_0 : decode b_Au_step 0 = .ok (.aload_n 0, 1) := by decide +kernel
theorem d_Au_step_1 : decode b_Au_step 1 = .ok (.getfield 9, 3) := by decide +kernel
theorem d_Au_step_4 : decode b_Au_step 4 = .ok (.iconst 2, 1) := by decide +kernel
theorem d_Au_step_5 : decode b_Au_step 5 = .ok (.iload_n 1, 1) := by decide +kernel
theorem d_Au_step_6 : decode b_Au_step 6 = .ok (.imul, 1) := by decide +kernel
theorem d_Au_step_7 : decode b_Au_step 7 = .ok (.iload_n 2, 1) := by decide +kernel
theorem d_Au_step_8 : decode b_Au_step 8 = .ok (.iadd, 1) := by decide +kernel
theorem d_Au_step_9 : decode b_Au_step 9 = .ok (.iaload, 1) := by decide +kernel
theorem d_Au_step_10 : decode b_Au_step 10 = .ok (.ireturn, 1) := by decide +kernel
theorem d_Au_stepSet_0 : decode b_Au_stepSet 0 = .ok (.iconst 0, 1) := by decide +kernel
theorem d_Au_stepSet_1 : decode b_Au_stepSet 1 = .ok (.istore_n 3, 1) := by decide +kernel
theorem d_Au_stepSet_2 : decode b_Au_stepSet 2 = .ok (.iconst 0, 1) := by decide +kernel
theorem d_Au_stepSet_3 : decode b_Au_stepSet 3 = .ok (.istore 4, 2) := by decide +kernel
theorem d_Au_stepSet_5 : decode b_Au_stepSet 5 = .ok (.iload 4, 2) := by decide +kernel
theorem d_Au_stepSet_7 : decode b_Au_stepSet 7 = .ok (.aload_n 0, 1) := by decide +kernel
theorem d_Au_stepSet_8 : decode b_Au_stepSet 8 = .ok (.getfield 15, 3) := by decide +kernel
theorem d_Au_stepSet_11 : decode b_Au_stepSet 11 = .ok (.if_icmp .ge 30, 3) := by decide +kernel
theorem d_Au_stepSet_14 : decode b_Au_stepSet 14 = .ok (.iload_n 1, 1) := by decide +kernel
theorem d_Au_stepSet_15 : decode b_Au_stepSet 15 = .ok (.iload 4, 2) := by decide +kernel
theorem d_Au_stepSet_17 : decode b_Au_stepSet 17 = .ok (.ishr, 1) := by decide +kernel
theorem d_Au_stepSet_18 : decode b_Au_stepSet 18 = .ok (.iconst 1, 1) := by decide +kernel
theorem d_Au_stepSet_19 : decode b_Au_stepSet 19 = .ok (.iand, 1) := by decide +kernel
theorem d_Au_stepSet_20 : decode b_Au_stepSet 20 = .ok (.ifCond .eq 15, 3) := by decide +kernel
theorem d_Au_stepSet_23 : decode b_Au_stepSet 23 = .ok (.iload_n 3, 1) := by decide +kernel
theorem d_Au_stepSet_24 : decode b_Au_stepSet 24 = .ok (.iconst 1, 1) := by decide +kernel
theorem d_Au_stepSet_25 : decode b_Au_stepSet 25 = .ok (.aload_n 0, 1) := by decide +kernel
theorem d_Au_stepSet_26 : decode b_Au_stepSet 26 = .ok (.iload 4, 2) := by decide +kernel
theorem d_Au_stepSet_28 : decode b_Au_stepSet 28 = .ok (.iload_n 2, 1) := by decide +kernel
theorem d_Au_stepSet_29 : decode b_Au_stepSet 29 = .ok (.invokevirtual 22, 3) := by decide +kernel
theorem d_Au_stepSet_32 : decode b_Au_stepSet 32 = .ok (.ishl, 1) := by decide +kernel
theorem d_Au_stepSet_33 : decode b_Au_stepSet 33 = .ok (.ior, 1) := by decide +kernel
theorem d_Au_stepSet_34 : decode b_Au_stepSet 34 = .ok (.istore_n 3, 1) := by decide +kernel
theorem d_Au_stepSet_35 : decode b_Au_stepSet 35 = .ok (.iinc 4 1, 3) := by decide +kernel
theorem d_Au_stepSet_38 : decode b_Au_stepSet 38 = .ok (.goto (-33), 3) := by decide +kernel
theorem d_Au_stepSet_41 : decode b_Au_stepSet 41 = .ok (.iload_n 3, 1) := by decide +kernel
theorem d_Au_stepSet_42 : decode b_Au_stepSet 42 = .ok (.ireturn, 1) := by decide +kernel
theorem d_In_stepCode_0 : decode b_In_stepCode 0 = .ok (.aload_n 0, 1) := by decide +kernel
theorem d_In_stepCode_1 : decode b_In_stepCode 1 = .ok (.getfield 7, 3) := by decide +kernel
theorem d_In_stepCode_4 : decode b_In_stepCode 4 = .ok (.iload_n 1, 1) := by decide +kernel
theorem d_In_stepCode_5 : decode b_In_stepCode 5 = .ok (.iload_n 2, 1) := by decide +kernel
theorem d_In_stepCode_6 : decode b_In_stepCode 6 = .ok (.invokevirtual 13, 3) := by decide +kernel
theorem d_In_stepCode_9 : decode b_In_stepCode 9 = .ok (.ireturn, 1) := by decide +kernel
theorem d_Pa_stepCode_0 : decode b_Pa_stepCode 0 = .ok (.aload_n 0, 1) := by decide +kernel
theorem d_Pa_stepCode_1 : decode b_Pa_stepCode 1 = .ok (.getfield 9, 3) := by decide +kernel
theorem d_Pa_stepCode_4 : decode b_Pa_stepCode 4 = .ok (.iload_n 1, 1) := by decide +kernel
theorem d_Pa_stepCode_5 : decode b_Pa_stepCode 5 = .ok (.bipush 6, 2) := by decide +kernel
theorem d_Pa_stepCode_7 : decode b_Pa_stepCode 7 = .ok (.idiv, 1) := by decide +kernel
theorem d_Pa_stepCode_8 : decode b_Pa_stepCode 8 = .ok (.iload_n 2, 1) := by decide +kernel
theorem d_Pa_stepCode_9 : decode b_Pa_stepCode 9 = .ok (.invokevirtual 22, 3) := by decide +kernel
theorem d_Pa_stepCode_12 : decode b_Pa_stepCode 12 = .ok (.istore_n 3, 1) := by decide +kernel
theorem d_Pa_stepCode_13 : decode b_Pa_stepCode 13 = .ok (.aload_n 0, 1) := by decide +kernel
theorem d_Pa_stepCode_14 : decode b_Pa_stepCode 14 = .ok (.getfield 15, 3) := by decide +kernel
theorem d_Pa_stepCode_17 : decode b_Pa_stepCode 17 = .ok (.iload_n 1, 1) := by decide +kernel
theorem d_Pa_stepCode_18 : decode b_Pa_stepCode 18 = .ok (.bipush 6, 2) := by decide +kernel
theorem d_Pa_stepCode_20 : decode b_Pa_stepCode 20 = .ok (.irem, 1) := by decide +kernel
theorem d_Pa_stepCode_21 : decode b_Pa_stepCode 21 = .ok (.iload_n 2, 1) := by decide +kernel
theorem d_Pa_stepCode_22 : decode b_Pa_stepCode 22 = .ok (.invokevirtual 22, 3) := by decide +kernel
theorem d_Pa_stepCode_25 : decode b_Pa_stepCode 25 = .ok (.istore 4, 2) := by decide +kernel
theorem d_Pa_stepCode_27 : decode b_Pa_stepCode 27 = .ok (.bipush 6, 2) := by decide +kernel
theorem d_Pa_stepCode_29 : decode b_Pa_stepCode 29 = .ok (.iload_n 3, 1) := by decide +kernel
theorem d_Pa_stepCode_30 : decode b_Pa_stepCode 30 = .ok (.imul, 1) := by decide +kernel
theorem d_Pa_stepCode_31 : decode b_Pa_stepCode 31 = .ok (.iload 4, 2) := by decide +kernel
theorem d_Pa_stepCode_33 : decode b_Pa_stepCode 33 = .ok (.iadd, 1) := by decide +kernel
theorem d_Pa_stepCode_34 : decode b_Pa_stepCode 34 = .ok (.ireturn, 1) := by decide +kernel
