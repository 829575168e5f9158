theorem d_Al_placeOf_0 : decode b_Al_placeOf 0 = .ok (.iconst 0, 1) := by decide +kernel
theorem d_Al_placeOf_1 : decode b_Al_placeOf 1 = .ok (.istore_n 3, 1) := by decide +kernel
theorem d_Al_placeOf_2 : decode b_Al_placeOf 2 = .ok (.iload_n 3, 1) := by decide +kernel
theorem d_Al_placeOf_3 : decode b_Al_placeOf 3 = .ok (.iload_n 2, 1) := by decide +kernel
theorem d_Al_placeOf_4 : decode b_Al_placeOf 4 = .ok (.if_icmp .ge 21, 3) := by decide +kernel
theorem d_Al_placeOf_7 : decode b_Al_placeOf 7 = .ok (.aload_n 0, 1) := by decide +kernel
theorem d_Al_placeOf_8 : decode b_Al_placeOf 8 = .ok (.getfield 9, 3) := by decide +kernel
theorem d_Al_placeOf_11 : decode b_Al_placeOf 11 = .ok (.iload_n 3, 1) := by decide +kernel
theorem d_Al_placeOf_12 : decode b_Al_placeOf 12 = .ok (.iaload, 1) := by decide +kernel
theorem d_Al_placeOf_13 : decode b_Al_placeOf 13 = .ok (.iload_n 1, 1) := by decide +kernel
theorem d_Al_placeOf_14 : decode b_Al_placeOf 14 = .ok (.if_icmp .ne 5, 3) := by decide +kernel
theorem d_Al_placeOf_17 : decode b_Al_placeOf 17 = .ok (.iload_n 3, 1) := by decide +kernel
theorem d_Al_placeOf_18 : decode b_Al_placeOf 18 = .ok (.ireturn, 1) := by decide +kernel
theorem d_Al_placeOf_19 : decode b_Al_placeOf 19 = .ok (.iinc 3 1, 3) := by decide +kernel
theorem d_Al_placeOf_22 : decode b_Al_placeOf 22 = .ok (.goto (-20), 3) := by decide +kernel
theorem d_Al_placeOf_25 : decode b_Al_placeOf 25 = .ok (.iload_n 2, 1) := by decide +kernel
theorem d_Al_placeOf_26 : decode b_Al_placeOf 26 = .ok (.ireturn, 1) := by decide +kernel
theorem d_Al_keepWords_0 : decode b_Al_keepWords 0 = .ok (.aload_n 0, 1) := by decide +kernel
theorem d_Al_keepWords_1 : decode b_Al_keepWords 1 = .ok (.getfield 24, 3) := by decide +kernel
theorem d_Al_keepWords_4 : decode b_Al_keepWords 4 = .ok (.iconst 0, 1) := by decide +kernel
theorem d_Al_keepWords_5 : decode b_Al_keepWords 5 = .ok (.lconst 1, 1) := by decide +kernel
theorem d_Al_keepWords_6 : decode b_Al_keepWords 6 = .ok (.lastore, 1) := by decide +kernel
theorem d_Al_keepWords_7 : decode b_Al_keepWords 7 = .ok (.iconst 1, 1) := by decide +kernel
theorem d_Al_keepWords_8 : decode b_Al_keepWords 8 = .ok (.istore_n 1, 1) := by decide +kernel
theorem d_Al_keepWords_9 : decode b_Al_keepWords 9 = .ok (.iload_n 1, 1) := by decide +kernel
theorem d_Al_keepWords_10 : decode b_Al_keepWords 10 = .ok (.aload_n 0, 1) := by decide +kernel
theorem d_Al_keepWords_11 : decode b_Al_keepWords 11 = .ok (.getfield 40, 3) := by decide +kernel
theorem d_Al_keepWords_14 : decode b_Al_keepWords 14 = .ok (.if_icmp .ge 38, 3) := by decide +kernel
theorem d_Al_keepWords_17 : decode b_Al_keepWords 17 = .ok (.aload_n 0, 1) := by decide +kernel
theorem d_Al_keepWords_18 : decode b_Al_keepWords 18 = .ok (.getfield 24, 3) := by decide +kernel
theorem d_Al_keepWords_21 : decode b_Al_keepWords 21 = .ok (.iload_n 1, 1) := by decide +kernel
theorem d_Al_keepWords_22 : decode b_Al_keepWords 22 = .ok (.ldc2_w 70, 3) := by decide +kernel
theorem d_Al_keepWords_25 : decode b_Al_keepWords 25 = .ok (.aload_n 0, 1) := by decide +kernel
theorem d_Al_keepWords_26 : decode b_Al_keepWords 26 = .ok (.getfield 24, 3) := by decide +kernel
theorem d_Al_keepWords_29 : decode b_Al_keepWords 29 = .ok (.aload_n 0, 1) := by decide +kernel
theorem d_Al_keepWords_30 : decode b_Al_keepWords 30 = .ok (.getfield 18, 3) := by decide +kernel
theorem d_Al_keepWords_33 : decode b_Al_keepWords 33 = .ok (.iload_n 1, 1) := by decide +kernel
theorem d_Al_keepWords_34 : decode b_Al_keepWords 34 = .ok (.iaload, 1) := by decide +kernel
theorem d_Al_keepWords_35 : decode b_Al_keepWords 35 = .ok (.laload, 1) := by decide +kernel
theorem d_Al_keepWords_36 : decode b_Al_keepWords 36 = .ok (.lmul, 1) := by decide +kernel
theorem d_Al_keepWords_37 : decode b_Al_keepWords 37 = .ok (.aload_n 0, 1) := by decide +kernel
theorem d_Al_keepWords_38 : decode b_Al_keepWords 38 = .ok (.getfield 21, 3) := by decide +kernel
theorem d_Al_keepWords_41 : decode b_Al_keepWords 41 = .ok (.iload_n 1, 1) := by decide +kernel
theorem d_Al_keepWords_42 : decode b_Al_keepWords 42 = .ok (.iaload, 1) := by decide +kernel
theorem d_Al_keepWords_43 : decode b_Al_keepWords 43 = .ok (.i2l, 1) := by decide +kernel
theorem d_Al_keepWords_44 : decode b_Al_keepWords 44 = .ok (.ladd, 1) := by decide +kernel
theorem d_Al_keepWords_45 : decode b_Al_keepWords 45 = .ok (.lastore, 1) := by decide +kernel
theorem d_Al_keepWords_46 : decode b_Al_keepWords 46 = .ok (.iinc 1 1, 3) := by decide +kernel
theorem d_Al_keepWords_49 : decode b_Al_keepWords 49 = .ok (.goto (-40), 3) := by decide +kernel
theorem d_Al_keepWords_52 : decode b_Al_keepWords 52 = .ok (.return_, 1) := by decide +kernel
theorem d_Al_keepProducts_0 : decode b_Al_keepProducts 0 = .ok (.iconst 0, 1) := by decide +kernel
theorem d_Al_keepProducts_1 : decode b_Al_keepProducts 1 = .ok (.istore_n 1, 1) := by decide +kernel
theorem d_Al_keepProducts_2 : decode b_Al_keepProducts 2 = .ok (.iload_n 1, 1) := by decide +kernel
theorem d_Al_keepProducts_3 : decode b_Al_keepProducts 3 = .ok (.aload_n 0, 1) := by decide +kernel
theorem d_Al_keepProducts_4 : decode b_Al_keepProducts 4 = .ok (.getfield 40, 3) := by decide +kernel
theorem d_Al_keepProducts_7 : decode b_Al_keepProducts 7 = .ok (.if_icmp .ge 72, 3) := by decide +kernel
theorem d_Al_keepProducts_10 : decode b_Al_keepProducts 10 = .ok (.bipush 60, 2) := by decide +kernel
theorem d_Al_keepProducts_12 : decode b_Al_keepProducts 12 = .ok (.iload_n 1, 1) := by decide +kernel
theorem d_Al_keepProducts_13 : decode b_Al_keepProducts 13 = .ok (.imul, 1) := by decide +kernel
theorem d_Al_keepProducts_14 : decode b_Al_keepProducts 14 = .ok (.istore_n 2, 1) := by decide +kernel
theorem d_Al_keepProducts_15 : decode b_Al_keepProducts 15 = .ok (.aload_n 0, 1) := by decide +kernel
theorem d_Al_keepProducts_16 : decode b_Al_keepProducts 16 = .ok (.getfield 28, 3) := by decide +kernel
theorem d_Al_keepProducts_19 : decode b_Al_keepProducts 19 = .ok (.iload_n 2, 1) := by decide +kernel
theorem d_Al_keepProducts_20 : decode b_Al_keepProducts 20 = .ok (.iload_n 1, 1) := by decide +kernel
theorem d_Al_keepProducts_21 : decode b_Al_keepProducts 21 = .ok (.iastore, 1) := by decide +kernel
theorem d_Al_keepProducts_22 : decode b_Al_keepProducts 22 = .ok (.iconst 1, 1) := by decide +kernel
theorem d_Al_keepProducts_23 : decode b_Al_keepProducts 23 = .ok (.istore_n 3, 1) := by decide +kernel
theorem d_Al_keepProducts_24 : decode b_Al_keepProducts 24 = .ok (.iload_n 3, 1) := by decide +kernel
theorem d_Al_keepProducts_25 : decode b_Al_keepProducts 25 = .ok (.aload_n 0, 1) := by decide +kernel
theorem d_Al_keepProducts_26 : decode b_Al_keepProducts 26 = .ok (.getfield 40, 3) := by decide +kernel
theorem d_Al_keepProducts_29 : decode b_Al_keepProducts 29 = .ok (.if_icmp .ge 44, 3) := by decide +kernel
theorem d_Al_keepProducts_32 : decode b_Al_keepProducts 32 = .ok (.aload_n 0, 1) := by decide +kernel
theorem d_Al_keepProducts_33 : decode b_Al_keepProducts 33 = .ok (.getfield 28, 3) := by decide +kernel
theorem d_Al_keepProducts_36 : decode b_Al_keepProducts 36 = .ok (.iload_n 2, 1) := by decide +kernel
theorem d_Al_keepProducts_37 : decode b_Al_keepProducts 37 = .ok (.iload_n 3, 1) := by decide +kernel
theorem d_Al_keepProducts_38 : decode b_Al_keepProducts 38 = .ok (.iadd, 1) := by decide +kernel
theorem d_Al_keepProducts_39 : decode b_Al_keepProducts 39 = .ok (.aload_n 0, 1) := by decide +kernel
theorem d_Al_keepProducts_40 : decode b_Al_keepProducts 40 = .ok (.getfield 15, 3) := by decide +kernel
theorem d_Al_keepProducts_43 : decode b_Al_keepProducts 43 = .ok (.iconst 2, 1) := by decide +kernel
theorem d_Al_keepProducts_44 : decode b_Al_keepProducts 44 = .ok (.aload_n 0, 1) := by decide +kernel
theorem d_Al_keepProducts_45 : decode b_Al_keepProducts 45 = .ok (.getfield 28, 3) := by decide +kernel
theorem d_Al_keepProducts_48 : decode b_Al_keepProducts 48 = .ok (.iload_n 2, 1) := by decide +kernel
theorem d_Al_keepProducts_49 : decode b_Al_keepProducts 49 = .ok (.aload_n 0, 1) := by decide +kernel
theorem d_Al_keepProducts_50 : decode b_Al_keepProducts 50 = .ok (.getfield 18, 3) := by decide +kernel
theorem d_Al_keepProducts_53 : decode b_Al_keepProducts 53 = .ok (.iload_n 3, 1) := by decide +kernel
theorem d_Al_keepProducts_54 : decode b_Al_keepProducts 54 = .ok (.iaload, 1) := by decide +kernel
theorem d_Al_keepProducts_55 : decode b_Al_keepProducts 55 = .ok (.iadd, 1) := by decide +kernel
theorem d_Al_keepProducts_56 : decode b_Al_keepProducts 56 = .ok (.iaload, 1) := by decide +kernel
theorem d_Al_keepProducts_57 : decode b_Al_keepProducts 57 = .ok (.imul, 1) := by decide +kernel
theorem d_Al_keepProducts_58 : decode b_Al_keepProducts 58 = .ok (.aload_n 0, 1) := by decide +kernel
theorem d_Al_keepProducts_59 : decode b_Al_keepProducts 59 = .ok (.getfield 21, 3) := by decide +kernel
theorem d_Al_keepProducts_62 : decode b_Al_keepProducts 62 = .ok (.iload_n 3, 1) := by decide +kernel
theorem d_Al_keepProducts_63 : decode b_Al_keepProducts 63 = .ok (.iaload, 1) := by decide +kernel
theorem d_Al_keepProducts_64 : decode b_Al_keepProducts 64 = .ok (.iadd, 1) := by decide +kernel
theorem d_Al_keepProducts_65 : decode b_Al_keepProducts 65 = .ok (.iaload, 1) := by decide +kernel
theorem d_Al_keepProducts_66 : decode b_Al_keepProducts 66 = .ok (.iastore, 1) := by decide +kernel
theorem d_Al_keepProducts_67 : decode b_Al_keepProducts 67 = .ok (.iinc 3 1, 3) := by decide +kernel
theorem d_Al_keepProducts_70 : decode b_Al_keepProducts 70 = .ok (.goto (-46), 3) := by decide +kernel
theorem d_Al_keepProducts_73 : decode b_Al_keepProducts 73 = .ok (.iinc 1 1, 3) := by decide +kernel
theorem d_Al_keepProducts_76 : decode b_Al_keepProducts 76 = .ok (.goto (-74), 3) := by decide +kernel
theorem d_Al_keepProducts_79 : decode b_Al_keepProducts 79 = .ok (.return_, 1) := by decide +kernel
theorem d_Al_keepSets_0 : decode b_Al_keepSets 0 = .ok (.iconst 0, 1) := by decide +kernel
theorem d_Al_keepSets_1 : decode b_Al_keepSets 1 = .ok (.istore_n 1, 1) := by decide +kernel
theorem d_Al_keepSets_2 : decode b_Al_keepSets 2 = .ok (.iload_n 1, 1) := by decide +kernel
theorem d_Al_keepSets_3 : decode b_Al_keepSets 3 = .ok (.aload_n 0, 1) := by decide +kernel
theorem d_Al_keepSets_4 : decode b_Al_keepSets 4 = .ok (.getfield 40, 3) := by decide +kernel
theorem d_Al_keepSets_7 : decode b_Al_keepSets 7 = .ok (.if_icmp .ge 73, 3) := by decide +kernel
theorem d_Al_keepSets_10 : decode b_Al_keepSets 10 = .ok (.aload_n 0, 1) := by decide +kernel
theorem d_Al_keepSets_11 : decode b_Al_keepSets 11 = .ok (.getfield 31, 3) := by decide +kernel
theorem d_Al_keepSets_14 : decode b_Al_keepSets 14 = .ok (.iload_n 1, 1) := by decide +kernel
theorem d_Al_keepSets_15 : decode b_Al_keepSets 15 = .ok (.lconst 0, 1) := by decide +kernel
theorem d_Al_keepSets_16 : decode b_Al_keepSets 16 = .ok (.lastore, 1) := by decide +kernel
theorem d_Al_keepSets_17 : decode b_Al_keepSets 17 = .ok (.aload_n 0, 1) := by decide +kernel
theorem d_Al_keepSets_18 : decode b_Al_keepSets 18 = .ok (.getfield 34, 3) := by decide +kernel
theorem d_Al_keepSets_21 : decode b_Al_keepSets 21 = .ok (.iload_n 1, 1) := by decide +kernel
theorem d_Al_keepSets_22 : decode b_Al_keepSets 22 = .ok (.lconst 0, 1) := by decide +kernel
theorem d_Al_keepSets_23 : decode b_Al_keepSets 23 = .ok (.lastore, 1) := by decide +kernel
theorem d_Al_keepSets_24 : decode b_Al_keepSets 24 = .ok (.iconst 0, 1) := by decide +kernel
theorem d_Al_keepSets_25 : decode b_Al_keepSets 25 = .ok (.istore_n 2, 1) := by decide +kernel
theorem d_Al_keepSets_26 : decode b_Al_keepSets 26 = .ok (.iload_n 2, 1) := by decide +kernel
theorem d_Al_keepSets_27 : decode b_Al_keepSets 27 = .ok (.aload_n 0, 1) := by decide +kernel
theorem d_Al_keepSets_28 : decode b_Al_keepSets 28 = .ok (.getfield 40, 3) := by decide +kernel
theorem d_Al_keepSets_31 : decode b_Al_keepSets 31 = .ok (.if_icmp .ge 43, 3) := by decide +kernel
theorem d_Al_keepSets_34 : decode b_Al_keepSets 34 = .ok (.aload_n 0, 1) := by decide +kernel
theorem d_Al_keepSets_35 : decode b_Al_keepSets 35 = .ok (.getfield 31, 3) := by decide +kernel
theorem d_Al_keepSets_38 : decode b_Al_keepSets 38 = .ok (.iload_n 1, 1) := by decide +kernel
theorem d_Al_keepSets_39 : decode b_Al_keepSets 39 = .ok (.dup2, 1) := by decide +kernel
theorem d_Al_keepSets_40 : decode b_Al_keepSets 40 = .ok (.laload, 1) := by decide +kernel
theorem d_Al_keepSets_41 : decode b_Al_keepSets 41 = .ok (.lconst 1, 1) := by decide +kernel
theorem d_Al_keepSets_42 : decode b_Al_keepSets 42 = .ok (.aload_n 0, 1) := by decide +kernel
theorem d_Al_keepSets_43 : decode b_Al_keepSets 43 = .ok (.iload_n 1, 1) := by decide +kernel
theorem d_Al_keepSets_44 : decode b_Al_keepSets 44 = .ok (.iload_n 2, 1) := by decide +kernel
theorem d_Al_keepSets_45 : decode b_Al_keepSets 45 = .ok (.invokevirtual 72, 3) := by decide +kernel
theorem d_Al_keepSets_48 : decode b_Al_keepSets 48 = .ok (.lshl, 1) := by decide +kernel
theorem d_Al_keepSets_49 : decode b_Al_keepSets 49 = .ok (.lor, 1) := by decide +kernel
theorem d_Al_keepSets_50 : decode b_Al_keepSets 50 = .ok (.lastore, 1) := by decide +kernel
theorem d_Al_keepSets_51 : decode b_Al_keepSets 51 = .ok (.aload_n 0, 1) := by decide +kernel
theorem d_Al_keepSets_52 : decode b_Al_keepSets 52 = .ok (.getfield 34, 3) := by decide +kernel
theorem d_Al_keepSets_55 : decode b_Al_keepSets 55 = .ok (.iload_n 1, 1) := by decide +kernel
theorem d_Al_keepSets_56 : decode b_Al_keepSets 56 = .ok (.dup2, 1) := by decide +kernel
theorem d_Al_keepSets_57 : decode b_Al_keepSets 57 = .ok (.laload, 1) := by decide +kernel
theorem d_Al_keepSets_58 : decode b_Al_keepSets 58 = .ok (.lconst 1, 1) := by decide +kernel
theorem d_Al_keepSets_59 : decode b_Al_keepSets 59 = .ok (.aload_n 0, 1) := by decide +kernel
theorem d_Al_keepSets_60 : decode b_Al_keepSets 60 = .ok (.iload_n 2, 1) := by decide +kernel
theorem d_Al_keepSets_61 : decode b_Al_keepSets 61 = .ok (.iload_n 1, 1) := by decide +kernel
theorem d_Al_keepSets_62 : decode b_Al_keepSets 62 = .ok (.invokevirtual 72, 3) := by decide +kernel
theorem d_Al_keepSets_65 : decode b_Al_keepSets 65 = .ok (.lshl, 1) := by decide +kernel
theorem d_Al_keepSets_66 : decode b_Al_keepSets 66 = .ok (.lor, 1) := by decide +kernel
theorem d_Al_keepSets_67 : decode b_Al_keepSets 67 = .ok (.lastore, 1) := by decide +kernel
theorem d_Al_keepSets_68 : decode b_Al_keepSets 68 = .ok (.iinc 2 1, 3) := by decide +kernel
theorem d_Al_keepSets_71 : decode b_Al_keepSets 71 = .ok (.goto (-45), 3) := by decide +kernel
theorem d_Al_keepSets_74 : decode b_Al_keepSets 74 = .ok (.iinc 1 1, 3) := by decide +kernel
theorem d_Al_keepSets_77 : decode b_Al_keepSets 77 = .ok (.goto (-75), 3) := by decide +kernel
theorem d_Al_keepSets_80 : decode b_Al_keepSets 80 = .ok (.iconst 0, 1) := by decide +kernel
theorem d_Al_keepSets_81 : decode b_Al_keepSets 81 = .ok (.istore_n 1, 1) := by decide +kernel
theorem d_Al_keepSets_82 : decode b_Al_keepSets 82 = .ok (.iload_n 1, 1) := by decide +kernel
theorem d_Al_keepSets_83 : decode b_Al_keepSets 83 = .ok (.aload_n 0, 1) := by decide +kernel
theorem d_Al_keepSets_84 : decode b_Al_keepSets 84 = .ok (.getfield 40, 3) := by decide +kernel
theorem d_Al_keepSets_87 : decode b_Al_keepSets 87 = .ok (.if_icmp .ge 52, 3) := by decide +kernel
theorem d_Al_keepSets_90 : decode b_Al_keepSets 90 = .ok (.aload_n 0, 1) := by decide +kernel
theorem d_Al_keepSets_91 : decode b_Al_keepSets 91 = .ok (.getfield 37, 3) := by decide +kernel
theorem d_Al_keepSets_94 : decode b_Al_keepSets 94 = .ok (.iload_n 1, 1) := by decide +kernel
theorem d_Al_keepSets_95 : decode b_Al_keepSets 95 = .ok (.lconst 0, 1) := by decide +kernel
theorem d_Al_keepSets_96 : decode b_Al_keepSets 96 = .ok (.lastore, 1) := by decide +kernel
theorem d_Al_keepSets_97 : decode b_Al_keepSets 97 = .ok (.iconst 0, 1) := by decide +kernel
theorem d_Al_keepSets_98 : decode b_Al_keepSets 98 = .ok (.istore_n 2, 1) := by decide +kernel
theorem d_Al_keepSets_99 : decode b_Al_keepSets 99 = .ok (.iload_n 2, 1) := by decide +kernel
theorem d_Al_keepSets_100 : decode b_Al_keepSets 100 = .ok (.aload_n 0, 1) := by decide +kernel
theorem d_Al_keepSets_101 : decode b_Al_keepSets 101 = .ok (.getfield 40, 3) := by decide +kernel
theorem d_Al_keepSets_104 : decode b_Al_keepSets 104 = .ok (.if_icmp .ge 29, 3) := by decide +kernel
theorem d_Al_keepSets_107 : decode b_Al_keepSets 107 = .ok (.aload_n 0, 1) := by decide +kernel
theorem d_Al_keepSets_108 : decode b_Al_keepSets 108 = .ok (.getfield 37, 3) := by decide +kernel
theorem d_Al_keepSets_111 : decode b_Al_keepSets 111 = .ok (.iload_n 1, 1) := by decide +kernel
theorem d_Al_keepSets_112 : decode b_Al_keepSets 112 = .ok (.dup2, 1) := by decide +kernel
theorem d_Al_keepSets_113 : decode b_Al_keepSets 113 = .ok (.laload, 1) := by decide +kernel
theorem d_Al_keepSets_114 : decode b_Al_keepSets 114 = .ok (.aload_n 0, 1) := by decide +kernel
theorem d_Al_keepSets_115 : decode b_Al_keepSets 115 = .ok (.getfield 31, 3) := by decide +kernel
theorem d_Al_keepSets_118 : decode b_Al_keepSets 118 = .ok (.aload_n 0, 1) := by decide +kernel
theorem d_Al_keepSets_119 : decode b_Al_keepSets 119 = .ok (.iload_n 2, 1) := by decide +kernel
theorem d_Al_keepSets_120 : decode b_Al_keepSets 120 = .ok (.iload_n 1, 1) := by decide +kernel
theorem d_Al_keepSets_121 : decode b_Al_keepSets 121 = .ok (.invokevirtual 72, 3) := by decide +kernel
theorem d_Al_keepSets_124 : decode b_Al_keepSets 124 = .ok (.laload, 1) := by decide +kernel
theorem d_Al_keepSets_125 : decode b_Al_keepSets 125 = .ok (.lor, 1) := by decide +kernel
theorem d_Al_keepSets_126 : decode b_Al_keepSets 126 = .ok (.lastore, 1) := by decide +kernel
theorem d_Al_keepSets_127 : decode b_Al_keepSets 127 = .ok (.iinc 2 1, 3) := by decide +kernel
theorem d_Al_keepSets_130 : decode b_Al_keepSets 130 = .ok (.goto (-31), 3) := by decide +kernel
theorem d_Al_keepSets_133 : decode b_Al_keepSets 133 = .ok (.iinc 1 1, 3) := by decide +kernel
theorem d_Al_keepSets_136 : decode b_Al_keepSets 136 = .ok (.goto (-54), 3) := by decide +kernel
theorem d_Al_keepSets_139 : decode b_Al_keepSets 139 = .ok (.return_, 1) := by decide +kernel
theorem d_Al_multiply_0 : decode b_Al_multiply 0 = .ok (.aload_n 0, 1) := by decide +kernel
theorem d_Al_multiply_1 : decode b_Al_multiply 1 = .ok (.getfield 28, 3) := by decide +kernel
theorem d_Al_multiply_4 : decode b_Al_multiply 4 = .ok (.bipush 60, 2) := by decide +kernel
theorem d_Al_multiply_6 : decode b_Al_multiply 6 = .ok (.iload_n 1, 1) := by decide +kernel
theorem d_Al_multiply_7 : decode b_Al_multiply 7 = .ok (.imul, 1) := by decide +kernel
theorem d_Al_multiply_8 : decode b_Al_multiply 8 = .ok (.iload_n 2, 1) := by decide +kernel
theorem d_Al_multiply_9 : decode b_Al_multiply 9 = .ok (.iadd, 1) := by decide +kernel
theorem d_Al_multiply_10 : decode b_Al_multiply 10 = .ok (.iaload, 1) := by decide +kernel
theorem d_Al_multiply_11 : decode b_Al_multiply 11 = .ok (.ireturn, 1) := by decide +kernel
theorem d_LA_elements_0 : decode b_LA_elements 0 = .ok (.aload_n 0, 1) := by decide +kernel
theorem d_LA_elements_1 : decode b_LA_elements 1 = .ok (.getfield 25, 3) := by decide +kernel
theorem d_LA_elements_4 : decode b_LA_elements 4 = .ok (.invokevirtual 86, 3) := by decide +kernel
theorem d_LA_elements_7 : decode b_LA_elements 7 = .ok (.ifCond .eq 13, 3) := by decide +kernel
theorem d_LA_elements_10 : decode b_LA_elements 10 = .ok (.aload_n 0, 1) := by decide +kernel
theorem d_LA_elements_11 : decode b_LA_elements 11 = .ok (.getfield 25, 3) := by decide +kernel
theorem d_LA_elements_14 : decode b_LA_elements 14 = .ok (.getfield 85, 3) := by decide +kernel
theorem d_LA_elements_17 : decode b_LA_elements 17 = .ok (.goto 4, 3) := by decide +kernel
theorem d_LA_elements_20 : decode b_LA_elements 20 = .ok (.iconst (-1), 1) := by decide +kernel
theorem d_LA_elements_21 : decode b_LA_elements 21 = .ok (.ireturn, 1) := by decide +kernel
theorem d_Al_isWorkedOut_0 : decode b_Al_isWorkedOut 0 = .ok (.aload_n 0, 1) := by decide +kernel
theorem d_Al_isWorkedOut_1 : decode b_Al_isWorkedOut 1 = .ok (.getfield 40, 3) := by decide +kernel
theorem d_Al_isWorkedOut_4 : decode b_Al_isWorkedOut 4 = .ok (.ifCond .le 7, 3) := by decide +kernel
theorem d_Al_isWorkedOut_7 : decode b_Al_isWorkedOut 7 = .ok (.iconst 1, 1) := by decide +kernel
theorem d_Al_isWorkedOut_8 : decode b_Al_isWorkedOut 8 = .ok (.goto 4, 3) := by decide +kernel
theorem d_Al_isWorkedOut_11 : decode b_Al_isWorkedOut 11 = .ok (.iconst 0, 1) := by decide +kernel
theorem d_Al_isWorkedOut_12 : decode b_Al_isWorkedOut 12 = .ok (.ireturn, 1) := by decide +kernel
theorem d_LA_word_0 : decode b_LA_word 0 = .ok (.aload_n 0, 1) := by decide +kernel
theorem d_LA_word_1 : decode b_LA_word 1 = .ok (.getfield 25, 3) := by decide +kernel
theorem d_LA_word_4 : decode b_LA_word 4 = .ok (.iload_n 1, 1) := by decide +kernel
theorem d_LA_word_5 : decode b_LA_word 5 = .ok (.invokevirtual 90, 3) := by decide +kernel
theorem d_LA_word_8 : decode b_LA_word 8 = .ok (.ifCond .eq 15, 3) := by decide +kernel
theorem d_LA_word_11 : decode b_LA_word 11 = .ok (.aload_n 0, 1) := by decide +kernel
theorem d_LA_word_12 : decode b_LA_word 12 = .ok (.getfield 25, 3) := by decide +kernel
theorem d_LA_word_15 : decode b_LA_word 15 = .ok (.getfield 93, 3) := by decide +kernel
theorem d_LA_word_18 : decode b_LA_word 18 = .ok (.iload_n 1, 1) := by decide +kernel
theorem d_LA_word_19 : decode b_LA_word 19 = .ok (.laload, 1) := by decide +kernel
theorem d_LA_word_20 : decode b_LA_word 20 = .ok (.goto 6, 3) := by decide +kernel
theorem d_LA_word_23 : decode b_LA_word 23 = .ok (.ldc2_w 97, 3) := by decide +kernel
theorem d_LA_word_26 : decode b_LA_word 26 = .ok (.lreturn, 1) := by decide +kernel
theorem d_Al_hasElement_0 : decode b_Al_hasElement 0 = .ok (.iload_n 1, 1) := by decide +kernel
theorem d_Al_hasElement_1 : decode b_Al_hasElement 1 = .ok (.ifCond .lt 15, 3) := by decide +kernel
theorem d_Al_hasElement_4 : decode b_Al_hasElement 4 = .ok (.iload_n 1, 1) := by decide +kernel
theorem d_Al_hasElement_5 : decode b_Al_hasElement 5 = .ok (.aload_n 0, 1) := by decide +kernel
theorem d_Al_hasElement_6 : decode b_Al_hasElement 6 = .ok (.getfield 40, 3) := by decide +kernel
theorem d_Al_hasElement_9 : decode b_Al_hasElement 9 = .ok (.if_icmp .ge 7, 3) := by decide +kernel
theorem d_Al_hasElement_12 : decode b_Al_hasElement 12 = .ok (.iconst 1, 1) := by decide +kernel
theorem d_Al_hasElement_13 : decode b_Al_hasElement 13 = .ok (.goto 4, 3) := by decide +kernel
theorem d_Al_hasElement_16 : decode b_Al_hasElement 16 = .ok (.iconst 0, 1) := by decide +kernel
theorem d_Al_hasElement_17 : decode b_Al_hasElement 17 = .ok (.ireturn, 1) := by decide +kernel
theorem d_LA_product_0 : decode b_LA_product 0 = .ok (.aload_n 0, 1) := by decide +kernel
theorem d_LA_product_1 : decode b_LA_product 1 = .ok (.getfield 25, 3) := by decide +kernel
theorem d_LA_product_4 : decode b_LA_product 4 = .ok (.iload_n 1, 1) := by decide +kernel
theorem d_LA_product_5 : decode b_LA_product 5 = .ok (.invokevirtual 90, 3) := by decide +kernel
theorem d_LA_product_8 : decode b_LA_product 8 = .ok (.ifCond .eq 14, 3) := by decide +kernel
theorem d_LA_product_11 : decode b_LA_product 11 = .ok (.aload_n 0, 1) := by decide +kernel
theorem d_LA_product_12 : decode b_LA_product 12 = .ok (.getfield 25, 3) := by decide +kernel
theorem d_LA_product_15 : decode b_LA_product 15 = .ok (.iload_n 2, 1) := by decide +kernel
theorem d_LA_product_16 : decode b_LA_product 16 = .ok (.invokevirtual 90, 3) := by decide +kernel
theorem d_LA_product_19 : decode b_LA_product 19 = .ok (.ifCond .ne 5, 3) := by decide +kernel
theorem d_LA_product_22 : decode b_LA_product 22 = .ok (.iconst (-1), 1) := by decide +kernel
theorem d_LA_product_23 : decode b_LA_product 23 = .ok (.ireturn, 1) := by decide +kernel
theorem d_LA_product_24 : decode b_LA_product 24 = .ok (.aload_n 0, 1) := by decide +kernel
theorem d_LA_product_25 : decode b_LA_product 25 = .ok (.getfield 25, 3) := by decide +kernel
theorem d_LA_product_28 : decode b_LA_product 28 = .ok (.iload_n 1, 1) := by decide +kernel
theorem d_LA_product_29 : decode b_LA_product 29 = .ok (.iload_n 2, 1) := by decide +kernel
theorem d_LA_product_30 : decode b_LA_product 30 = .ok (.invokevirtual 99, 3) := by decide +kernel
theorem d_LA_product_33 : decode b_LA_product 33 = .ok (.ireturn, 1) := by decide +kernel
theorem d_LA_related_0 : decode b_LA_related 0 = .ok (.iload_n 1, 1) := by decide +kernel
theorem d_LA_related_1 : decode b_LA_related 1 = .ok (.invokestatic 102, 3) := by decide +kernel
theorem d_LA_related_4 : decode b_LA_related 4 = .ok (.ifCond .eq 42, 3) := by decide +kernel
theorem d_LA_related_7 : decode b_LA_related 7 = .ok (.aload_n 0, 1) := by decide +kernel
theorem d_LA_related_8 : decode b_LA_related 8 = .ok (.getfield 25, 3) := by decide +kernel
theorem d_LA_related_11 : decode b_LA_related 11 = .ok (.iload_n 2, 1) := by decide +kernel
theorem d_LA_related_12 : decode b_LA_related 12 = .ok (.invokevirtual 90, 3) := by decide +kernel
theorem d_LA_related_15 : decode b_LA_related 15 = .ok (.ifCond .eq 31, 3) := by decide +kernel
theorem d_LA_related_18 : decode b_LA_related 18 = .ok (.aload_n 0, 1) := by decide +kernel
theorem d_LA_related_19 : decode b_LA_related 19 = .ok (.getfield 25, 3) := by decide +kernel
theorem d_LA_related_22 : decode b_LA_related 22 = .ok (.iload_n 3, 1) := by decide +kernel
theorem d_LA_related_23 : decode b_LA_related 23 = .ok (.invokevirtual 90, 3) := by decide +kernel
theorem d_LA_related_26 : decode b_LA_related 26 = .ok (.ifCond .eq 20, 3) := by decide +kernel
theorem d_LA_related_29 : decode b_LA_related 29 = .ok (.aload_n 0, 1) := by decide +kernel
theorem d_LA_related_30 : decode b_LA_related 30 = .ok (.getfield 25, 3) := by decide +kernel
theorem d_LA_related_33 : decode b_LA_related 33 = .ok (.iload_n 1, 1) := by decide +kernel
theorem d_LA_related_34 : decode b_LA_related 34 = .ok (.iload_n 2, 1) := by decide +kernel
theorem d_LA_related_35 : decode b_LA_related 35 = .ok (.iload_n 3, 1) := by decide +kernel
theorem d_LA_related_36 : decode b_LA_related 36 = .ok (.invokevirtual 105, 3) := by decide +kernel
theorem d_LA_related_39 : decode b_LA_related 39 = .ok (.ifCond .eq 7, 3) := by decide +kernel
theorem d_LA_related_42 : decode b_LA_related 42 = .ok (.iconst 1, 1) := by decide +kernel
theorem d_LA_related_43 : decode b_LA_related 43 = .ok (.goto 4, 3) := by decide +kernel
theorem d_LA_related_46 : decode b_LA_related 46 = .ok (.iconst 0, 1) := by decide +kernel
theorem d_LA_related_47 : decode b_LA_related 47 = .ok (.ireturn, 1) := by decide +kernel
theorem d_LA_isRelation_0 : decode b_LA_isRelation 0 = .ok (.iload_n 0, 1) := by decide +kernel
theorem d_LA_isRelation_1 : decode b_LA_isRelation 1 = .ok (.ifCond .lt 12, 3) := by decide +kernel
theorem d_LA_isRelation_4 : decode b_LA_isRelation 4 = .ok (.iload_n 0, 1) := by decide +kernel
theorem d_LA_isRelation_5 : decode b_LA_isRelation 5 = .ok (.iconst 4, 1) := by decide +kernel
theorem d_LA_isRelation_6 : decode b_LA_isRelation 6 = .ok (.if_icmp .ge 7, 3) := by decide +kernel
theorem d_LA_isRelation_9 : decode b_LA_isRelation 9 = .ok (.iconst 1, 1) := by decide +kernel
theorem d_LA_isRelation_10 : decode b_LA_isRelation 10 = .ok (.goto 4, 3) := by decide +kernel
theorem d_LA_isRelation_13 : decode b_LA_isRelation 13 = .ok (.iconst 0, 1) := by decide +kernel
theorem d_LA_isRelation_14 : decode b_LA_isRelation 14 = .ok (.ireturn, 1) := by decide +kernel
theorem d_Al_areRelated_0 : decode b_Al_areRelated 0 = .ok (.iload_n 1, 1) := by decide +kernel
theorem d_Al_areRelated_1 : decode b_Al_areRelated 1 = .ok (.tableswitch 135 0 3 #[31, 53, 75, 97], 31) := by decide +kernel
theorem d_Al_areRelated_32 : decode b_Al_areRelated 32 = .ok (.aload_n 0, 1) := by decide +kernel
theorem d_Al_areRelated_33 : decode b_Al_areRelated 33 = .ok (.getfield 31, 3) := by decide +kernel
theorem d_Al_areRelated_36 : decode b_Al_areRelated 36 = .ok (.iload_n 2, 1) := by decide +kernel
theorem d_Al_areRelated_37 : decode b_Al_areRelated 37 = .ok (.laload, 1) := by decide +kernel
theorem d_Al_areRelated_38 : decode b_Al_areRelated 38 = .ok (.aload_n 0, 1) := by decide +kernel
theorem d_Al_areRelated_39 : decode b_Al_areRelated 39 = .ok (.getfield 31, 3) := by decide +kernel
theorem d_Al_areRelated_42 : decode b_Al_areRelated 42 = .ok (.iload_n 3, 1) := by decide +kernel
theorem d_Al_areRelated_43 : decode b_Al_areRelated 43 = .ok (.laload, 1) := by decide +kernel
theorem d_Al_areRelated_44 : decode b_Al_areRelated 44 = .ok (.lcmp, 1) := by decide +kernel
theorem d_Al_areRelated_45 : decode b_Al_areRelated 45 = .ok (.ifCond .ne 7, 3) := by decide +kernel
theorem d_Al_areRelated_48 : decode b_Al_areRelated 48 = .ok (.iconst 1, 1) := by decide +kernel
theorem d_Al_areRelated_49 : decode b_Al_areRelated 49 = .ok (.goto 4, 3) := by decide +kernel
theorem d_Al_areRelated_52 : decode b_Al_areRelated 52 = .ok (.iconst 0, 1) := by decide +kernel
theorem d_Al_areRelated_53 : decode b_Al_areRelated 53 = .ok (.ireturn, 1) := by decide +kernel
theorem d_Al_areRelated_54 : decode b_Al_areRelated 54 = .ok (.aload_n 0, 1) := by decide +kernel
theorem d_Al_areRelated_55 : decode b_Al_areRelated 55 = .ok (.getfield 34, 3) := by decide +kernel
theorem d_Al_areRelated_58 : decode b_Al_areRelated 58 = .ok (.iload_n 2, 1) := by decide +kernel
theorem d_Al_areRelated_59 : decode b_Al_areRelated 59 = .ok (.laload, 1) := by decide +kernel
theorem d_Al_areRelated_60 : decode b_Al_areRelated 60 = .ok (.aload_n 0, 1) := by decide +kernel
theorem d_Al_areRelated_61 : decode b_Al_areRelated 61 = .ok (.getfield 34, 3) := by decide +kernel
theorem d_Al_areRelated_64 : decode b_Al_areRelated 64 = .ok (.iload_n 3, 1) := by decide +kernel
theorem d_Al_areRelated_65 : decode b_Al_areRelated 65 = .ok (.laload, 1) := by decide +kernel
theorem d_Al_areRelated_66 : decode b_Al_areRelated 66 = .ok (.lcmp, 1) := by decide +kernel
theorem d_Al_areRelated_67 : decode b_Al_areRelated 67 = .ok (.ifCond .ne 7, 3) := by decide +kernel
theorem d_Al_areRelated_70 : decode b_Al_areRelated 70 = .ok (.iconst 1, 1) := by decide +kernel
theorem d_Al_areRelated_71 : decode b_Al_areRelated 71 = .ok (.goto 4, 3) := by decide +kernel
theorem d_Al_areRelated_74 : decode b_Al_areRelated 74 = .ok (.iconst 0, 1) := by decide +kernel
theorem d_Al_areRelated_75 : decode b_Al_areRelated 75 = .ok (.ireturn, 1) := by decide +kernel
theorem d_Al_areRelated_76 : decode b_Al_areRelated 76 = .ok (.aload_n 0, 1) := by decide +kernel
theorem d_Al_areRelated_77 : decode b_Al_areRelated 77 = .ok (.getfield 37, 3) := by decide +kernel
theorem d_Al_areRelated_80 : decode b_Al_areRelated 80 = .ok (.iload_n 2, 1) := by decide +kernel
theorem d_Al_areRelated_81 : decode b_Al_areRelated 81 = .ok (.laload, 1) := by decide +kernel
theorem d_Al_areRelated_82 : decode b_Al_areRelated 82 = .ok (.aload_n 0, 1) := by decide +kernel
theorem d_Al_areRelated_83 : decode b_Al_areRelated 83 = .ok (.getfield 37, 3) := by decide +kernel
theorem d_Al_areRelated_86 : decode b_Al_areRelated 86 = .ok (.iload_n 3, 1) := by decide +kernel
theorem d_Al_areRelated_87 : decode b_Al_areRelated 87 = .ok (.laload, 1) := by decide +kernel
theorem d_Al_areRelated_88 : decode b_Al_areRelated 88 = .ok (.lcmp, 1) := by decide +kernel
theorem d_Al_areRelated_89 : decode b_Al_areRelated 89 = .ok (.ifCond .ne 7, 3) := by decide +kernel
theorem d_Al_areRelated_92 : decode b_Al_areRelated 92 = .ok (.iconst 1, 1) := by decide +kernel
theorem d_Al_areRelated_93 : decode b_Al_areRelated 93 = .ok (.goto 4, 3) := by decide +kernel
theorem d_Al_areRelated_96 : decode b_Al_areRelated 96 = .ok (.iconst 0, 1) := by decide +kernel
theorem d_Al_areRelated_97 : decode b_Al_areRelated 97 = .ok (.ireturn, 1) := by decide +kernel
theorem d_Al_areRelated_98 : decode b_Al_areRelated 98 = .ok (.aload_n 0, 1) := by decide +kernel
theorem d_Al_areRelated_99 : decode b_Al_areRelated 99 = .ok (.getfield 31, 3) := by decide +kernel
theorem d_Al_areRelated_102 : decode b_Al_areRelated 102 = .ok (.iload_n 2, 1) := by decide +kernel
theorem d_Al_areRelated_103 : decode b_Al_areRelated 103 = .ok (.laload, 1) := by decide +kernel
theorem d_Al_areRelated_104 : decode b_Al_areRelated 104 = .ok (.aload_n 0, 1) := by decide +kernel
theorem d_Al_areRelated_105 : decode b_Al_areRelated 105 = .ok (.getfield 31, 3) := by decide +kernel
theorem d_Al_areRelated_108 : decode b_Al_areRelated 108 = .ok (.iload_n 3, 1) := by decide +kernel
theorem d_Al_areRelated_109 : decode b_Al_areRelated 109 = .ok (.laload, 1) := by decide +kernel
theorem d_Al_areRelated_110 : decode b_Al_areRelated 110 = .ok (.lcmp, 1) := by decide +kernel
theorem d_Al_areRelated_111 : decode b_Al_areRelated 111 = .ok (.ifCond .ne 23, 3) := by decide +kernel
theorem d_Al_areRelated_114 : decode b_Al_areRelated 114 = .ok (.aload_n 0, 1) := by decide +kernel
theorem d_Al_areRelated_115 : decode b_Al_areRelated 115 = .ok (.getfield 34, 3) := by decide +kernel
theorem d_Al_areRelated_118 : decode b_Al_areRelated 118 = .ok (.iload_n 2, 1) := by decide +kernel
theorem d_Al_areRelated_119 : decode b_Al_areRelated 119 = .ok (.laload, 1) := by decide +kernel
theorem d_Al_areRelated_120 : decode b_Al_areRelated 120 = .ok (.aload_n 0, 1) := by decide +kernel
theorem d_Al_areRelated_121 : decode b_Al_areRelated 121 = .ok (.getfield 34, 3) := by decide +kernel
theorem d_Al_areRelated_124 : decode b_Al_areRelated 124 = .ok (.iload_n 3, 1) := by decide +kernel
theorem d_Al_areRelated_125 : decode b_Al_areRelated 125 = .ok (.laload, 1) := by decide +kernel
theorem d_Al_areRelated_126 : decode b_Al_areRelated 126 = .ok (.lcmp, 1) := by decide +kernel
theorem d_Al_areRelated_127 : decode b_Al_areRelated 127 = .ok (.ifCond .ne 7, 3) := by decide +kernel
theorem d_Al_areRelated_130 : decode b_Al_areRelated 130 = .ok (.iconst 1, 1) := by decide +kernel
theorem d_Al_areRelated_131 : decode b_Al_areRelated 131 = .ok (.goto 4, 3) := by decide +kernel
theorem d_Al_areRelated_134 : decode b_Al_areRelated 134 = .ok (.iconst 0, 1) := by decide +kernel
theorem d_Al_areRelated_135 : decode b_Al_areRelated 135 = .ok (.ireturn, 1) := by decide +kernel
theorem d_Al_areRelated_136 : decode b_Al_areRelated 136 = .ok (.iconst 0, 1) := by decide +kernel
theorem d_Al_areRelated_137 : decode b_Al_areRelated 137 = .ok (.ireturn, 1) := by decide +kernel
theorem d_LA_classes_0 : decode b_LA_classes 0 = .ok (.iload_n 1, 1) := by decide +kernel
theorem d_LA_classes_1 : decode b_LA_classes 1 = .ok (.invokestatic 102, 3) := by decide +kernel
theorem d_LA_classes_4 : decode b_LA_classes 4 = .ok (.ifCond .eq 13, 3) := by decide +kernel
theorem d_LA_classes_7 : decode b_LA_classes 7 = .ok (.aload_n 0, 1) := by decide +kernel
theorem d_LA_classes_8 : decode b_LA_classes 8 = .ok (.getfield 25, 3) := by decide +kernel
theorem d_LA_classes_11 : decode b_LA_classes 11 = .ok (.invokevirtual 86, 3) := by decide +kernel
theorem d_LA_classes_14 : decode b_LA_classes 14 = .ok (.ifCond .ne 5, 3) := by decide +kernel
theorem d_LA_classes_17 : decode b_LA_classes 17 = .ok (.iconst (-1), 1) := by decide +kernel
theorem d_LA_classes_18 : decode b_LA_classes 18 = .ok (.ireturn, 1) := by decide +kernel
theorem d_LA_classes_19 : decode b_LA_classes 19 = .ok (.aload_n 0, 1) := by decide +kernel
theorem d_LA_classes_20 : decode b_LA_classes 20 = .ok (.getfield 25, 3) := by decide +kernel
theorem d_LA_classes_23 : decode b_LA_classes 23 = .ok (.iload_n 1, 1) := by decide +kernel
theorem d_LA_classes_24 : decode b_LA_classes 24 = .ok (.invokevirtual 109, 3) := by decide +kernel
theorem d_LA_classes_27 : decode b_LA_classes 27 = .ok (.ireturn, 1) := by decide +kernel
theorem d_Al_countClasses_0 : decode b_Al_countClasses 0 = .ok (.iconst 0, 1) := by decide +kernel
theorem d_Al_countClasses_1 : decode b_Al_countClasses 1 = .ok (.istore_n 2, 1) := by decide +kernel
theorem d_Al_countClasses_2 : decode b_Al_countClasses 2 = .ok (.iconst 0, 1) := by decide +kernel
theorem d_Al_countClasses_3 : decode b_Al_countClasses 3 = .ok (.istore_n 3, 1) := by decide +kernel
theorem d_Al_countClasses_4 : decode b_Al_countClasses 4 = .ok (.iload_n 3, 1) := by decide +kernel
theorem d_Al_countClasses_5 : decode b_Al_countClasses 5 = .ok (.aload_n 0, 1) := by decide +kernel
theorem d_Al_countClasses_6 : decode b_Al_countClasses 6 = .ok (.getfield 40, 3) := by decide +kernel
theorem d_Al_countClasses_9 : decode b_Al_countClasses 9 = .ok (.if_icmp .ge 21, 3) := by decide +kernel
theorem d_Al_countClasses_12 : decode b_Al_countClasses 12 = .ok (.aload_n 0, 1) := by decide +kernel
theorem d_Al_countClasses_13 : decode b_Al_countClasses 13 = .ok (.iload_n 1, 1) := by decide +kernel
theorem d_Al_countClasses_14 : decode b_Al_countClasses 14 = .ok (.iload_n 3, 1) := by decide +kernel
theorem d_Al_countClasses_15 : decode b_Al_countClasses 15 = .ok (.invokevirtual 75, 3) := by decide +kernel
theorem d_Al_countClasses_18 : decode b_Al_countClasses 18 = .ok (.ifCond .eq 6, 3) := by decide +kernel
theorem d_Al_countClasses_21 : decode b_Al_countClasses 21 = .ok (.iinc 2 1, 3) := by decide +kernel
theorem d_Al_countClasses_24 : decode b_Al_countClasses 24 = .ok (.iinc 3 1, 3) := by decide +kernel
theorem d_Al_countClasses_27 : decode b_Al_countClasses 27 = .ok (.goto (-23), 3) := by decide +kernel
theorem d_Al_countClasses_30 : decode b_Al_countClasses 30 = .ok (.iload_n 2, 1) := by decide +kernel
theorem d_Al_countClasses_31 : decode b_Al_countClasses 31 = .ok (.ireturn, 1) := by decide +kernel
theorem d_Al_isFirstOfClass_0 : decode b_Al_isFirstOfClass 0 = .ok (.iconst 0, 1) := by decide +kernel
theorem d_Al_isFirstOfClass_1 : decode b_Al_isFirstOfClass 1 = .ok (.istore_n 3, 1) := by decide +kernel
theorem d_Al_isFirstOfClass_2 : decode b_Al_isFirstOfClass 2 = .ok (.iload_n 3, 1) := by decide +kernel
theorem d_Al_isFirstOfClass_3 : decode b_Al_isFirstOfClass 3 = .ok (.iload_n 2, 1) := by decide +kernel
theorem d_Al_isFirstOfClass_4 : decode b_Al_isFirstOfClass 4 = .ok (.if_icmp .ge 21, 3) := by decide +kernel
theorem d_Al_isFirstOfClass_7 : decode b_Al_isFirstOfClass 7 = .ok (.aload_n 0, 1) := by decide +kernel
theorem d_Al_isFirstOfClass_8 : decode b_Al_isFirstOfClass 8 = .ok (.iload_n 1, 1) := by decide +kernel
theorem d_Al_isFirstOfClass_9 : decode b_Al_isFirstOfClass 9 = .ok (.iload_n 3, 1) := by decide +kernel
theorem d_Al_isFirstOfClass_10 : decode b_Al_isFirstOfClass 10 = .ok (.iload_n 2, 1) := by decide +kernel
theorem d_Al_isFirstOfClass_11 : decode b_Al_isFirstOfClass 11 = .ok (.invokevirtual 79, 3) := by decide +kernel
theorem d_Al_isFirstOfClass_14 : decode b_Al_isFirstOfClass 14 = .ok (.ifCond .eq 5, 3) := by decide +kernel
theorem d_Al_isFirstOfClass_17 : decode b_Al_isFirstOfClass 17 = .ok (.iconst 0, 1) := by decide +kernel
theorem d_Al_isFirstOfClass_18 : decode b_Al_isFirstOfClass 18 = .ok (.ireturn, 1) := by decide +kernel
theorem d_Al_isFirstOfClass_19 : decode b_Al_isFirstOfClass 19 = .ok (.iinc 3 1, 3) := by decide +kernel
theorem d_Al_isFirstOfClass_22 : decode b_Al_isFirstOfClass 22 = .ok (.goto (-20), 3) := by decide +kernel
theorem d_Al_isFirstOfClass_25 : decode b_Al_isFirstOfClass 25 = .ok (.iconst 1, 1) := by decide +kernel
theorem d_Al_isFirstOfClass_26 : decode b_Al_isFirstOfClass 26 = .ok (.ireturn, 1) := by decide +kernel
