theorem d_Mo_power_0 : decode b_Mo_power 0 = .ok (.iconst 1, 1) := by decide +kernel
theorem d_Mo_power_1 : decode b_Mo_power 1 = .ok (.istore_n 1, 1) := by decide +kernel
theorem d_Mo_power_2 : decode b_Mo_power 2 = .ok (.iconst 0, 1) := by decide +kernel
theorem d_Mo_power_3 : decode b_Mo_power 3 = .ok (.istore_n 2, 1) := by decide +kernel
theorem d_Mo_power_4 : decode b_Mo_power 4 = .ok (.iload_n 2, 1) := by decide +kernel
theorem d_Mo_power_5 : decode b_Mo_power 5 = .ok (.iload_n 0, 1) := by decide +kernel
theorem d_Mo_power_6 : decode b_Mo_power 6 = .ok (.if_icmp .ge 14, 3) := by decide +kernel
theorem d_Mo_power_9 : decode b_Mo_power 9 = .ok (.bipush 6, 2) := by decide +kernel
theorem d_Mo_power_11 : decode b_Mo_power 11 = .ok (.iload_n 1, 1) := by decide +kernel
theorem d_Mo_power_12 : decode b_Mo_power 12 = .ok (.imul, 1) := by decide +kernel
theorem d_Mo_power_13 : decode b_Mo_power 13 = .ok (.istore_n 1, 1) := by decide +kernel
theorem d_Mo_power_14 : decode b_Mo_power 14 = .ok (.iinc 2 1, 3) := by decide +kernel
theorem d_Mo_power_17 : decode b_Mo_power 17 = .ok (.goto (-13), 3) := by decide +kernel
theorem d_Mo_power_20 : decode b_Mo_power 20 = .ok (.iload_n 1, 1) := by decide +kernel
theorem d_Mo_power_21 : decode b_Mo_power 21 = .ok (.ireturn, 1) := by decide +kernel
theorem d_Mo_behind_0 : decode b_Mo_behind 0 = .ok (.iconst 0, 1) := by decide +kernel
theorem d_Mo_behind_1 : decode b_Mo_behind 1 = .ok (.istore 5, 2) := by decide +kernel
theorem d_Mo_behind_3 : decode b_Mo_behind 3 = .ok (.iconst 0, 1) := by decide +kernel
theorem d_Mo_behind_4 : decode b_Mo_behind 4 = .ok (.istore 6, 2) := by decide +kernel
theorem d_Mo_behind_6 : decode b_Mo_behind 6 = .ok (.iload 6, 2) := by decide +kernel
theorem d_Mo_behind_8 : decode b_Mo_behind 8 = .ok (.iload_n 3, 1) := by decide +kernel
theorem d_Mo_behind_9 : decode b_Mo_behind 9 = .ok (.if_icmp .ge 41, 3) := by decide +kernel
theorem d_Mo_behind_12 : decode b_Mo_behind 12 = .ok (.iload_n 1, 1) := by decide +kernel
theorem d_Mo_behind_13 : decode b_Mo_behind 13 = .ok (.iload 6, 2) := by decide +kernel
theorem d_Mo_behind_15 : decode b_Mo_behind 15 = .ok (.invokestatic 114, 3) := by decide +kernel
theorem d_Mo_behind_18 : decode b_Mo_behind 18 = .ok (.idiv, 1) := by decide +kernel
theorem d_Mo_behind_19 : decode b_Mo_behind 19 = .ok (.bipush 6, 2) := by decide +kernel
theorem d_Mo_behind_21 : decode b_Mo_behind 21 = .ok (.irem, 1) := by decide +kernel
theorem d_Mo_behind_22 : decode b_Mo_behind 22 = .ok (.istore 7, 2) := by decide +kernel
theorem d_Mo_behind_24 : decode b_Mo_behind 24 = .ok (.iload 5, 2) := by decide +kernel
theorem d_Mo_behind_26 : decode b_Mo_behind 26 = .ok (.aload_n 0, 1) := by decide +kernel
theorem d_Mo_behind_27 : decode b_Mo_behind 27 = .ok (.iload_n 2, 1) := by decide +kernel
theorem d_Mo_behind_28 : decode b_Mo_behind 28 = .ok (.iload 7, 2) := by decide +kernel
theorem d_Mo_behind_30 : decode b_Mo_behind 30 = .ok (.iload 4, 2) := by decide +kernel
theorem d_Mo_behind_32 : decode b_Mo_behind 32 = .ok (.invokevirtual 55, 3) := by decide +kernel
theorem d_Mo_behind_35 : decode b_Mo_behind 35 = .ok (.iload 6, 2) := by decide +kernel
theorem d_Mo_behind_37 : decode b_Mo_behind 37 = .ok (.invokestatic 114, 3) := by decide +kernel
theorem d_Mo_behind_40 : decode b_Mo_behind 40 = .ok (.imul, 1) := by decide +kernel
theorem d_Mo_behind_41 : decode b_Mo_behind 41 = .ok (.iadd, 1) := by decide +kernel
theorem d_Mo_behind_42 : decode b_Mo_behind 42 = .ok (.istore 5, 2) := by decide +kernel
theorem d_Mo_behind_44 : decode b_Mo_behind 44 = .ok (.iinc 6 1, 3) := by decide +kernel
theorem d_Mo_behind_47 : decode b_Mo_behind 47 = .ok (.goto (-41), 3) := by decide +kernel
theorem d_Mo_behind_50 : decode b_Mo_behind 50 = .ok (.iload 5, 2) := by decide +kernel
theorem d_Mo_behind_52 : decode b_Mo_behind 52 = .ok (.ireturn, 1) := by decide +kernel
theorem d_Mo_find_0 : decode b_Mo_find 0 = .ok (.iconst 0, 1) := by decide +kernel
theorem d_Mo_find_1 : decode b_Mo_find 1 = .ok (.istore_n 3, 1) := by decide +kernel
theorem d_Mo_find_2 : decode b_Mo_find 2 = .ok (.iload_n 3, 1) := by decide +kernel
theorem d_Mo_find_3 : decode b_Mo_find 3 = .ok (.iload_n 2, 1) := by decide +kernel
theorem d_Mo_find_4 : decode b_Mo_find 4 = .ok (.if_icmp .ge 19, 3) := by decide +kernel
theorem d_Mo_find_7 : decode b_Mo_find 7 = .ok (.aload_n 0, 1) := by decide +kernel
theorem d_Mo_find_8 : decode b_Mo_find 8 = .ok (.getfield 42, 3) := by decide +kernel
theorem d_Mo_find_11 : decode b_Mo_find 11 = .ok (.iload_n 3, 1) := by decide +kernel
theorem d_Mo_find_12 : decode b_Mo_find 12 = .ok (.iaload, 1) := by decide +kernel
theorem d_Mo_find_13 : decode b_Mo_find 13 = .ok (.iload_n 1, 1) := by decide +kernel
theorem d_Mo_find_14 : decode b_Mo_find 14 = .ok (.if_icmp .eq 9, 3) := by decide +kernel
theorem d_Mo_find_17 : decode b_Mo_find 17 = .ok (.iinc 3 1, 3) := by decide +kernel
theorem d_Mo_find_20 : decode b_Mo_find 20 = .ok (.goto (-18), 3) := by decide +kernel
theorem d_Mo_find_23 : decode b_Mo_find 23 = .ok (.iload_n 3, 1) := by decide +kernel
theorem d_Mo_find_24 : decode b_Mo_find 24 = .ok (.ireturn, 1) := by decide +kernel
theorem d_Mo_elements_0 : decode b_Mo_elements 0 = .ok (.aload_n 0, 1) := by decide +kernel
theorem d_Mo_elements_1 : decode b_Mo_elements 1 = .ok (.getfield 130, 3) := by decide +kernel
theorem d_Mo_elements_4 : decode b_Mo_elements 4 = .ok (.ifCond .ne 7, 3) := by decide +kernel
theorem d_Mo_elements_7 : decode b_Mo_elements 7 = .ok (.iconst (-1), 1) := by decide +kernel
theorem d_Mo_elements_8 : decode b_Mo_elements 8 = .ok (.goto 7, 3) := by decide +kernel
theorem d_Mo_elements_11 : decode b_Mo_elements 11 = .ok (.aload_n 0, 1) := by decide +kernel
theorem d_Mo_elements_12 : decode b_Mo_elements 12 = .ok (.getfield 130, 3) := by decide +kernel
theorem d_Mo_elements_15 : decode b_Mo_elements 15 = .ok (.ireturn, 1) := by decide +kernel
theorem d_Mo_word_0 : decode b_Mo_word 0 = .ok (.aload_n 0, 1) := by decide +kernel
theorem d_Mo_word_1 : decode b_Mo_word 1 = .ok (.iload_n 1, 1) := by decide +kernel
theorem d_Mo_word_2 : decode b_Mo_word 2 = .ok (.invokevirtual 136, 3) := by decide +kernel
theorem d_Mo_word_5 : decode b_Mo_word 5 = .ok (.ifCond .eq 12, 3) := by decide +kernel
theorem d_Mo_word_8 : decode b_Mo_word 8 = .ok (.aload_n 0, 1) := by decide +kernel
theorem d_Mo_word_9 : decode b_Mo_word 9 = .ok (.getfield 39, 3) := by decide +kernel
theorem d_Mo_word_12 : decode b_Mo_word 12 = .ok (.iload_n 1, 1) := by decide +kernel
theorem d_Mo_word_13 : decode b_Mo_word 13 = .ok (.laload, 1) := by decide +kernel
theorem d_Mo_word_14 : decode b_Mo_word 14 = .ok (.goto 6, 3) := by decide +kernel
theorem d_Mo_word_17 : decode b_Mo_word 17 = .ok (.ldc2_w 139, 3) := by decide +kernel
theorem d_Mo_word_20 : decode b_Mo_word 20 = .ok (.lreturn, 1) := by decide +kernel
theorem d_Mo_isElement_0 : decode b_Mo_isElement 0 = .ok (.iload_n 1, 1) := by decide +kernel
theorem d_Mo_isElement_1 : decode b_Mo_isElement 1 = .ok (.ifCond .lt 15, 3) := by decide +kernel
theorem d_Mo_isElement_4 : decode b_Mo_isElement 4 = .ok (.iload_n 1, 1) := by decide +kernel
theorem d_Mo_isElement_5 : decode b_Mo_isElement 5 = .ok (.aload_n 0, 1) := by decide +kernel
theorem d_Mo_isElement_6 : decode b_Mo_isElement 6 = .ok (.getfield 130, 3) := by decide +kernel
theorem d_Mo_isElement_9 : decode b_Mo_isElement 9 = .ok (.if_icmp .ge 7, 3) := by decide +kernel
theorem d_Mo_isElement_12 : decode b_Mo_isElement 12 = .ok (.iconst 1, 1) := by decide +kernel
theorem d_Mo_isElement_13 : decode b_Mo_isElement 13 = .ok (.goto 4, 3) := by decide +kernel
theorem d_Mo_isElement_16 : decode b_Mo_isElement 16 = .ok (.iconst 0, 1) := by decide +kernel
theorem d_Mo_isElement_17 : decode b_Mo_isElement 17 = .ok (.ireturn, 1) := by decide +kernel
theorem d_Mo_product_0 : decode b_Mo_product 0 = .ok (.aload_n 0, 1) := by decide +kernel
theorem d_Mo_product_1 : decode b_Mo_product 1 = .ok (.iload_n 1, 1) := by decide +kernel
theorem d_Mo_product_2 : decode b_Mo_product 2 = .ok (.invokevirtual 136, 3) := by decide +kernel
theorem d_Mo_product_5 : decode b_Mo_product 5 = .ok (.ifCond .eq 25, 3) := by decide +kernel
theorem d_Mo_product_8 : decode b_Mo_product 8 = .ok (.aload_n 0, 1) := by decide +kernel
theorem d_Mo_product_9 : decode b_Mo_product 9 = .ok (.iload_n 2, 1) := by decide +kernel
theorem d_Mo_product_10 : decode b_Mo_product 10 = .ok (.invokevirtual 136, 3) := by decide +kernel
theorem d_Mo_product_13 : decode b_Mo_product 13 = .ok (.ifCond .eq 17, 3) := by decide +kernel
theorem d_Mo_product_16 : decode b_Mo_product 16 = .ok (.aload_n 0, 1) := by decide +kernel
theorem d_Mo_product_17 : decode b_Mo_product 17 = .ok (.getfield 48, 3) := by decide +kernel
theorem d_Mo_product_20 : decode b_Mo_product 20 = .ok (.bipush 60, 2) := by decide +kernel
theorem d_Mo_product_22 : decode b_Mo_product 22 = .ok (.iload_n 1, 1) := by decide +kernel
theorem d_Mo_product_23 : decode b_Mo_product 23 = .ok (.imul, 1) := by decide +kernel
theorem d_Mo_product_24 : decode b_Mo_product 24 = .ok (.iload_n 2, 1) := by decide +kernel
theorem d_Mo_product_25 : decode b_Mo_product 25 = .ok (.iadd, 1) := by decide +kernel
theorem d_Mo_product_26 : decode b_Mo_product 26 = .ok (.iaload, 1) := by decide +kernel
theorem d_Mo_product_27 : decode b_Mo_product 27 = .ok (.goto 4, 3) := by decide +kernel
theorem d_Mo_product_30 : decode b_Mo_product 30 = .ok (.iconst (-1), 1) := by decide +kernel
theorem d_Mo_product_31 : decode b_Mo_product 31 = .ok (.ireturn, 1) := by decide +kernel
theorem d_Mo_related_0 : decode b_Mo_related 0 = .ok (.iload_n 1, 1) := by decide +kernel
theorem d_Mo_related_1 : decode b_Mo_related 1 = .ok (.ifCond .lt 24, 3) := by decide +kernel
theorem d_Mo_related_4 : decode b_Mo_related 4 = .ok (.iload_n 1, 1) := by decide +kernel
theorem d_Mo_related_5 : decode b_Mo_related 5 = .ok (.iconst 3, 1) := by decide +kernel
theorem d_Mo_related_6 : decode b_Mo_related 6 = .ok (.if_icmp .gt 19, 3) := by decide +kernel
theorem d_Mo_related_9 : decode b_Mo_related 9 = .ok (.aload_n 0, 1) := by decide +kernel
theorem d_Mo_related_10 : decode b_Mo_related 10 = .ok (.iload_n 2, 1) := by decide +kernel
theorem d_Mo_related_11 : decode b_Mo_related 11 = .ok (.invokevirtual 136, 3) := by decide +kernel
theorem d_Mo_related_14 : decode b_Mo_related 14 = .ok (.ifCond .eq 11, 3) := by decide +kernel
theorem d_Mo_related_17 : decode b_Mo_related 17 = .ok (.aload_n 0, 1) := by decide +kernel
theorem d_Mo_related_18 : decode b_Mo_related 18 = .ok (.iload_n 3, 1) := by decide +kernel
theorem d_Mo_related_19 : decode b_Mo_related 19 = .ok (.invokevirtual 136, 3) := by decide +kernel
theorem d_Mo_related_22 : decode b_Mo_related 22 = .ok (.ifCond .ne 5, 3) := by decide +kernel
theorem d_Mo_related_25 : decode b_Mo_related 25 = .ok (.iconst 0, 1) := by decide +kernel
theorem d_Mo_related_26 : decode b_Mo_related 26 = .ok (.ireturn, 1) := by decide +kernel
theorem d_Mo_related_27 : decode b_Mo_related 27 = .ok (.aload_n 0, 1) := by decide +kernel
theorem d_Mo_related_28 : decode b_Mo_related 28 = .ok (.iload_n 2, 1) := by decide +kernel
theorem d_Mo_related_29 : decode b_Mo_related 29 = .ok (.invokevirtual 141, 3) := by decide +kernel
theorem d_Mo_related_32 : decode b_Mo_related 32 = .ok (.aload_n 0, 1) := by decide +kernel
theorem d_Mo_related_33 : decode b_Mo_related 33 = .ok (.iload_n 3, 1) := by decide +kernel
theorem d_Mo_related_34 : decode b_Mo_related 34 = .ok (.invokevirtual 141, 3) := by decide +kernel
theorem d_Mo_related_37 : decode b_Mo_related 37 = .ok (.lcmp, 1) := by decide +kernel
theorem d_Mo_related_38 : decode b_Mo_related 38 = .ok (.ifCond .ne 7, 3) := by decide +kernel
theorem d_Mo_related_41 : decode b_Mo_related 41 = .ok (.iconst 1, 1) := by decide +kernel
theorem d_Mo_related_42 : decode b_Mo_related 42 = .ok (.goto 4, 3) := by decide +kernel
theorem d_Mo_related_45 : decode b_Mo_related 45 = .ok (.iconst 0, 1) := by decide +kernel
theorem d_Mo_related_46 : decode b_Mo_related 46 = .ok (.istore 4, 2) := by decide +kernel
theorem d_Mo_related_48 : decode b_Mo_related 48 = .ok (.aload_n 0, 1) := by decide +kernel
theorem d_Mo_related_49 : decode b_Mo_related 49 = .ok (.iload_n 2, 1) := by decide +kernel
theorem d_Mo_related_50 : decode b_Mo_related 50 = .ok (.invokevirtual 145, 3) := by decide +kernel
theorem d_Mo_related_53 : decode b_Mo_related 53 = .ok (.aload_n 0, 1) := by decide +kernel
theorem d_Mo_related_54 : decode b_Mo_related 54 = .ok (.iload_n 3, 1) := by decide +kernel
theorem d_Mo_related_55 : decode b_Mo_related 55 = .ok (.invokevirtual 145, 3) := by decide +kernel
theorem d_Mo_related_58 : decode b_Mo_related 58 = .ok (.lcmp, 1) := by decide +kernel
theorem d_Mo_related_59 : decode b_Mo_related 59 = .ok (.ifCond .ne 7, 3) := by decide +kernel
theorem d_Mo_related_62 : decode b_Mo_related 62 = .ok (.iconst 1, 1) := by decide +kernel
theorem d_Mo_related_63 : decode b_Mo_related 63 = .ok (.goto 4, 3) := by decide +kernel
theorem d_Mo_related_66 : decode b_Mo_related 66 = .ok (.iconst 0, 1) := by decide +kernel
theorem d_Mo_related_67 : decode b_Mo_related 67 = .ok (.istore 5, 2) := by decide +kernel
theorem d_Mo_related_69 : decode b_Mo_related 69 = .ok (.iload_n 1, 1) := by decide +kernel
theorem d_Mo_related_70 : decode b_Mo_related 70 = .ok (.iconst 2, 1) := by decide +kernel
theorem d_Mo_related_71 : decode b_Mo_related 71 = .ok (.if_icmp .ne 23, 3) := by decide +kernel
theorem d_Mo_related_74 : decode b_Mo_related 74 = .ok (.aload_n 0, 1) := by decide +kernel
theorem d_Mo_related_75 : decode b_Mo_related 75 = .ok (.iload_n 2, 1) := by decide +kernel
theorem d_Mo_related_76 : decode b_Mo_related 76 = .ok (.invokevirtual 148, 3) := by decide +kernel
theorem d_Mo_related_79 : decode b_Mo_related 79 = .ok (.aload_n 0, 1) := by decide +kernel
theorem d_Mo_related_80 : decode b_Mo_related 80 = .ok (.iload_n 3, 1) := by decide +kernel
theorem d_Mo_related_81 : decode b_Mo_related 81 = .ok (.invokevirtual 148, 3) := by decide +kernel
theorem d_Mo_related_84 : decode b_Mo_related 84 = .ok (.lcmp, 1) := by decide +kernel
theorem d_Mo_related_85 : decode b_Mo_related 85 = .ok (.ifCond .ne 7, 3) := by decide +kernel
theorem d_Mo_related_88 : decode b_Mo_related 88 = .ok (.iconst 1, 1) := by decide +kernel
theorem d_Mo_related_89 : decode b_Mo_related 89 = .ok (.goto 4, 3) := by decide +kernel
theorem d_Mo_related_92 : decode b_Mo_related 92 = .ok (.iconst 0, 1) := by decide +kernel
theorem d_Mo_related_93 : decode b_Mo_related 93 = .ok (.ireturn, 1) := by decide +kernel
theorem d_Mo_related_94 : decode b_Mo_related 94 = .ok (.iload_n 1, 1) := by decide +kernel
theorem d_Mo_related_95 : decode b_Mo_related 95 = .ok (.ifCond .ne 8, 3) := by decide +kernel
theorem d_Mo_related_98 : decode b_Mo_related 98 = .ok (.iload 4, 2) := by decide +kernel
theorem d_Mo_related_100 : decode b_Mo_related 100 = .ok (.goto 28, 3) := by decide +kernel
theorem d_Mo_related_103 : decode b_Mo_related 103 = .ok (.iload_n 1, 1) := by decide +kernel
theorem d_Mo_related_104 : decode b_Mo_related 104 = .ok (.iconst 1, 1) := by decide +kernel
theorem d_Mo_related_105 : decode b_Mo_related 105 = .ok (.if_icmp .ne 8, 3) := by decide +kernel
theorem d_Mo_related_108 : decode b_Mo_related 108 = .ok (.iload 5, 2) := by decide +kernel
theorem d_Mo_related_110 : decode b_Mo_related 110 = .ok (.goto 18, 3) := by decide +kernel
theorem d_Mo_related_113 : decode b_Mo_related 113 = .ok (.iload 4, 2) := by decide +kernel
theorem d_Mo_related_115 : decode b_Mo_related 115 = .ok (.ifCond .eq 12, 3) := by decide +kernel
theorem d_Mo_related_118 : decode b_Mo_related 118 = .ok (.iload 5, 2) := by decide +kernel
theorem d_Mo_related_120 : decode b_Mo_related 120 = .ok (.ifCond .eq 7, 3) := by decide +kernel
theorem d_Mo_related_123 : decode b_Mo_related 123 = .ok (.iconst 1, 1) := by decide +kernel
theorem d_Mo_related_124 : decode b_Mo_related 124 = .ok (.goto 4, 3) := by decide +kernel
theorem d_Mo_related_127 : decode b_Mo_related 127 = .ok (.iconst 0, 1) := by decide +kernel
theorem d_Mo_related_128 : decode b_Mo_related 128 = .ok (.ireturn, 1) := by decide +kernel
theorem d_Mo_rightOf_0 : decode b_Mo_rightOf 0 = .ok (.lconst 0, 1) := by decide +kernel
theorem d_Mo_rightOf_1 : decode b_Mo_rightOf 1 = .ok (.lstore_n 2, 1) := by decide +kernel
theorem d_Mo_rightOf_2 : decode b_Mo_rightOf 2 = .ok (.iconst 0, 1) := by decide +kernel
theorem d_Mo_rightOf_3 : decode b_Mo_rightOf 3 = .ok (.istore 4, 2) := by decide +kernel
theorem d_Mo_rightOf_5 : decode b_Mo_rightOf 5 = .ok (.iload 4, 2) := by decide +kernel
theorem d_Mo_rightOf_7 : decode b_Mo_rightOf 7 = .ok (.aload_n 0, 1) := by decide +kernel
theorem d_Mo_rightOf_8 : decode b_Mo_rightOf 8 = .ok (.getfield 130, 3) := by decide +kernel
theorem d_Mo_rightOf_11 : decode b_Mo_rightOf 11 = .ok (.if_icmp .ge 26, 3) := by decide +kernel
theorem d_Mo_rightOf_14 : decode b_Mo_rightOf 14 = .ok (.lload_n 2, 1) := by decide +kernel
theorem d_Mo_rightOf_15 : decode b_Mo_rightOf 15 = .ok (.lconst 1, 1) := by decide +kernel
theorem d_Mo_rightOf_16 : decode b_Mo_rightOf 16 = .ok (.aload_n 0, 1) := by decide +kernel
theorem d_Mo_rightOf_17 : decode b_Mo_rightOf 17 = .ok (.getfield 48, 3) := by decide +kernel
theorem d_Mo_rightOf_20 : decode b_Mo_rightOf 20 = .ok (.bipush 60, 2) := by decide +kernel
theorem d_Mo_rightOf_22 : decode b_Mo_rightOf 22 = .ok (.iload_n 1, 1) := by decide +kernel
theorem d_Mo_rightOf_23 : decode b_Mo_rightOf 23 = .ok (.imul, 1) := by decide +kernel
theorem d_Mo_rightOf_24 : decode b_Mo_rightOf 24 = .ok (.iload 4, 2) := by decide +kernel
theorem d_Mo_rightOf_26 : decode b_Mo_rightOf 26 = .ok (.iadd, 1) := by decide +kernel
theorem d_Mo_rightOf_27 : decode b_Mo_rightOf 27 = .ok (.iaload, 1) := by decide +kernel
theorem d_Mo_rightOf_28 : decode b_Mo_rightOf 28 = .ok (.lshl, 1) := by decide +kernel
theorem d_Mo_rightOf_29 : decode b_Mo_rightOf 29 = .ok (.lor, 1) := by decide +kernel
theorem d_Mo_rightOf_30 : decode b_Mo_rightOf 30 = .ok (.lstore_n 2, 1) := by decide +kernel
theorem d_Mo_rightOf_31 : decode b_Mo_rightOf 31 = .ok (.iinc 4 1, 3) := by decide +kernel
theorem d_Mo_rightOf_34 : decode b_Mo_rightOf 34 = .ok (.goto (-29), 3) := by decide +kernel
theorem d_Mo_rightOf_37 : decode b_Mo_rightOf 37 = .ok (.lload_n 2, 1) := by decide +kernel
theorem d_Mo_rightOf_38 : decode b_Mo_rightOf 38 = .ok (.lreturn, 1) := by decide +kernel
theorem d_Mo_leftOf_0 : decode b_Mo_leftOf 0 = .ok (.lconst 0, 1) := by decide +kernel
theorem d_Mo_leftOf_1 : decode b_Mo_leftOf 1 = .ok (.lstore_n 2, 1) := by decide +kernel
theorem d_Mo_leftOf_2 : decode b_Mo_leftOf 2 = .ok (.iconst 0, 1) := by decide +kernel
theorem d_Mo_leftOf_3 : decode b_Mo_leftOf 3 = .ok (.istore 4, 2) := by decide +kernel
theorem d_Mo_leftOf_5 : decode b_Mo_leftOf 5 = .ok (.iload 4, 2) := by decide +kernel
theorem d_Mo_leftOf_7 : decode b_Mo_leftOf 7 = .ok (.aload_n 0, 1) := by decide +kernel
theorem d_Mo_leftOf_8 : decode b_Mo_leftOf 8 = .ok (.getfield 130, 3) := by decide +kernel
theorem d_Mo_leftOf_11 : decode b_Mo_leftOf 11 = .ok (.if_icmp .ge 26, 3) := by decide +kernel
theorem d_Mo_leftOf_14 : decode b_Mo_leftOf 14 = .ok (.lload_n 2, 1) := by decide +kernel
theorem d_Mo_leftOf_15 : decode b_Mo_leftOf 15 = .ok (.lconst 1, 1) := by decide +kernel
theorem d_Mo_leftOf_16 : decode b_Mo_leftOf 16 = .ok (.aload_n 0, 1) := by decide +kernel
theorem d_Mo_leftOf_17 : decode b_Mo_leftOf 17 = .ok (.getfield 48, 3) := by decide +kernel
theorem d_Mo_leftOf_20 : decode b_Mo_leftOf 20 = .ok (.bipush 60, 2) := by decide +kernel
theorem d_Mo_leftOf_22 : decode b_Mo_leftOf 22 = .ok (.iload 4, 2) := by decide +kernel
theorem d_Mo_leftOf_24 : decode b_Mo_leftOf 24 = .ok (.imul, 1) := by decide +kernel
theorem d_Mo_leftOf_25 : decode b_Mo_leftOf 25 = .ok (.iload_n 1, 1) := by decide +kernel
theorem d_Mo_leftOf_26 : decode b_Mo_leftOf 26 = .ok (.iadd, 1) := by decide +kernel
theorem d_Mo_leftOf_27 : decode b_Mo_leftOf 27 = .ok (.iaload, 1) := by decide +kernel
theorem d_Mo_leftOf_28 : decode b_Mo_leftOf 28 = .ok (.lshl, 1) := by decide +kernel
theorem d_Mo_leftOf_29 : decode b_Mo_leftOf 29 = .ok (.lor, 1) := by decide +kernel
theorem d_Mo_leftOf_30 : decode b_Mo_leftOf 30 = .ok (.lstore_n 2, 1) := by decide +kernel
theorem d_Mo_leftOf_31 : decode b_Mo_leftOf 31 = .ok (.iinc 4 1, 3) := by decide +kernel
theorem d_Mo_leftOf_34 : decode b_Mo_leftOf 34 = .ok (.goto (-29), 3) := by decide +kernel
theorem d_Mo_leftOf_37 : decode b_Mo_leftOf 37 = .ok (.lload_n 2, 1) := by decide +kernel
theorem d_Mo_leftOf_38 : decode b_Mo_leftOf 38 = .ok (.lreturn, 1) := by decide +kernel
theorem d_Mo_aroundOf_0 : decode b_Mo_aroundOf 0 = .ok (.lconst 0, 1) := by decide +kernel
theorem d_Mo_aroundOf_1 : decode b_Mo_aroundOf 1 = .ok (.lstore_n 2, 1) := by decide +kernel
theorem d_Mo_aroundOf_2 : decode b_Mo_aroundOf 2 = .ok (.iconst 0, 1) := by decide +kernel
theorem d_Mo_aroundOf_3 : decode b_Mo_aroundOf 3 = .ok (.istore 4, 2) := by decide +kernel
theorem d_Mo_aroundOf_5 : decode b_Mo_aroundOf 5 = .ok (.iload 4, 2) := by decide +kernel
theorem d_Mo_aroundOf_7 : decode b_Mo_aroundOf 7 = .ok (.aload_n 0, 1) := by decide +kernel
theorem d_Mo_aroundOf_8 : decode b_Mo_aroundOf 8 = .ok (.getfield 130, 3) := by decide +kernel
theorem d_Mo_aroundOf_11 : decode b_Mo_aroundOf 11 = .ok (.if_icmp .ge 28, 3) := by decide +kernel
theorem d_Mo_aroundOf_14 : decode b_Mo_aroundOf 14 = .ok (.lload_n 2, 1) := by decide +kernel
theorem d_Mo_aroundOf_15 : decode b_Mo_aroundOf 15 = .ok (.aload_n 0, 1) := by decide +kernel
theorem d_Mo_aroundOf_16 : decode b_Mo_aroundOf 16 = .ok (.aload_n 0, 1) := by decide +kernel
theorem d_Mo_aroundOf_17 : decode b_Mo_aroundOf 17 = .ok (.getfield 48, 3) := by decide +kernel
theorem d_Mo_aroundOf_20 : decode b_Mo_aroundOf 20 = .ok (.bipush 60, 2) := by decide +kernel
theorem d_Mo_aroundOf_22 : decode b_Mo_aroundOf 22 = .ok (.iload 4, 2) := by decide +kernel
theorem d_Mo_aroundOf_24 : decode b_Mo_aroundOf 24 = .ok (.imul, 1) := by decide +kernel
theorem d_Mo_aroundOf_25 : decode b_Mo_aroundOf 25 = .ok (.iload_n 1, 1) := by decide +kernel
theorem d_Mo_aroundOf_26 : decode b_Mo_aroundOf 26 = .ok (.iadd, 1) := by decide +kernel
theorem d_Mo_aroundOf_27 : decode b_Mo_aroundOf 27 = .ok (.iaload, 1) := by decide +kernel
theorem d_Mo_aroundOf_28 : decode b_Mo_aroundOf 28 = .ok (.invokevirtual 141, 3) := by decide +kernel
theorem d_Mo_aroundOf_31 : decode b_Mo_aroundOf 31 = .ok (.lor, 1) := by decide +kernel
theorem d_Mo_aroundOf_32 : decode b_Mo_aroundOf 32 = .ok (.lstore_n 2, 1) := by decide +kernel
theorem d_Mo_aroundOf_33 : decode b_Mo_aroundOf 33 = .ok (.iinc 4 1, 3) := by decide +kernel
theorem d_Mo_aroundOf_36 : decode b_Mo_aroundOf 36 = .ok (.goto (-31), 3) := by decide +kernel
theorem d_Mo_aroundOf_39 : decode b_Mo_aroundOf 39 = .ok (.lload_n 2, 1) := by decide +kernel
theorem d_Mo_aroundOf_40 : decode b_Mo_aroundOf 40 = .ok (.lreturn, 1) := by decide +kernel
theorem d_Mo_classes_0 : decode b_Mo_classes 0 = .ok (.iload_n 1, 1) := by decide +kernel
theorem d_Mo_classes_1 : decode b_Mo_classes 1 = .ok (.ifCond .lt 15, 3) := by decide +kernel
theorem d_Mo_classes_4 : decode b_Mo_classes 4 = .ok (.iload_n 1, 1) := by decide +kernel
theorem d_Mo_classes_5 : decode b_Mo_classes 5 = .ok (.iconst 3, 1) := by decide +kernel
theorem d_Mo_classes_6 : decode b_Mo_classes 6 = .ok (.if_icmp .gt 10, 3) := by decide +kernel
theorem d_Mo_classes_9 : decode b_Mo_classes 9 = .ok (.aload_n 0, 1) := by decide +kernel
theorem d_Mo_classes_10 : decode b_Mo_classes 10 = .ok (.getfield 130, 3) := by decide +kernel
theorem d_Mo_classes_13 : decode b_Mo_classes 13 = .ok (.ifCond .ne 5, 3) := by decide +kernel
theorem d_Mo_classes_16 : decode b_Mo_classes 16 = .ok (.iconst (-1), 1) := by decide +kernel
theorem d_Mo_classes_17 : decode b_Mo_classes 17 = .ok (.ireturn, 1) := by decide +kernel
theorem d_Mo_classes_18 : decode b_Mo_classes 18 = .ok (.iconst 0, 1) := by decide +kernel
theorem d_Mo_classes_19 : decode b_Mo_classes 19 = .ok (.istore_n 2, 1) := by decide +kernel
theorem d_Mo_classes_20 : decode b_Mo_classes 20 = .ok (.iconst 0, 1) := by decide +kernel
theorem d_Mo_classes_21 : decode b_Mo_classes 21 = .ok (.istore_n 3, 1) := by decide +kernel
theorem d_Mo_classes_22 : decode b_Mo_classes 22 = .ok (.iload_n 3, 1) := by decide +kernel
theorem d_Mo_classes_23 : decode b_Mo_classes 23 = .ok (.aload_n 0, 1) := by decide +kernel
theorem d_Mo_classes_24 : decode b_Mo_classes 24 = .ok (.getfield 130, 3) := by decide +kernel
theorem d_Mo_classes_27 : decode b_Mo_classes 27 = .ok (.if_icmp .ge 63, 3) := by decide +kernel
theorem d_Mo_classes_30 : decode b_Mo_classes 30 = .ok (.iconst 1, 1) := by decide +kernel
theorem d_Mo_classes_31 : decode b_Mo_classes 31 = .ok (.istore 4, 2) := by decide +kernel
theorem d_Mo_classes_33 : decode b_Mo_classes 33 = .ok (.iconst 0, 1) := by decide +kernel
theorem d_Mo_classes_34 : decode b_Mo_classes 34 = .ok (.istore 5, 2) := by decide +kernel
theorem d_Mo_classes_36 : decode b_Mo_classes 36 = .ok (.iload 5, 2) := by decide +kernel
theorem d_Mo_classes_38 : decode b_Mo_classes 38 = .ok (.iload_n 3, 1) := by decide +kernel
theorem d_Mo_classes_39 : decode b_Mo_classes 39 = .ok (.if_icmp .ge 32, 3) := by decide +kernel
theorem d_Mo_classes_42 : decode b_Mo_classes 42 = .ok (.iload 4, 2) := by decide +kernel
theorem d_Mo_classes_44 : decode b_Mo_classes 44 = .ok (.ifCond .eq 27, 3) := by decide +kernel
theorem d_Mo_classes_47 : decode b_Mo_classes 47 = .ok (.aload_n 0, 1) := by decide +kernel
theorem d_Mo_classes_48 : decode b_Mo_classes 48 = .ok (.iload_n 1, 1) := by decide +kernel
theorem d_Mo_classes_49 : decode b_Mo_classes 49 = .ok (.iload_n 3, 1) := by decide +kernel
theorem d_Mo_classes_50 : decode b_Mo_classes 50 = .ok (.iload 5, 2) := by decide +kernel
theorem d_Mo_classes_52 : decode b_Mo_classes 52 = .ok (.invokevirtual 151, 3) := by decide +kernel
theorem d_Mo_classes_55 : decode b_Mo_classes 55 = .ok (.ifCond .ne 7, 3) := by decide +kernel
theorem d_Mo_classes_58 : decode b_Mo_classes 58 = .ok (.iconst 1, 1) := by decide +kernel
theorem d_Mo_classes_59 : decode b_Mo_classes 59 = .ok (.goto 4, 3) := by decide +kernel
theorem d_Mo_classes_62 : decode b_Mo_classes 62 = .ok (.iconst 0, 1) := by decide +kernel
theorem d_Mo_classes_63 : decode b_Mo_classes 63 = .ok (.istore 4, 2) := by decide +kernel
theorem d_Mo_classes_65 : decode b_Mo_classes 65 = .ok (.iinc 5 1, 3) := by decide +kernel
theorem d_Mo_classes_68 : decode b_Mo_classes 68 = .ok (.goto (-32), 3) := by decide +kernel
theorem d_Mo_classes_71 : decode b_Mo_classes 71 = .ok (.iload 4, 2) := by decide +kernel
theorem d_Mo_classes_73 : decode b_Mo_classes 73 = .ok (.ifCond .eq 9, 3) := by decide +kernel
theorem d_Mo_classes_76 : decode b_Mo_classes 76 = .ok (.iload_n 2, 1) := by decide +kernel
theorem d_Mo_classes_77 : decode b_Mo_classes 77 = .ok (.iconst 1, 1) := by decide +kernel
theorem d_Mo_classes_78 : decode b_Mo_classes 78 = .ok (.iadd, 1) := by decide +kernel
theorem d_Mo_classes_79 : decode b_Mo_classes 79 = .ok (.goto 4, 3) := by decide +kernel
theorem d_Mo_classes_82 : decode b_Mo_classes 82 = .ok (.iload_n 2, 1) := by decide +kernel
theorem d_Mo_classes_83 : decode b_Mo_classes 83 = .ok (.istore_n 2, 1) := by decide +kernel
theorem d_Mo_classes_84 : decode b_Mo_classes 84 = .ok (.iinc 3 1, 3) := by decide +kernel
theorem d_Mo_classes_87 : decode b_Mo_classes 87 = .ok (.goto (-65), 3) := by decide +kernel
theorem d_Mo_classes_90 : decode b_Mo_classes 90 = .ok (.iload_n 2, 1) := by decide +kernel
theorem d_Mo_classes_91 : decode b_Mo_classes 91 = .ok (.ireturn, 1) := by decide +kernel
theorem d_Mo_witness_0 : decode b_Mo_witness 0 = .ok (.iload_n 1, 1) := by decide +kernel
theorem d_Mo_witness_1 : decode b_Mo_witness 1 = .ok (.ifCond .lt 15, 3) := by decide +kernel
theorem d_Mo_witness_4 : decode b_Mo_witness 4 = .ok (.iload_n 1, 1) := by decide +kernel
theorem d_Mo_witness_5 : decode b_Mo_witness 5 = .ok (.iconst 5, 1) := by decide +kernel
theorem d_Mo_witness_6 : decode b_Mo_witness 6 = .ok (.if_icmp .gt 10, 3) := by decide +kernel
theorem d_Mo_witness_9 : decode b_Mo_witness 9 = .ok (.aload_n 0, 1) := by decide +kernel
theorem d_Mo_witness_10 : decode b_Mo_witness 10 = .ok (.getfield 130, 3) := by decide +kernel
theorem d_Mo_witness_13 : decode b_Mo_witness 13 = .ok (.ifCond .ne 6, 3) := by decide +kernel
theorem d_Mo_witness_16 : decode b_Mo_witness 16 = .ok (.bipush (-2), 2) := by decide +kernel
theorem d_Mo_witness_18 : decode b_Mo_witness 18 = .ok (.ireturn, 1) := by decide +kernel
theorem d_Mo_witness_19 : decode b_Mo_witness 19 = .ok (.iconst 0, 1) := by decide +kernel
theorem d_Mo_witness_20 : decode b_Mo_witness 20 = .ok (.istore_n 2, 1) := by decide +kernel
theorem d_Mo_witness_21 : decode b_Mo_witness 21 = .ok (.iload_n 2, 1) := by decide +kernel
theorem d_Mo_witness_22 : decode b_Mo_witness 22 = .ok (.aload_n 0, 1) := by decide +kernel
theorem d_Mo_witness_23 : decode b_Mo_witness 23 = .ok (.getfield 130, 3) := by decide +kernel
theorem d_Mo_witness_26 : decode b_Mo_witness 26 = .ok (.if_icmp .ge 42, 3) := by decide +kernel
theorem d_Mo_witness_29 : decode b_Mo_witness 29 = .ok (.iconst 0, 1) := by decide +kernel
theorem d_Mo_witness_30 : decode b_Mo_witness 30 = .ok (.istore_n 3, 1) := by decide +kernel
theorem d_Mo_witness_31 : decode b_Mo_witness 31 = .ok (.iload_n 3, 1) := by decide +kernel
theorem d_Mo_witness_32 : decode b_Mo_witness 32 = .ok (.aload_n 0, 1) := by decide +kernel
theorem d_Mo_witness_33 : decode b_Mo_witness 33 = .ok (.getfield 130, 3) := by decide +kernel
theorem d_Mo_witness_36 : decode b_Mo_witness 36 = .ok (.if_icmp .ge 26, 3) := by decide +kernel
theorem d_Mo_witness_39 : decode b_Mo_witness 39 = .ok (.aload_n 0, 1) := by decide +kernel
theorem d_Mo_witness_40 : decode b_Mo_witness 40 = .ok (.iload_n 1, 1) := by decide +kernel
theorem d_Mo_witness_41 : decode b_Mo_witness 41 = .ok (.iload_n 2, 1) := by decide +kernel
theorem d_Mo_witness_42 : decode b_Mo_witness 42 = .ok (.iload_n 3, 1) := by decide +kernel
theorem d_Mo_witness_43 : decode b_Mo_witness 43 = .ok (.invokevirtual 155, 3) := by decide +kernel
theorem d_Mo_witness_46 : decode b_Mo_witness 46 = .ok (.ifCond .eq 10, 3) := by decide +kernel
theorem d_Mo_witness_49 : decode b_Mo_witness 49 = .ok (.bipush 64, 2) := by decide +kernel
theorem d_Mo_witness_51 : decode b_Mo_witness 51 = .ok (.iload_n 2, 1) := by decide +kernel
theorem d_Mo_witness_52 : decode b_Mo_witness 52 = .ok (.imul, 1) := by decide +kernel
theorem d_Mo_witness_53 : decode b_Mo_witness 53 = .ok (.iload_n 3, 1) := by decide +kernel
theorem d_Mo_witness_54 : decode b_Mo_witness 54 = .ok (.iadd, 1) := by decide +kernel
theorem d_Mo_witness_55 : decode b_Mo_witness 55 = .ok (.ireturn, 1) := by decide +kernel
theorem d_Mo_witness_56 : decode b_Mo_witness 56 = .ok (.iinc 3 1, 3) := by decide +kernel
theorem d_Mo_witness_59 : decode b_Mo_witness 59 = .ok (.goto (-28), 3) := by decide +kernel
theorem d_Mo_witness_62 : decode b_Mo_witness 62 = .ok (.iinc 2 1, 3) := by decide +kernel
theorem d_Mo_witness_65 : decode b_Mo_witness 65 = .ok (.goto (-44), 3) := by decide +kernel
theorem d_Mo_witness_68 : decode b_Mo_witness 68 = .ok (.iconst (-1), 1) := by decide +kernel
theorem d_Mo_witness_69 : decode b_Mo_witness 69 = .ok (.ireturn, 1) := by decide +kernel
theorem d_Mo_against_0 : decode b_Mo_against 0 = .ok (.iload_n 1, 1) := by decide +kernel
theorem d_Mo_against_1 : decode b_Mo_against 1 = .ok (.lookupswitch 110 #[(0, 35), (1, 66), (5, 87)], 35) := by decide +kernel
theorem d_Mo_against_36 : decode b_Mo_against 36 = .ok (.aload_n 0, 1) := by decide +kernel
theorem d_Mo_against_37 : decode b_Mo_against 37 = .ok (.getfield 48, 3) := by decide +kernel
theorem d_Mo_against_40 : decode b_Mo_against 40 = .ok (.bipush 60, 2) := by decide +kernel
theorem d_Mo_against_42 : decode b_Mo_against 42 = .ok (.iload_n 2, 1) := by decide +kernel
theorem d_Mo_against_43 : decode b_Mo_against 43 = .ok (.imul, 1) := by decide +kernel
theorem d_Mo_against_44 : decode b_Mo_against 44 = .ok (.iload_n 3, 1) := by decide +kernel
theorem d_Mo_against_45 : decode b_Mo_against 45 = .ok (.iadd, 1) := by decide +kernel
theorem d_Mo_against_46 : decode b_Mo_against 46 = .ok (.iaload, 1) := by decide +kernel
theorem d_Mo_against_47 : decode b_Mo_against 47 = .ok (.aload_n 0, 1) := by decide +kernel
theorem d_Mo_against_48 : decode b_Mo_against 48 = .ok (.getfield 48, 3) := by decide +kernel
theorem d_Mo_against_51 : decode b_Mo_against 51 = .ok (.bipush 60, 2) := by decide +kernel
theorem d_Mo_against_53 : decode b_Mo_against 53 = .ok (.iload_n 3, 1) := by decide +kernel
theorem d_Mo_against_54 : decode b_Mo_against 54 = .ok (.imul, 1) := by decide +kernel
theorem d_Mo_against_55 : decode b_Mo_against 55 = .ok (.iload_n 2, 1) := by decide +kernel
theorem d_Mo_against_56 : decode b_Mo_against 56 = .ok (.iadd, 1) := by decide +kernel
theorem d_Mo_against_57 : decode b_Mo_against 57 = .ok (.iaload, 1) := by decide +kernel
theorem d_Mo_against_58 : decode b_Mo_against 58 = .ok (.if_icmp .eq 7, 3) := by decide +kernel
theorem d_Mo_against_61 : decode b_Mo_against 61 = .ok (.iconst 1, 1) := by decide +kernel
theorem d_Mo_against_62 : decode b_Mo_against 62 = .ok (.goto 4, 3) := by decide +kernel
theorem d_Mo_against_65 : decode b_Mo_against 65 = .ok (.iconst 0, 1) := by decide +kernel
theorem d_Mo_against_66 : decode b_Mo_against 66 = .ok (.ireturn, 1) := by decide +kernel
theorem d_Mo_against_67 : decode b_Mo_against 67 = .ok (.iload_n 2, 1) := by decide +kernel
theorem d_Mo_against_68 : decode b_Mo_against 68 = .ok (.iload_n 3, 1) := by decide +kernel
theorem d_Mo_against_69 : decode b_Mo_against 69 = .ok (.if_icmp .eq 17, 3) := by decide +kernel
theorem d_Mo_against_72 : decode b_Mo_against 72 = .ok (.aload_n 0, 1) := by decide +kernel
theorem d_Mo_against_73 : decode b_Mo_against 73 = .ok (.iconst 3, 1) := by decide +kernel
theorem d_Mo_against_74 : decode b_Mo_against 74 = .ok (.iload_n 2, 1) := by decide +kernel
theorem d_Mo_against_75 : decode b_Mo_against 75 = .ok (.iload_n 3, 1) := by decide +kernel
theorem d_Mo_against_76 : decode b_Mo_against 76 = .ok (.invokevirtual 151, 3) := by decide +kernel
theorem d_Mo_against_79 : decode b_Mo_against 79 = .ok (.ifCond .eq 7, 3) := by decide +kernel
theorem d_Mo_against_82 : decode b_Mo_against 82 = .ok (.iconst 1, 1) := by decide +kernel
theorem d_Mo_against_83 : decode b_Mo_against 83 = .ok (.goto 4, 3) := by decide +kernel
theorem d_Mo_against_86 : decode b_Mo_against 86 = .ok (.iconst 0, 1) := by decide +kernel
theorem d_Mo_against_87 : decode b_Mo_against 87 = .ok (.ireturn, 1) := by decide +kernel
theorem d_Mo_against_88 : decode b_Mo_against 88 = .ok (.iload_n 2, 1) := by decide +kernel
theorem d_Mo_against_89 : decode b_Mo_against 89 = .ok (.iload_n 3, 1) := by decide +kernel
theorem d_Mo_against_90 : decode b_Mo_against 90 = .ok (.if_icmp .ne 19, 3) := by decide +kernel
theorem d_Mo_against_93 : decode b_Mo_against 93 = .ok (.aload_n 0, 1) := by decide +kernel
theorem d_Mo_against_94 : decode b_Mo_against 94 = .ok (.iload_n 2, 1) := by decide +kernel
theorem d_Mo_against_95 : decode b_Mo_against 95 = .ok (.invokevirtual 141, 3) := by decide +kernel
theorem d_Mo_against_98 : decode b_Mo_against 98 = .ok (.lconst 1, 1) := by decide +kernel
theorem d_Mo_against_99 : decode b_Mo_against 99 = .ok (.land, 1) := by decide +kernel
theorem d_Mo_against_100 : decode b_Mo_against 100 = .ok (.lconst 0, 1) := by decide +kernel
theorem d_Mo_against_101 : decode b_Mo_against 101 = .ok (.lcmp, 1) := by decide +kernel
theorem d_Mo_against_102 : decode b_Mo_against 102 = .ok (.ifCond .ne 7, 3) := by decide +kernel
theorem d_Mo_against_105 : decode b_Mo_against 105 = .ok (.iconst 1, 1) := by decide +kernel
theorem d_Mo_against_106 : decode b_Mo_against 106 = .ok (.goto 4, 3) := by decide +kernel
theorem d_Mo_against_109 : decode b_Mo_against 109 = .ok (.iconst 0, 1) := by decide +kernel
theorem d_Mo_against_110 : decode b_Mo_against 110 = .ok (.ireturn, 1) := by decide +kernel
theorem d_Mo_against_111 : decode b_Mo_against 111 = .ok (.iload_n 2, 1) := by decide +kernel
theorem d_Mo_against_112 : decode b_Mo_against 112 = .ok (.iload_n 3, 1) := by decide +kernel
theorem d_Mo_against_113 : decode b_Mo_against 113 = .ok (.if_icmp .eq 19, 3) := by decide +kernel
theorem d_Mo_against_116 : decode b_Mo_against 116 = .ok (.aload_n 0, 1) := by decide +kernel
theorem d_Mo_against_117 : decode b_Mo_against 117 = .ok (.iload_n 1, 1) := by decide +kernel
theorem d_Mo_against_118 : decode b_Mo_against 118 = .ok (.iconst 2, 1) := by decide +kernel
theorem d_Mo_against_119 : decode b_Mo_against 119 = .ok (.isub, 1) := by decide +kernel
theorem d_Mo_against_120 : decode b_Mo_against 120 = .ok (.iload_n 2, 1) := by decide +kernel
theorem d_Mo_against_121 : decode b_Mo_against 121 = .ok (.iload_n 3, 1) := by decide +kernel
theorem d_Mo_against_122 : decode b_Mo_against 122 = .ok (.invokevirtual 151, 3) := by decide +kernel
theorem d_Mo_against_125 : decode b_Mo_against 125 = .ok (.ifCond .eq 7, 3) := by decide +kernel
theorem d_Mo_against_128 : decode b_Mo_against 128 = .ok (.iconst 1, 1) := by decide +kernel
theorem d_Mo_against_129 : decode b_Mo_against 129 = .ok (.goto 4, 3) := by decide +kernel
theorem d_Mo_against_132 : decode b_Mo_against 132 = .ok (.iconst 0, 1) := by decide +kernel
theorem d_Mo_against_133 : decode b_Mo_against 133 = .ok (.ireturn, 1) := by decide +kernel
