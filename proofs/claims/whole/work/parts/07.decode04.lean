theorem d_LA_witness_0 : decode b_LA_witness 0 = .ok (.iload_n 1, 1) := by decide +kernel
theorem d_LA_witness_1 : decode b_LA_witness 1 = .ok (.ifCond .lt 18, 3) := by decide +kernel
theorem d_LA_witness_4 : decode b_LA_witness 4 = .ok (.iload_n 1, 1) := by decide +kernel
theorem d_LA_witness_5 : decode b_LA_witness 5 = .ok (.iconst 5, 1) := by decide +kernel
theorem d_LA_witness_6 : decode b_LA_witness 6 = .ok (.if_icmp .gt 13, 3) := by decide +kernel
theorem d_LA_witness_9 : decode b_LA_witness 9 = .ok (.aload_n 0, 1) := by decide +kernel
theorem d_LA_witness_10 : decode b_LA_witness 10 = .ok (.getfield 25, 3) := by decide +kernel
theorem d_LA_witness_13 : decode b_LA_witness 13 = .ok (.invokevirtual 86, 3) := by decide +kernel
theorem d_LA_witness_16 : decode b_LA_witness 16 = .ok (.ifCond .ne 6, 3) := by decide +kernel
theorem d_LA_witness_19 : decode b_LA_witness 19 = .ok (.bipush (-2), 2) := by decide +kernel
theorem d_LA_witness_21 : decode b_LA_witness 21 = .ok (.ireturn, 1) := by decide +kernel
theorem d_LA_witness_22 : decode b_LA_witness 22 = .ok (.iconst 0, 1) := by decide +kernel
theorem d_LA_witness_23 : decode b_LA_witness 23 = .ok (.istore_n 2, 1) := by decide +kernel
theorem d_LA_witness_24 : decode b_LA_witness 24 = .ok (.iload_n 2, 1) := by decide +kernel
theorem d_LA_witness_25 : decode b_LA_witness 25 = .ok (.aload_n 0, 1) := by decide +kernel
theorem d_LA_witness_26 : decode b_LA_witness 26 = .ok (.getfield 25, 3) := by decide +kernel
theorem d_LA_witness_29 : decode b_LA_witness 29 = .ok (.getfield 85, 3) := by decide +kernel
theorem d_LA_witness_32 : decode b_LA_witness 32 = .ok (.if_icmp .ge 48, 3) := by decide +kernel
theorem d_LA_witness_35 : decode b_LA_witness 35 = .ok (.iconst 0, 1) := by decide +kernel
theorem d_LA_witness_36 : decode b_LA_witness 36 = .ok (.istore_n 3, 1) := by decide +kernel
theorem d_LA_witness_37 : decode b_LA_witness 37 = .ok (.iload_n 3, 1) := by decide +kernel
theorem d_LA_witness_38 : decode b_LA_witness 38 = .ok (.aload_n 0, 1) := by decide +kernel
theorem d_LA_witness_39 : decode b_LA_witness 39 = .ok (.getfield 25, 3) := by decide +kernel
theorem d_LA_witness_42 : decode b_LA_witness 42 = .ok (.getfield 85, 3) := by decide +kernel
theorem d_LA_witness_45 : decode b_LA_witness 45 = .ok (.if_icmp .ge 29, 3) := by decide +kernel
theorem d_LA_witness_48 : decode b_LA_witness 48 = .ok (.aload_n 0, 1) := by decide +kernel
theorem d_LA_witness_49 : decode b_LA_witness 49 = .ok (.getfield 25, 3) := by decide +kernel
theorem d_LA_witness_52 : decode b_LA_witness 52 = .ok (.iload_n 1, 1) := by decide +kernel
theorem d_LA_witness_53 : decode b_LA_witness 53 = .ok (.iload_n 2, 1) := by decide +kernel
theorem d_LA_witness_54 : decode b_LA_witness 54 = .ok (.iload_n 3, 1) := by decide +kernel
theorem d_LA_witness_55 : decode b_LA_witness 55 = .ok (.invokevirtual 113, 3) := by decide +kernel
theorem d_LA_witness_58 : decode b_LA_witness 58 = .ok (.ifCond .eq 10, 3) := by decide +kernel
theorem d_LA_witness_61 : decode b_LA_witness 61 = .ok (.bipush 64, 2) := by decide +kernel
theorem d_LA_witness_63 : decode b_LA_witness 63 = .ok (.iload_n 2, 1) := by decide +kernel
theorem d_LA_witness_64 : decode b_LA_witness 64 = .ok (.imul, 1) := by decide +kernel
theorem d_LA_witness_65 : decode b_LA_witness 65 = .ok (.iload_n 3, 1) := by decide +kernel
theorem d_LA_witness_66 : decode b_LA_witness 66 = .ok (.iadd, 1) := by decide +kernel
theorem d_LA_witness_67 : decode b_LA_witness 67 = .ok (.ireturn, 1) := by decide +kernel
theorem d_LA_witness_68 : decode b_LA_witness 68 = .ok (.iinc 3 1, 3) := by decide +kernel
theorem d_LA_witness_71 : decode b_LA_witness 71 = .ok (.goto (-34), 3) := by decide +kernel
theorem d_LA_witness_74 : decode b_LA_witness 74 = .ok (.iinc 2 1, 3) := by decide +kernel
theorem d_LA_witness_77 : decode b_LA_witness 77 = .ok (.goto (-53), 3) := by decide +kernel
theorem d_LA_witness_80 : decode b_LA_witness 80 = .ok (.iconst (-1), 1) := by decide +kernel
theorem d_LA_witness_81 : decode b_LA_witness 81 = .ok (.ireturn, 1) := by decide +kernel
theorem d_Al_isAgainst_0 : decode b_Al_isAgainst 0 = .ok (.iload_n 1, 1) := by decide +kernel
theorem d_Al_isAgainst_1 : decode b_Al_isAgainst 1 = .ok (.tableswitch 168 0 5 #[39, 60, 81, 102, 123, 144], 39) := by decide +kernel
theorem d_Al_isAgainst_40 : decode b_Al_isAgainst 40 = .ok (.aload_n 0, 1) := by decide +kernel
theorem d_Al_isAgainst_41 : decode b_Al_isAgainst 41 = .ok (.iload_n 2, 1) := by decide +kernel
theorem d_Al_isAgainst_42 : decode b_Al_isAgainst 42 = .ok (.iload_n 3, 1) := by decide +kernel
theorem d_Al_isAgainst_43 : decode b_Al_isAgainst 43 = .ok (.invokevirtual 72, 3) := by decide +kernel
theorem d_Al_isAgainst_46 : decode b_Al_isAgainst 46 = .ok (.aload_n 0, 1) := by decide +kernel
theorem d_Al_isAgainst_47 : decode b_Al_isAgainst 47 = .ok (.iload_n 3, 1) := by decide +kernel
theorem d_Al_isAgainst_48 : decode b_Al_isAgainst 48 = .ok (.iload_n 2, 1) := by decide +kernel
theorem d_Al_isAgainst_49 : decode b_Al_isAgainst 49 = .ok (.invokevirtual 72, 3) := by decide +kernel
theorem d_Al_isAgainst_52 : decode b_Al_isAgainst 52 = .ok (.if_icmp .eq 7, 3) := by decide +kernel
theorem d_Al_isAgainst_55 : decode b_Al_isAgainst 55 = .ok (.iconst 1, 1) := by decide +kernel
theorem d_Al_isAgainst_56 : decode b_Al_isAgainst 56 = .ok (.goto 4, 3) := by decide +kernel
theorem d_Al_isAgainst_59 : decode b_Al_isAgainst 59 = .ok (.iconst 0, 1) := by decide +kernel
theorem d_Al_isAgainst_60 : decode b_Al_isAgainst 60 = .ok (.ireturn, 1) := by decide +kernel
theorem d_Al_isAgainst_61 : decode b_Al_isAgainst 61 = .ok (.iload_n 2, 1) := by decide +kernel
theorem d_Al_isAgainst_62 : decode b_Al_isAgainst 62 = .ok (.iload_n 3, 1) := by decide +kernel
theorem d_Al_isAgainst_63 : decode b_Al_isAgainst 63 = .ok (.if_icmp .eq 17, 3) := by decide +kernel
theorem d_Al_isAgainst_66 : decode b_Al_isAgainst 66 = .ok (.aload_n 0, 1) := by decide +kernel
theorem d_Al_isAgainst_67 : decode b_Al_isAgainst 67 = .ok (.iconst 3, 1) := by decide +kernel
theorem d_Al_isAgainst_68 : decode b_Al_isAgainst 68 = .ok (.iload_n 2, 1) := by decide +kernel
theorem d_Al_isAgainst_69 : decode b_Al_isAgainst 69 = .ok (.iload_n 3, 1) := by decide +kernel
theorem d_Al_isAgainst_70 : decode b_Al_isAgainst 70 = .ok (.invokevirtual 79, 3) := by decide +kernel
theorem d_Al_isAgainst_73 : decode b_Al_isAgainst 73 = .ok (.ifCond .eq 7, 3) := by decide +kernel
theorem d_Al_isAgainst_76 : decode b_Al_isAgainst 76 = .ok (.iconst 1, 1) := by decide +kernel
theorem d_Al_isAgainst_77 : decode b_Al_isAgainst 77 = .ok (.goto 4, 3) := by decide +kernel
theorem d_Al_isAgainst_80 : decode b_Al_isAgainst 80 = .ok (.iconst 0, 1) := by decide +kernel
theorem d_Al_isAgainst_81 : decode b_Al_isAgainst 81 = .ok (.ireturn, 1) := by decide +kernel
theorem d_Al_isAgainst_82 : decode b_Al_isAgainst 82 = .ok (.iload_n 2, 1) := by decide +kernel
theorem d_Al_isAgainst_83 : decode b_Al_isAgainst 83 = .ok (.iload_n 3, 1) := by decide +kernel
theorem d_Al_isAgainst_84 : decode b_Al_isAgainst 84 = .ok (.if_icmp .eq 17, 3) := by decide +kernel
theorem d_Al_isAgainst_87 : decode b_Al_isAgainst 87 = .ok (.aload_n 0, 1) := by decide +kernel
theorem d_Al_isAgainst_88 : decode b_Al_isAgainst 88 = .ok (.iconst 0, 1) := by decide +kernel
theorem d_Al_isAgainst_89 : decode b_Al_isAgainst 89 = .ok (.iload_n 2, 1) := by decide +kernel
theorem d_Al_isAgainst_90 : decode b_Al_isAgainst 90 = .ok (.iload_n 3, 1) := by decide +kernel
theorem d_Al_isAgainst_91 : decode b_Al_isAgainst 91 = .ok (.invokevirtual 79, 3) := by decide +kernel
theorem d_Al_isAgainst_94 : decode b_Al_isAgainst 94 = .ok (.ifCond .eq 7, 3) := by decide +kernel
theorem d_Al_isAgainst_97 : decode b_Al_isAgainst 97 = .ok (.iconst 1, 1) := by decide +kernel
theorem d_Al_isAgainst_98 : decode b_Al_isAgainst 98 = .ok (.goto 4, 3) := by decide +kernel
theorem d_Al_isAgainst_101 : decode b_Al_isAgainst 101 = .ok (.iconst 0, 1) := by decide +kernel
theorem d_Al_isAgainst_102 : decode b_Al_isAgainst 102 = .ok (.ireturn, 1) := by decide +kernel
theorem d_Al_isAgainst_103 : decode b_Al_isAgainst 103 = .ok (.iload_n 2, 1) := by decide +kernel
theorem d_Al_isAgainst_104 : decode b_Al_isAgainst 104 = .ok (.iload_n 3, 1) := by decide +kernel
theorem d_Al_isAgainst_105 : decode b_Al_isAgainst 105 = .ok (.if_icmp .eq 17, 3) := by decide +kernel
theorem d_Al_isAgainst_108 : decode b_Al_isAgainst 108 = .ok (.aload_n 0, 1) := by decide +kernel
theorem d_Al_isAgainst_109 : decode b_Al_isAgainst 109 = .ok (.iconst 1, 1) := by decide +kernel
theorem d_Al_isAgainst_110 : decode b_Al_isAgainst 110 = .ok (.iload_n 2, 1) := by decide +kernel
theorem d_Al_isAgainst_111 : decode b_Al_isAgainst 111 = .ok (.iload_n 3, 1) := by decide +kernel
theorem d_Al_isAgainst_112 : decode b_Al_isAgainst 112 = .ok (.invokevirtual 79, 3) := by decide +kernel
theorem d_Al_isAgainst_115 : decode b_Al_isAgainst 115 = .ok (.ifCond .eq 7, 3) := by decide +kernel
theorem d_Al_isAgainst_118 : decode b_Al_isAgainst 118 = .ok (.iconst 1, 1) := by decide +kernel
theorem d_Al_isAgainst_119 : decode b_Al_isAgainst 119 = .ok (.goto 4, 3) := by decide +kernel
theorem d_Al_isAgainst_122 : decode b_Al_isAgainst 122 = .ok (.iconst 0, 1) := by decide +kernel
theorem d_Al_isAgainst_123 : decode b_Al_isAgainst 123 = .ok (.ireturn, 1) := by decide +kernel
theorem d_Al_isAgainst_124 : decode b_Al_isAgainst 124 = .ok (.iload_n 2, 1) := by decide +kernel
theorem d_Al_isAgainst_125 : decode b_Al_isAgainst 125 = .ok (.iload_n 3, 1) := by decide +kernel
theorem d_Al_isAgainst_126 : decode b_Al_isAgainst 126 = .ok (.if_icmp .eq 17, 3) := by decide +kernel
theorem d_Al_isAgainst_129 : decode b_Al_isAgainst 129 = .ok (.aload_n 0, 1) := by decide +kernel
theorem d_Al_isAgainst_130 : decode b_Al_isAgainst 130 = .ok (.iconst 2, 1) := by decide +kernel
theorem d_Al_isAgainst_131 : decode b_Al_isAgainst 131 = .ok (.iload_n 2, 1) := by decide +kernel
theorem d_Al_isAgainst_132 : decode b_Al_isAgainst 132 = .ok (.iload_n 3, 1) := by decide +kernel
theorem d_Al_isAgainst_133 : decode b_Al_isAgainst 133 = .ok (.invokevirtual 79, 3) := by decide +kernel
theorem d_Al_isAgainst_136 : decode b_Al_isAgainst 136 = .ok (.ifCond .eq 7, 3) := by decide +kernel
theorem d_Al_isAgainst_139 : decode b_Al_isAgainst 139 = .ok (.iconst 1, 1) := by decide +kernel
theorem d_Al_isAgainst_140 : decode b_Al_isAgainst 140 = .ok (.goto 4, 3) := by decide +kernel
theorem d_Al_isAgainst_143 : decode b_Al_isAgainst 143 = .ok (.iconst 0, 1) := by decide +kernel
theorem d_Al_isAgainst_144 : decode b_Al_isAgainst 144 = .ok (.ireturn, 1) := by decide +kernel
theorem d_Al_isAgainst_145 : decode b_Al_isAgainst 145 = .ok (.iload_n 2, 1) := by decide +kernel
theorem d_Al_isAgainst_146 : decode b_Al_isAgainst 146 = .ok (.iload_n 3, 1) := by decide +kernel
theorem d_Al_isAgainst_147 : decode b_Al_isAgainst 147 = .ok (.if_icmp .ne 20, 3) := by decide +kernel
theorem d_Al_isAgainst_150 : decode b_Al_isAgainst 150 = .ok (.aload_n 0, 1) := by decide +kernel
theorem d_Al_isAgainst_151 : decode b_Al_isAgainst 151 = .ok (.getfield 31, 3) := by decide +kernel
theorem d_Al_isAgainst_154 : decode b_Al_isAgainst 154 = .ok (.iload_n 2, 1) := by decide +kernel
theorem d_Al_isAgainst_155 : decode b_Al_isAgainst 155 = .ok (.laload, 1) := by decide +kernel
theorem d_Al_isAgainst_156 : decode b_Al_isAgainst 156 = .ok (.lconst 1, 1) := by decide +kernel
theorem d_Al_isAgainst_157 : decode b_Al_isAgainst 157 = .ok (.land, 1) := by decide +kernel
theorem d_Al_isAgainst_158 : decode b_Al_isAgainst 158 = .ok (.lconst 0, 1) := by decide +kernel
theorem d_Al_isAgainst_159 : decode b_Al_isAgainst 159 = .ok (.lcmp, 1) := by decide +kernel
theorem d_Al_isAgainst_160 : decode b_Al_isAgainst 160 = .ok (.ifCond .ne 7, 3) := by decide +kernel
theorem d_Al_isAgainst_163 : decode b_Al_isAgainst 163 = .ok (.iconst 1, 1) := by decide +kernel
theorem d_Al_isAgainst_164 : decode b_Al_isAgainst 164 = .ok (.goto 4, 3) := by decide +kernel
theorem d_Al_isAgainst_167 : decode b_Al_isAgainst 167 = .ok (.iconst 0, 1) := by decide +kernel
theorem d_Al_isAgainst_168 : decode b_Al_isAgainst 168 = .ok (.ireturn, 1) := by decide +kernel
theorem d_Al_isAgainst_169 : decode b_Al_isAgainst 169 = .ok (.iconst 0, 1) := by decide +kernel
theorem d_Al_isAgainst_170 : decode b_Al_isAgainst 170 = .ok (.ireturn, 1) := by decide +kernel
theorem d_Mo_init_0 : decode b_Mo_init 0 = .ok (.aload_n 0, 1) := by decide +kernel
theorem d_Mo_init_1 : decode b_Mo_init 1 = .ok (.invokespecial 1, 3) := by decide +kernel
theorem d_Mo_init_4 : decode b_Mo_init 4 = .ok (.aload_n 0, 1) := by decide +kernel
theorem d_Mo_init_5 : decode b_Mo_init 5 = .ok (.bipush 12, 2) := by decide +kernel
theorem d_Mo_init_7 : decode b_Mo_init 7 = .ok (.newarray .int, 2) := by decide +kernel
theorem d_Mo_init_9 : decode b_Mo_init 9 = .ok (.putfield 7, 3) := by decide +kernel
theorem d_Mo_init_12 : decode b_Mo_init 12 = .ok (.aload_n 0, 1) := by decide +kernel
theorem d_Mo_init_13 : decode b_Mo_init 13 = .ok (.sipush 144, 3) := by decide +kernel
theorem d_Mo_init_16 : decode b_Mo_init 16 = .ok (.newarray .int, 2) := by decide +kernel
theorem d_Mo_init_18 : decode b_Mo_init 18 = .ok (.putfield 13, 3) := by decide +kernel
theorem d_Mo_init_21 : decode b_Mo_init 21 = .ok (.aload_n 0, 1) := by decide +kernel
theorem d_Mo_init_22 : decode b_Mo_init 22 = .ok (.bipush 12, 2) := by decide +kernel
theorem d_Mo_init_24 : decode b_Mo_init 24 = .ok (.newarray .int, 2) := by decide +kernel
theorem d_Mo_init_26 : decode b_Mo_init 26 = .ok (.putfield 16, 3) := by decide +kernel
theorem d_Mo_init_29 : decode b_Mo_init 29 = .ok (.aload_n 0, 1) := by decide +kernel
theorem d_Mo_init_30 : decode b_Mo_init 30 = .ok (.sipush 384, 3) := by decide +kernel
theorem d_Mo_init_33 : decode b_Mo_init 33 = .ok (.newarray .long, 2) := by decide +kernel
theorem d_Mo_init_35 : decode b_Mo_init 35 = .ok (.putfield 19, 3) := by decide +kernel
theorem d_Mo_init_38 : decode b_Mo_init 38 = .ok (.aload_n 0, 1) := by decide +kernel
theorem d_Mo_init_39 : decode b_Mo_init 39 = .ok (.sipush 384, 3) := by decide +kernel
theorem d_Mo_init_42 : decode b_Mo_init 42 = .ok (.newarray .long, 2) := by decide +kernel
theorem d_Mo_init_44 : decode b_Mo_init 44 = .ok (.putfield 23, 3) := by decide +kernel
theorem d_Mo_init_47 : decode b_Mo_init 47 = .ok (.aload_n 0, 1) := by decide +kernel
theorem d_Mo_init_48 : decode b_Mo_init 48 = .ok (.bipush 7, 2) := by decide +kernel
theorem d_Mo_init_50 : decode b_Mo_init 50 = .ok (.newarray .int, 2) := by decide +kernel
theorem d_Mo_init_52 : decode b_Mo_init 52 = .ok (.putfield 26, 3) := by decide +kernel
theorem d_Mo_init_55 : decode b_Mo_init 55 = .ok (.aload_n 0, 1) := by decide +kernel
theorem d_Mo_init_56 : decode b_Mo_init 56 = .ok (.sipush 384, 3) := by decide +kernel
theorem d_Mo_init_59 : decode b_Mo_init 59 = .ok (.newarray .int, 2) := by decide +kernel
theorem d_Mo_init_61 : decode b_Mo_init 61 = .ok (.putfield 29, 3) := by decide +kernel
theorem d_Mo_init_64 : decode b_Mo_init 64 = .ok (.aload_n 0, 1) := by decide +kernel
theorem d_Mo_init_65 : decode b_Mo_init 65 = .ok (.sipush 384, 3) := by decide +kernel
theorem d_Mo_init_68 : decode b_Mo_init 68 = .ok (.newarray .boolean, 2) := by decide +kernel
theorem d_Mo_init_70 : decode b_Mo_init 70 = .ok (.putfield 32, 3) := by decide +kernel
theorem d_Mo_init_73 : decode b_Mo_init 73 = .ok (.aload_n 0, 1) := by decide +kernel
theorem d_Mo_init_74 : decode b_Mo_init 74 = .ok (.bipush 60, 2) := by decide +kernel
theorem d_Mo_init_76 : decode b_Mo_init 76 = .ok (.newarray .int, 2) := by decide +kernel
theorem d_Mo_init_78 : decode b_Mo_init 78 = .ok (.putfield 36, 3) := by decide +kernel
theorem d_Mo_init_81 : decode b_Mo_init 81 = .ok (.aload_n 0, 1) := by decide +kernel
theorem d_Mo_init_82 : decode b_Mo_init 82 = .ok (.bipush 60, 2) := by decide +kernel
theorem d_Mo_init_84 : decode b_Mo_init 84 = .ok (.newarray .long, 2) := by decide +kernel
theorem d_Mo_init_86 : decode b_Mo_init 86 = .ok (.putfield 39, 3) := by decide +kernel
theorem d_Mo_init_89 : decode b_Mo_init 89 = .ok (.aload_n 0, 1) := by decide +kernel
theorem d_Mo_init_90 : decode b_Mo_init 90 = .ok (.bipush 61, 2) := by decide +kernel
theorem d_Mo_init_92 : decode b_Mo_init 92 = .ok (.newarray .int, 2) := by decide +kernel
theorem d_Mo_init_94 : decode b_Mo_init 94 = .ok (.putfield 42, 3) := by decide +kernel
theorem d_Mo_init_97 : decode b_Mo_init 97 = .ok (.aload_n 0, 1) := by decide +kernel
theorem d_Mo_init_98 : decode b_Mo_init 98 = .ok (.bipush 61, 2) := by decide +kernel
theorem d_Mo_init_100 : decode b_Mo_init 100 = .ok (.newarray .long, 2) := by decide +kernel
theorem d_Mo_init_102 : decode b_Mo_init 102 = .ok (.putfield 45, 3) := by decide +kernel
theorem d_Mo_init_105 : decode b_Mo_init 105 = .ok (.aload_n 0, 1) := by decide +kernel
theorem d_Mo_init_106 : decode b_Mo_init 106 = .ok (.sipush 3600, 3) := by decide +kernel
theorem d_Mo_init_109 : decode b_Mo_init 109 = .ok (.newarray .int, 2) := by decide +kernel
theorem d_Mo_init_111 : decode b_Mo_init 111 = .ok (.putfield 48, 3) := by decide +kernel
theorem d_Mo_init_114 : decode b_Mo_init 114 = .ok (.return_, 1) := by decide +kernel
theorem d_Mo_basic_0 : decode b_Mo_basic 0 = .ok (.iload_n 1, 1) := by decide +kernel
theorem d_Mo_basic_1 : decode b_Mo_basic 1 = .ok (.ifCond .lt 8, 3) := by decide +kernel
theorem d_Mo_basic_4 : decode b_Mo_basic 4 = .ok (.iload_n 1, 1) := by decide +kernel
theorem d_Mo_basic_5 : decode b_Mo_basic 5 = .ok (.iconst 3, 1) := by decide +kernel
theorem d_Mo_basic_6 : decode b_Mo_basic 6 = .ok (.if_icmp .le 7, 3) := by decide +kernel
theorem d_Mo_basic_9 : decode b_Mo_basic 9 = .ok (.iconst (-1), 1) := by decide +kernel
theorem d_Mo_basic_10 : decode b_Mo_basic 10 = .ok (.goto 10, 3) := by decide +kernel
theorem d_Mo_basic_13 : decode b_Mo_basic 13 = .ok (.aload_n 0, 1) := by decide +kernel
theorem d_Mo_basic_14 : decode b_Mo_basic 14 = .ok (.iconst 0, 1) := by decide +kernel
theorem d_Mo_basic_15 : decode b_Mo_basic 15 = .ok (.iload_n 1, 1) := by decide +kernel
theorem d_Mo_basic_16 : decode b_Mo_basic 16 = .ok (.iconst 0, 1) := by decide +kernel
theorem d_Mo_basic_17 : decode b_Mo_basic 17 = .ok (.invokevirtual 102, 3) := by decide +kernel
theorem d_Mo_basic_20 : decode b_Mo_basic 20 = .ok (.ireturn, 1) := by decide +kernel
theorem d_Mo_make_0 : decode b_Mo_make 0 = .ok (.aload_n 0, 1) := by decide +kernel
theorem d_Mo_make_1 : decode b_Mo_make 1 = .ok (.getfield 51, 3) := by decide +kernel
theorem d_Mo_make_4 : decode b_Mo_make 4 = .ok (.bipush 12, 2) := by decide +kernel
theorem d_Mo_make_6 : decode b_Mo_make 6 = .ok (.if_icmp .lt 6, 3) := by decide +kernel
theorem d_Mo_make_9 : decode b_Mo_make 9 = .ok (.bipush (-2), 2) := by decide +kernel
theorem d_Mo_make_11 : decode b_Mo_make 11 = .ok (.ireturn, 1) := by decide +kernel
theorem d_Mo_make_12 : decode b_Mo_make 12 = .ok (.aload_n 0, 1) := by decide +kernel
theorem d_Mo_make_13 : decode b_Mo_make 13 = .ok (.iload_n 1, 1) := by decide +kernel
theorem d_Mo_make_14 : decode b_Mo_make 14 = .ok (.putfield 59, 3) := by decide +kernel
theorem d_Mo_make_17 : decode b_Mo_make 17 = .ok (.aload_n 0, 1) := by decide +kernel
theorem d_Mo_make_18 : decode b_Mo_make 18 = .ok (.iload_n 2, 1) := by decide +kernel
theorem d_Mo_make_19 : decode b_Mo_make 19 = .ok (.putfield 62, 3) := by decide +kernel
theorem d_Mo_make_22 : decode b_Mo_make 22 = .ok (.aload_n 0, 1) := by decide +kernel
theorem d_Mo_make_23 : decode b_Mo_make 23 = .ok (.iload_n 3, 1) := by decide +kernel
theorem d_Mo_make_24 : decode b_Mo_make 24 = .ok (.putfield 69, 3) := by decide +kernel
theorem d_Mo_make_27 : decode b_Mo_make 27 = .ok (.aload_n 0, 1) := by decide +kernel
theorem d_Mo_make_28 : decode b_Mo_make 28 = .ok (.invokevirtual 96, 3) := by decide +kernel
theorem d_Mo_make_31 : decode b_Mo_make 31 = .ok (.aload_n 0, 1) := by decide +kernel
theorem d_Mo_make_32 : decode b_Mo_make 32 = .ok (.invokevirtual 99, 3) := by decide +kernel
theorem d_Mo_make_35 : decode b_Mo_make 35 = .ok (.bipush 6, 2) := by decide +kernel
theorem d_Mo_make_37 : decode b_Mo_make 37 = .ok (.if_icmp .le 6, 3) := by decide +kernel
theorem d_Mo_make_40 : decode b_Mo_make 40 = .ok (.bipush (-3), 2) := by decide +kernel
theorem d_Mo_make_42 : decode b_Mo_make 42 = .ok (.ireturn, 1) := by decide +kernel
theorem d_Mo_make_43 : decode b_Mo_make 43 = .ok (.iconst 1, 1) := by decide +kernel
theorem d_Mo_make_44 : decode b_Mo_make 44 = .ok (.istore 4, 2) := by decide +kernel
theorem d_Mo_make_46 : decode b_Mo_make 46 = .ok (.aload_n 0, 1) := by decide +kernel
theorem d_Mo_make_47 : decode b_Mo_make 47 = .ok (.getfield 26, 3) := by decide +kernel
theorem d_Mo_make_50 : decode b_Mo_make 50 = .ok (.iconst 0, 1) := by decide +kernel
theorem d_Mo_make_51 : decode b_Mo_make 51 = .ok (.aload_n 0, 1) := by decide +kernel
theorem d_Mo_make_52 : decode b_Mo_make 52 = .ok (.invokevirtual 93, 3) := by decide +kernel
theorem d_Mo_make_55 : decode b_Mo_make 55 = .ok (.iastore, 1) := by decide +kernel
theorem d_Mo_make_56 : decode b_Mo_make 56 = .ok (.iconst 0, 1) := by decide +kernel
theorem d_Mo_make_57 : decode b_Mo_make 57 = .ok (.istore 5, 2) := by decide +kernel
theorem d_Mo_make_59 : decode b_Mo_make 59 = .ok (.iconst 0, 1) := by decide +kernel
theorem d_Mo_make_60 : decode b_Mo_make 60 = .ok (.istore 6, 2) := by decide +kernel
theorem d_Mo_make_62 : decode b_Mo_make 62 = .ok (.iload 6, 2) := by decide +kernel
theorem d_Mo_make_64 : decode b_Mo_make 64 = .ok (.iload 4, 2) := by decide +kernel
theorem d_Mo_make_66 : decode b_Mo_make 66 = .ok (.if_icmp .ge 140, 3) := by decide +kernel
theorem d_Mo_make_69 : decode b_Mo_make 69 = .ok (.iconst 0, 1) := by decide +kernel
theorem d_Mo_make_70 : decode b_Mo_make 70 = .ok (.istore 7, 2) := by decide +kernel
theorem d_Mo_make_72 : decode b_Mo_make 72 = .ok (.iload 7, 2) := by decide +kernel
theorem d_Mo_make_74 : decode b_Mo_make 74 = .ok (.iconst 2, 1) := by decide +kernel
theorem d_Mo_make_75 : decode b_Mo_make 75 = .ok (.if_icmp .ge 97, 3) := by decide +kernel
theorem d_Mo_make_78 : decode b_Mo_make 78 = .ok (.aload_n 0, 1) := by decide +kernel
theorem d_Mo_make_79 : decode b_Mo_make 79 = .ok (.aload_n 0, 1) := by decide +kernel
theorem d_Mo_make_80 : decode b_Mo_make 80 = .ok (.getfield 26, 3) := by decide +kernel
theorem d_Mo_make_83 : decode b_Mo_make 83 = .ok (.iload 6, 2) := by decide +kernel
theorem d_Mo_make_85 : decode b_Mo_make 85 = .ok (.iaload, 1) := by decide +kernel
theorem d_Mo_make_86 : decode b_Mo_make 86 = .ok (.iload 7, 2) := by decide +kernel
theorem d_Mo_make_88 : decode b_Mo_make 88 = .ok (.invokevirtual 90, 3) := by decide +kernel
theorem d_Mo_make_91 : decode b_Mo_make 91 = .ok (.istore 8, 2) := by decide +kernel
theorem d_Mo_make_93 : decode b_Mo_make 93 = .ok (.iconst 0, 1) := by decide +kernel
theorem d_Mo_make_94 : decode b_Mo_make 94 = .ok (.istore 9, 2) := by decide +kernel
theorem d_Mo_make_96 : decode b_Mo_make 96 = .ok (.iload 9, 2) := by decide +kernel
theorem d_Mo_make_98 : decode b_Mo_make 98 = .ok (.iload 4, 2) := by decide +kernel
theorem d_Mo_make_100 : decode b_Mo_make 100 = .ok (.if_icmp .ge 32, 3) := by decide +kernel
theorem d_Mo_make_103 : decode b_Mo_make 103 = .ok (.aload_n 0, 1) := by decide +kernel
theorem d_Mo_make_104 : decode b_Mo_make 104 = .ok (.getfield 19, 3) := by decide +kernel
theorem d_Mo_make_107 : decode b_Mo_make 107 = .ok (.aload_n 0, 1) := by decide +kernel
theorem d_Mo_make_108 : decode b_Mo_make 108 = .ok (.getfield 26, 3) := by decide +kernel
theorem d_Mo_make_111 : decode b_Mo_make 111 = .ok (.iload 9, 2) := by decide +kernel
theorem d_Mo_make_113 : decode b_Mo_make 113 = .ok (.iaload, 1) := by decide +kernel
theorem d_Mo_make_114 : decode b_Mo_make 114 = .ok (.laload, 1) := by decide +kernel
theorem d_Mo_make_115 : decode b_Mo_make 115 = .ok (.aload_n 0, 1) := by decide +kernel
theorem d_Mo_make_116 : decode b_Mo_make 116 = .ok (.getfield 19, 3) := by decide +kernel
theorem d_Mo_make_119 : decode b_Mo_make 119 = .ok (.iload 8, 2) := by decide +kernel
theorem d_Mo_make_121 : decode b_Mo_make 121 = .ok (.laload, 1) := by decide +kernel
theorem d_Mo_make_122 : decode b_Mo_make 122 = .ok (.lcmp, 1) := by decide +kernel
theorem d_Mo_make_123 : decode b_Mo_make 123 = .ok (.ifCond .eq 9, 3) := by decide +kernel
theorem d_Mo_make_126 : decode b_Mo_make 126 = .ok (.iinc 9 1, 3) := by decide +kernel
theorem d_Mo_make_129 : decode b_Mo_make 129 = .ok (.goto (-33), 3) := by decide +kernel
theorem d_Mo_make_132 : decode b_Mo_make 132 = .ok (.iload 9, 2) := by decide +kernel
theorem d_Mo_make_134 : decode b_Mo_make 134 = .ok (.iload 4, 2) := by decide +kernel
theorem d_Mo_make_136 : decode b_Mo_make 136 = .ok (.if_icmp .ne 15, 3) := by decide +kernel
theorem d_Mo_make_139 : decode b_Mo_make 139 = .ok (.aload_n 0, 1) := by decide +kernel
theorem d_Mo_make_140 : decode b_Mo_make 140 = .ok (.getfield 26, 3) := by decide +kernel
theorem d_Mo_make_143 : decode b_Mo_make 143 = .ok (.iload 4, 2) := by decide +kernel
theorem d_Mo_make_145 : decode b_Mo_make 145 = .ok (.iload 8, 2) := by decide +kernel
theorem d_Mo_make_147 : decode b_Mo_make 147 = .ok (.iastore, 1) := by decide +kernel
theorem d_Mo_make_148 : decode b_Mo_make 148 = .ok (.iinc 4 1, 3) := by decide +kernel
theorem d_Mo_make_151 : decode b_Mo_make 151 = .ok (.aload_n 0, 1) := by decide +kernel
theorem d_Mo_make_152 : decode b_Mo_make 152 = .ok (.getfield 23, 3) := by decide +kernel
theorem d_Mo_make_155 : decode b_Mo_make 155 = .ok (.iconst 2, 1) := by decide +kernel
theorem d_Mo_make_156 : decode b_Mo_make 156 = .ok (.iload 6, 2) := by decide +kernel
theorem d_Mo_make_158 : decode b_Mo_make 158 = .ok (.imul, 1) := by decide +kernel
theorem d_Mo_make_159 : decode b_Mo_make 159 = .ok (.iload 7, 2) := by decide +kernel
theorem d_Mo_make_161 : decode b_Mo_make 161 = .ok (.iadd, 1) := by decide +kernel
theorem d_Mo_make_162 : decode b_Mo_make 162 = .ok (.iload 9, 2) := by decide +kernel
theorem d_Mo_make_164 : decode b_Mo_make 164 = .ok (.i2l, 1) := by decide +kernel
theorem d_Mo_make_165 : decode b_Mo_make 165 = .ok (.lastore, 1) := by decide +kernel
theorem d_Mo_make_166 : decode b_Mo_make 166 = .ok (.iinc 7 1, 3) := by decide +kernel
theorem d_Mo_make_169 : decode b_Mo_make 169 = .ok (.goto (-97), 3) := by decide +kernel
theorem d_Mo_make_172 : decode b_Mo_make 172 = .ok (.aload_n 0, 1) := by decide +kernel
theorem d_Mo_make_173 : decode b_Mo_make 173 = .ok (.aload_n 0, 1) := by decide +kernel
theorem d_Mo_make_174 : decode b_Mo_make 174 = .ok (.getfield 26, 3) := by decide +kernel
theorem d_Mo_make_177 : decode b_Mo_make 177 = .ok (.iload 6, 2) := by decide +kernel
theorem d_Mo_make_179 : decode b_Mo_make 179 = .ok (.iaload, 1) := by decide +kernel
theorem d_Mo_make_180 : decode b_Mo_make 180 = .ok (.invokevirtual 86, 3) := by decide +kernel
theorem d_Mo_make_183 : decode b_Mo_make 183 = .ok (.ifCond .eq 13, 3) := by decide +kernel
theorem d_Mo_make_186 : decode b_Mo_make 186 = .ok (.iload 5, 2) := by decide +kernel
theorem d_Mo_make_188 : decode b_Mo_make 188 = .ok (.iconst 1, 1) := by decide +kernel
theorem d_Mo_make_189 : decode b_Mo_make 189 = .ok (.iload 6, 2) := by decide +kernel
theorem d_Mo_make_191 : decode b_Mo_make 191 = .ok (.ishl, 1) := by decide +kernel
theorem d_Mo_make_192 : decode b_Mo_make 192 = .ok (.ior, 1) := by decide +kernel
theorem d_Mo_make_193 : decode b_Mo_make 193 = .ok (.goto 5, 3) := by decide +kernel
theorem d_Mo_make_196 : decode b_Mo_make 196 = .ok (.iload 5, 2) := by decide +kernel
theorem d_Mo_make_198 : decode b_Mo_make 198 = .ok (.istore 5, 2) := by decide +kernel
theorem d_Mo_make_200 : decode b_Mo_make 200 = .ok (.iinc 6 1, 3) := by decide +kernel
theorem d_Mo_make_203 : decode b_Mo_make 203 = .ok (.goto (-141), 3) := by decide +kernel
theorem d_Mo_make_206 : decode b_Mo_make 206 = .ok (.iconst 0, 1) := by decide +kernel
theorem d_Mo_make_207 : decode b_Mo_make 207 = .ok (.istore 6, 2) := by decide +kernel
theorem d_Mo_make_209 : decode b_Mo_make 209 = .ok (.iload 6, 2) := by decide +kernel
theorem d_Mo_make_211 : decode b_Mo_make 211 = .ok (.iconst 2, 1) := by decide +kernel
theorem d_Mo_make_212 : decode b_Mo_make 212 = .ok (.iload 4, 2) := by decide +kernel
theorem d_Mo_make_214 : decode b_Mo_make 214 = .ok (.imul, 1) := by decide +kernel
theorem d_Mo_make_215 : decode b_Mo_make 215 = .ok (.if_icmp .ge 32, 3) := by decide +kernel
theorem d_Mo_make_218 : decode b_Mo_make 218 = .ok (.aload_n 0, 1) := by decide +kernel
theorem d_Mo_make_219 : decode b_Mo_make 219 = .ok (.getfield 13, 3) := by decide +kernel
theorem d_Mo_make_222 : decode b_Mo_make 222 = .ok (.bipush 12, 2) := by decide +kernel
theorem d_Mo_make_224 : decode b_Mo_make 224 = .ok (.aload_n 0, 1) := by decide +kernel
theorem d_Mo_make_225 : decode b_Mo_make 225 = .ok (.getfield 51, 3) := by decide +kernel
theorem d_Mo_make_228 : decode b_Mo_make 228 = .ok (.imul, 1) := by decide +kernel
theorem d_Mo_make_229 : decode b_Mo_make 229 = .ok (.iload 6, 2) := by decide +kernel
theorem d_Mo_make_231 : decode b_Mo_make 231 = .ok (.iadd, 1) := by decide +kernel
theorem d_Mo_make_232 : decode b_Mo_make 232 = .ok (.aload_n 0, 1) := by decide +kernel
theorem d_Mo_make_233 : decode b_Mo_make 233 = .ok (.getfield 23, 3) := by decide +kernel
theorem d_Mo_make_236 : decode b_Mo_make 236 = .ok (.iload 6, 2) := by decide +kernel
theorem d_Mo_make_238 : decode b_Mo_make 238 = .ok (.laload, 1) := by decide +kernel
theorem d_Mo_make_239 : decode b_Mo_make 239 = .ok (.l2i, 1) := by decide +kernel
theorem d_Mo_make_240 : decode b_Mo_make 240 = .ok (.iastore, 1) := by decide +kernel
theorem d_Mo_make_241 : decode b_Mo_make 241 = .ok (.iinc 6 1, 3) := by decide +kernel
theorem d_Mo_make_244 : decode b_Mo_make 244 = .ok (.goto (-35), 3) := by decide +kernel
theorem d_Mo_make_247 : decode b_Mo_make 247 = .ok (.aload_n 0, 1) := by decide +kernel
theorem d_Mo_make_248 : decode b_Mo_make 248 = .ok (.getfield 7, 3) := by decide +kernel
theorem d_Mo_make_251 : decode b_Mo_make 251 = .ok (.aload_n 0, 1) := by decide +kernel
theorem d_Mo_make_252 : decode b_Mo_make 252 = .ok (.getfield 51, 3) := by decide +kernel
theorem d_Mo_make_255 : decode b_Mo_make 255 = .ok (.iload 4, 2) := by decide +kernel
theorem d_Mo_make_257 : decode b_Mo_make 257 = .ok (.iastore, 1) := by decide +kernel
theorem d_Mo_make_258 : decode b_Mo_make 258 = .ok (.aload_n 0, 1) := by decide +kernel
theorem d_Mo_make_259 : decode b_Mo_make 259 = .ok (.getfield 16, 3) := by decide +kernel
theorem d_Mo_make_262 : decode b_Mo_make 262 = .ok (.aload_n 0, 1) := by decide +kernel
theorem d_Mo_make_263 : decode b_Mo_make 263 = .ok (.getfield 51, 3) := by decide +kernel
theorem d_Mo_make_266 : decode b_Mo_make 266 = .ok (.iload 5, 2) := by decide +kernel
theorem d_Mo_make_268 : decode b_Mo_make 268 = .ok (.iastore, 1) := by decide +kernel
theorem d_Mo_make_269 : decode b_Mo_make 269 = .ok (.aload_n 0, 1) := by decide +kernel
theorem d_Mo_make_270 : decode b_Mo_make 270 = .ok (.dup, 1) := by decide +kernel
theorem d_Mo_make_271 : decode b_Mo_make 271 = .ok (.getfield 51, 3) := by decide +kernel
theorem d_Mo_make_274 : decode b_Mo_make 274 = .ok (.iconst 1, 1) := by decide +kernel
theorem d_Mo_make_275 : decode b_Mo_make 275 = .ok (.iadd, 1) := by decide +kernel
theorem d_Mo_make_276 : decode b_Mo_make 276 = .ok (.putfield 51, 3) := by decide +kernel
theorem d_Mo_make_279 : decode b_Mo_make 279 = .ok (.aload_n 0, 1) := by decide +kernel
theorem d_Mo_make_280 : decode b_Mo_make 280 = .ok (.getfield 51, 3) := by decide +kernel
theorem d_Mo_make_283 : decode b_Mo_make 283 = .ok (.iconst 1, 1) := by decide +kernel
theorem d_Mo_make_284 : decode b_Mo_make 284 = .ok (.isub, 1) := by decide +kernel
theorem d_Mo_make_285 : decode b_Mo_make 285 = .ok (.ireturn, 1) := by decide +kernel
theorem d_Mo_listen_0 : decode b_Mo_listen 0 = .ok (.aload_n 0, 1) := by decide +kernel
theorem d_Mo_listen_1 : decode b_Mo_listen 1 = .ok (.invokevirtual 82, 3) := by decide +kernel
theorem d_Mo_listen_4 : decode b_Mo_listen 4 = .ok (.istore_n 1, 1) := by decide +kernel
theorem d_Mo_listen_5 : decode b_Mo_listen 5 = .ok (.iconst 1, 1) := by decide +kernel
theorem d_Mo_listen_6 : decode b_Mo_listen 6 = .ok (.istore_n 2, 1) := by decide +kernel
theorem d_Mo_listen_7 : decode b_Mo_listen 7 = .ok (.iconst 0, 1) := by decide +kernel
theorem d_Mo_listen_8 : decode b_Mo_listen 8 = .ok (.istore_n 3, 1) := by decide +kernel
theorem d_Mo_listen_9 : decode b_Mo_listen 9 = .ok (.iload_n 3, 1) := by decide +kernel
theorem d_Mo_listen_10 : decode b_Mo_listen 10 = .ok (.iload_n 1, 1) := by decide +kernel
theorem d_Mo_listen_11 : decode b_Mo_listen 11 = .ok (.if_icmp .ge 28, 3) := by decide +kernel
theorem d_Mo_listen_14 : decode b_Mo_listen 14 = .ok (.aload_n 0, 1) := by decide +kernel
theorem d_Mo_listen_15 : decode b_Mo_listen 15 = .ok (.getfield 19, 3) := by decide +kernel
theorem d_Mo_listen_18 : decode b_Mo_listen 18 = .ok (.iload_n 3, 1) := by decide +kernel
theorem d_Mo_listen_19 : decode b_Mo_listen 19 = .ok (.aload_n 0, 1) := by decide +kernel
theorem d_Mo_listen_20 : decode b_Mo_listen 20 = .ok (.iload_n 3, 1) := by decide +kernel
theorem d_Mo_listen_21 : decode b_Mo_listen 21 = .ok (.invokevirtual 86, 3) := by decide +kernel
theorem d_Mo_listen_24 : decode b_Mo_listen 24 = .ok (.ifCond .eq 7, 3) := by decide +kernel
theorem d_Mo_listen_27 : decode b_Mo_listen 27 = .ok (.lconst 1, 1) := by decide +kernel
theorem d_Mo_listen_28 : decode b_Mo_listen 28 = .ok (.goto 4, 3) := by decide +kernel
theorem d_Mo_listen_31 : decode b_Mo_listen 31 = .ok (.lconst 0, 1) := by decide +kernel
theorem d_Mo_listen_32 : decode b_Mo_listen 32 = .ok (.lastore, 1) := by decide +kernel
theorem d_Mo_listen_33 : decode b_Mo_listen 33 = .ok (.iinc 3 1, 3) := by decide +kernel
theorem d_Mo_listen_36 : decode b_Mo_listen 36 = .ok (.goto (-27), 3) := by decide +kernel
theorem d_Mo_listen_39 : decode b_Mo_listen 39 = .ok (.iconst 0, 1) := by decide +kernel
theorem d_Mo_listen_40 : decode b_Mo_listen 40 = .ok (.istore_n 3, 1) := by decide +kernel
theorem d_Mo_listen_41 : decode b_Mo_listen 41 = .ok (.iload_n 3, 1) := by decide +kernel
theorem d_Mo_listen_42 : decode b_Mo_listen 42 = .ok (.iconst 5, 1) := by decide +kernel
theorem d_Mo_listen_43 : decode b_Mo_listen 43 = .ok (.if_icmp .ge 120, 3) := by decide +kernel
theorem d_Mo_listen_46 : decode b_Mo_listen 46 = .ok (.iconst 0, 1) := by decide +kernel
theorem d_Mo_listen_47 : decode b_Mo_listen 47 = .ok (.istore 4, 2) := by decide +kernel
theorem d_Mo_listen_49 : decode b_Mo_listen 49 = .ok (.iload 4, 2) := by decide +kernel
theorem d_Mo_listen_51 : decode b_Mo_listen 51 = .ok (.iload_n 1, 1) := by decide +kernel
theorem d_Mo_listen_52 : decode b_Mo_listen 52 = .ok (.if_icmp .ge 70, 3) := by decide +kernel
theorem d_Mo_listen_55 : decode b_Mo_listen 55 = .ok (.aload_n 0, 1) := by decide +kernel
theorem d_Mo_listen_56 : decode b_Mo_listen 56 = .ok (.getfield 19, 3) := by decide +kernel
theorem d_Mo_listen_59 : decode b_Mo_listen 59 = .ok (.aload_n 0, 1) := by decide +kernel
theorem d_Mo_listen_60 : decode b_Mo_listen 60 = .ok (.iload 4, 2) := by decide +kernel
theorem d_Mo_listen_62 : decode b_Mo_listen 62 = .ok (.iconst 0, 1) := by decide +kernel
theorem d_Mo_listen_63 : decode b_Mo_listen 63 = .ok (.invokevirtual 90, 3) := by decide +kernel
theorem d_Mo_listen_66 : decode b_Mo_listen 66 = .ok (.laload, 1) := by decide +kernel
theorem d_Mo_listen_67 : decode b_Mo_listen 67 = .ok (.lstore 5, 2) := by decide +kernel
theorem d_Mo_listen_69 : decode b_Mo_listen 69 = .ok (.aload_n 0, 1) := by decide +kernel
theorem d_Mo_listen_70 : decode b_Mo_listen 70 = .ok (.getfield 19, 3) := by decide +kernel
theorem d_Mo_listen_73 : decode b_Mo_listen 73 = .ok (.aload_n 0, 1) := by decide +kernel
theorem d_Mo_listen_74 : decode b_Mo_listen 74 = .ok (.iload 4, 2) := by decide +kernel
theorem d_Mo_listen_76 : decode b_Mo_listen 76 = .ok (.iconst 1, 1) := by decide +kernel
theorem d_Mo_listen_77 : decode b_Mo_listen 77 = .ok (.invokevirtual 90, 3) := by decide +kernel
theorem d_Mo_listen_80 : decode b_Mo_listen 80 = .ok (.laload, 1) := by decide +kernel
theorem d_Mo_listen_81 : decode b_Mo_listen 81 = .ok (.lstore 7, 2) := by decide +kernel
theorem d_Mo_listen_83 : decode b_Mo_listen 83 = .ok (.aload_n 0, 1) := by decide +kernel
theorem d_Mo_listen_84 : decode b_Mo_listen 84 = .ok (.getfield 23, 3) := by decide +kernel
theorem d_Mo_listen_87 : decode b_Mo_listen 87 = .ok (.iload 4, 2) := by decide +kernel
theorem d_Mo_listen_89 : decode b_Mo_listen 89 = .ok (.aload_n 0, 1) := by decide +kernel
theorem d_Mo_listen_90 : decode b_Mo_listen 90 = .ok (.iload 4, 2) := by decide +kernel
theorem d_Mo_listen_92 : decode b_Mo_listen 92 = .ok (.invokevirtual 86, 3) := by decide +kernel
theorem d_Mo_listen_95 : decode b_Mo_listen 95 = .ok (.ifCond .eq 7, 3) := by decide +kernel
theorem d_Mo_listen_98 : decode b_Mo_listen 98 = .ok (.lconst 1, 1) := by decide +kernel
theorem d_Mo_listen_99 : decode b_Mo_listen 99 = .ok (.goto 4, 3) := by decide +kernel
theorem d_Mo_listen_102 : decode b_Mo_listen 102 = .ok (.lconst 0, 1) := by decide +kernel
theorem d_Mo_listen_103 : decode b_Mo_listen 103 = .ok (.lload 5, 2) := by decide +kernel
theorem d_Mo_listen_105 : decode b_Mo_listen 105 = .ok (.iconst 1, 1) := by decide +kernel
theorem d_Mo_listen_106 : decode b_Mo_listen 106 = .ok (.lshl, 1) := by decide +kernel
theorem d_Mo_listen_107 : decode b_Mo_listen 107 = .ok (.lor, 1) := by decide +kernel
theorem d_Mo_listen_108 : decode b_Mo_listen 108 = .ok (.lload 7, 2) := by decide +kernel
theorem d_Mo_listen_110 : decode b_Mo_listen 110 = .ok (.iconst 1, 1) := by decide +kernel
theorem d_Mo_listen_111 : decode b_Mo_listen 111 = .ok (.iload_n 2, 1) := by decide +kernel
theorem d_Mo_listen_112 : decode b_Mo_listen 112 = .ok (.iadd, 1) := by decide +kernel
theorem d_Mo_listen_113 : decode b_Mo_listen 113 = .ok (.lshl, 1) := by decide +kernel
theorem d_Mo_listen_114 : decode b_Mo_listen 114 = .ok (.lor, 1) := by decide +kernel
theorem d_Mo_listen_115 : decode b_Mo_listen 115 = .ok (.lastore, 1) := by decide +kernel
theorem d_Mo_listen_116 : decode b_Mo_listen 116 = .ok (.iinc 4 1, 3) := by decide +kernel
theorem d_Mo_listen_119 : decode b_Mo_listen 119 = .ok (.goto (-70), 3) := by decide +kernel
theorem d_Mo_listen_122 : decode b_Mo_listen 122 = .ok (.iconst 0, 1) := by decide +kernel
theorem d_Mo_listen_123 : decode b_Mo_listen 123 = .ok (.istore 4, 2) := by decide +kernel
theorem d_Mo_listen_125 : decode b_Mo_listen 125 = .ok (.iload 4, 2) := by decide +kernel
theorem d_Mo_listen_127 : decode b_Mo_listen 127 = .ok (.iload_n 1, 1) := by decide +kernel
theorem d_Mo_listen_128 : decode b_Mo_listen 128 = .ok (.if_icmp .ge 23, 3) := by decide +kernel
theorem d_Mo_listen_131 : decode b_Mo_listen 131 = .ok (.aload_n 0, 1) := by decide +kernel
theorem d_Mo_listen_132 : decode b_Mo_listen 132 = .ok (.getfield 19, 3) := by decide +kernel
theorem d_Mo_listen_135 : decode b_Mo_listen 135 = .ok (.iload 4, 2) := by decide +kernel
theorem d_Mo_listen_137 : decode b_Mo_listen 137 = .ok (.aload_n 0, 1) := by decide +kernel
theorem d_Mo_listen_138 : decode b_Mo_listen 138 = .ok (.getfield 23, 3) := by decide +kernel
theorem d_Mo_listen_141 : decode b_Mo_listen 141 = .ok (.iload 4, 2) := by decide +kernel
theorem d_Mo_listen_143 : decode b_Mo_listen 143 = .ok (.laload, 1) := by decide +kernel
theorem d_Mo_listen_144 : decode b_Mo_listen 144 = .ok (.lastore, 1) := by decide +kernel
theorem d_Mo_listen_145 : decode b_Mo_listen 145 = .ok (.iinc 4 1, 3) := by decide +kernel
theorem d_Mo_listen_148 : decode b_Mo_listen 148 = .ok (.goto (-23), 3) := by decide +kernel
theorem d_Mo_listen_151 : decode b_Mo_listen 151 = .ok (.iconst 2, 1) := by decide +kernel
theorem d_Mo_listen_152 : decode b_Mo_listen 152 = .ok (.iload_n 2, 1) := by decide +kernel
theorem d_Mo_listen_153 : decode b_Mo_listen 153 = .ok (.imul, 1) := by decide +kernel
theorem d_Mo_listen_154 : decode b_Mo_listen 154 = .ok (.iconst 1, 1) := by decide +kernel
theorem d_Mo_listen_155 : decode b_Mo_listen 155 = .ok (.iadd, 1) := by decide +kernel
theorem d_Mo_listen_156 : decode b_Mo_listen 156 = .ok (.istore_n 2, 1) := by decide +kernel
theorem d_Mo_listen_157 : decode b_Mo_listen 157 = .ok (.iinc 3 1, 3) := by decide +kernel
theorem d_Mo_listen_160 : decode b_Mo_listen 160 = .ok (.goto (-119), 3) := by decide +kernel
theorem d_Mo_listen_163 : decode b_Mo_listen 163 = .ok (.return_, 1) := by decide +kernel
