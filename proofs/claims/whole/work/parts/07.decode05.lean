theorem d_Mo_codes_0 : decode b_Mo_codes 0 = .ok (.aload_n 0, 1) := by decide +kernel
theorem d_Mo_codes_1 : decode b_Mo_codes 1 = .ok (.getfield 59, 3) := by decide +kernel
theorem d_Mo_codes_4 : decode b_Mo_codes 4 = .ok (.ifCond .ne 7, 3) := by decide +kernel
theorem d_Mo_codes_7 : decode b_Mo_codes 7 = .ok (.iconst 3, 1) := by decide +kernel
theorem d_Mo_codes_8 : decode b_Mo_codes 8 = .ok (.goto 53, 3) := by decide +kernel
theorem d_Mo_codes_11 : decode b_Mo_codes 11 = .ok (.aload_n 0, 1) := by decide +kernel
theorem d_Mo_codes_12 : decode b_Mo_codes 12 = .ok (.getfield 59, 3) := by decide +kernel
theorem d_Mo_codes_15 : decode b_Mo_codes 15 = .ok (.iconst 1, 1) := by decide +kernel
theorem d_Mo_codes_16 : decode b_Mo_codes 16 = .ok (.if_icmp .eq 11, 3) := by decide +kernel
theorem d_Mo_codes_19 : decode b_Mo_codes 19 = .ok (.aload_n 0, 1) := by decide +kernel
theorem d_Mo_codes_20 : decode b_Mo_codes 20 = .ok (.getfield 59, 3) := by decide +kernel
theorem d_Mo_codes_23 : decode b_Mo_codes 23 = .ok (.iconst 2, 1) := by decide +kernel
theorem d_Mo_codes_24 : decode b_Mo_codes 24 = .ok (.if_icmp .ne 8, 3) := by decide +kernel
theorem d_Mo_codes_27 : decode b_Mo_codes 27 = .ok (.bipush 36, 2) := by decide +kernel
theorem d_Mo_codes_29 : decode b_Mo_codes 29 = .ok (.goto 32, 3) := by decide +kernel
theorem d_Mo_codes_32 : decode b_Mo_codes 32 = .ok (.aload_n 0, 1) := by decide +kernel
theorem d_Mo_codes_33 : decode b_Mo_codes 33 = .ok (.getfield 59, 3) := by decide +kernel
theorem d_Mo_codes_36 : decode b_Mo_codes 36 = .ok (.iconst 3, 1) := by decide +kernel
theorem d_Mo_codes_37 : decode b_Mo_codes 37 = .ok (.if_icmp .ne 9, 3) := by decide +kernel
theorem d_Mo_codes_40 : decode b_Mo_codes 40 = .ok (.sipush 384, 3) := by decide +kernel
theorem d_Mo_codes_43 : decode b_Mo_codes 43 = .ok (.goto 18, 3) := by decide +kernel
theorem d_Mo_codes_46 : decode b_Mo_codes 46 = .ok (.aload_n 0, 1) := by decide +kernel
theorem d_Mo_codes_47 : decode b_Mo_codes 47 = .ok (.getfield 59, 3) := by decide +kernel
theorem d_Mo_codes_50 : decode b_Mo_codes 50 = .ok (.iconst 4, 1) := by decide +kernel
theorem d_Mo_codes_51 : decode b_Mo_codes 51 = .ok (.if_icmp .ne 8, 3) := by decide +kernel
theorem d_Mo_codes_54 : decode b_Mo_codes 54 = .ok (.bipush 65, 2) := by decide +kernel
theorem d_Mo_codes_56 : decode b_Mo_codes 56 = .ok (.goto 5, 3) := by decide +kernel
theorem d_Mo_codes_59 : decode b_Mo_codes 59 = .ok (.bipush 6, 2) := by decide +kernel
theorem d_Mo_codes_61 : decode b_Mo_codes 61 = .ok (.ireturn, 1) := by decide +kernel
theorem d_Mo_accepted_0 : decode b_Mo_accepted 0 = .ok (.aload_n 0, 1) := by decide +kernel
theorem d_Mo_accepted_1 : decode b_Mo_accepted 1 = .ok (.getfield 59, 3) := by decide +kernel
theorem d_Mo_accepted_4 : decode b_Mo_accepted 4 = .ok (.tableswitch 196 0 4 #[36, 75, 111, 147, 170], 36) := by decide +kernel
theorem d_Mo_accepted_40 : decode b_Mo_accepted 40 = .ok (.aload_n 0, 1) := by decide +kernel
theorem d_Mo_accepted_41 : decode b_Mo_accepted 41 = .ok (.getfield 62, 3) := by decide +kernel
theorem d_Mo_accepted_44 : decode b_Mo_accepted 44 = .ok (.iconst 2, 1) := by decide +kernel
theorem d_Mo_accepted_45 : decode b_Mo_accepted 45 = .ok (.if_icmp .ge 16, 3) := by decide +kernel
theorem d_Mo_accepted_48 : decode b_Mo_accepted 48 = .ok (.iload_n 1, 1) := by decide +kernel
theorem d_Mo_accepted_49 : decode b_Mo_accepted 49 = .ok (.iconst 1, 1) := by decide +kernel
theorem d_Mo_accepted_50 : decode b_Mo_accepted 50 = .ok (.if_icmp .ne 7, 3) := by decide +kernel
theorem d_Mo_accepted_53 : decode b_Mo_accepted 53 = .ok (.iconst 1, 1) := by decide +kernel
theorem d_Mo_accepted_54 : decode b_Mo_accepted 54 = .ok (.goto 24, 3) := by decide +kernel
theorem d_Mo_accepted_57 : decode b_Mo_accepted 57 = .ok (.iconst 0, 1) := by decide +kernel
theorem d_Mo_accepted_58 : decode b_Mo_accepted 58 = .ok (.goto 20, 3) := by decide +kernel
theorem d_Mo_accepted_61 : decode b_Mo_accepted 61 = .ok (.aload_n 0, 1) := by decide +kernel
theorem d_Mo_accepted_62 : decode b_Mo_accepted 62 = .ok (.getfield 62, 3) := by decide +kernel
theorem d_Mo_accepted_65 : decode b_Mo_accepted 65 = .ok (.iconst 2, 1) := by decide +kernel
theorem d_Mo_accepted_66 : decode b_Mo_accepted 66 = .ok (.if_icmp .ne 11, 3) := by decide +kernel
theorem d_Mo_accepted_69 : decode b_Mo_accepted 69 = .ok (.iload_n 1, 1) := by decide +kernel
theorem d_Mo_accepted_70 : decode b_Mo_accepted 70 = .ok (.ifCond .ne 7, 3) := by decide +kernel
theorem d_Mo_accepted_73 : decode b_Mo_accepted 73 = .ok (.iconst 1, 1) := by decide +kernel
theorem d_Mo_accepted_74 : decode b_Mo_accepted 74 = .ok (.goto 4, 3) := by decide +kernel
theorem d_Mo_accepted_77 : decode b_Mo_accepted 77 = .ok (.iconst 0, 1) := by decide +kernel
theorem d_Mo_accepted_78 : decode b_Mo_accepted 78 = .ok (.ireturn, 1) := by decide +kernel
theorem d_Mo_accepted_79 : decode b_Mo_accepted 79 = .ok (.aload_n 0, 1) := by decide +kernel
theorem d_Mo_accepted_80 : decode b_Mo_accepted 80 = .ok (.aload_n 0, 1) := by decide +kernel
theorem d_Mo_accepted_81 : decode b_Mo_accepted 81 = .ok (.getfield 62, 3) := by decide +kernel
theorem d_Mo_accepted_84 : decode b_Mo_accepted 84 = .ok (.iload_n 1, 1) := by decide +kernel
theorem d_Mo_accepted_85 : decode b_Mo_accepted 85 = .ok (.bipush 6, 2) := by decide +kernel
theorem d_Mo_accepted_87 : decode b_Mo_accepted 87 = .ok (.idiv, 1) := by decide +kernel
theorem d_Mo_accepted_88 : decode b_Mo_accepted 88 = .ok (.invokevirtual 65, 3) := by decide +kernel
theorem d_Mo_accepted_91 : decode b_Mo_accepted 91 = .ok (.ifCond .ne 18, 3) := by decide +kernel
theorem d_Mo_accepted_94 : decode b_Mo_accepted 94 = .ok (.aload_n 0, 1) := by decide +kernel
theorem d_Mo_accepted_95 : decode b_Mo_accepted 95 = .ok (.aload_n 0, 1) := by decide +kernel
theorem d_Mo_accepted_96 : decode b_Mo_accepted 96 = .ok (.getfield 69, 3) := by decide +kernel
theorem d_Mo_accepted_99 : decode b_Mo_accepted 99 = .ok (.iload_n 1, 1) := by decide +kernel
theorem d_Mo_accepted_100 : decode b_Mo_accepted 100 = .ok (.bipush 6, 2) := by decide +kernel
theorem d_Mo_accepted_102 : decode b_Mo_accepted 102 = .ok (.irem, 1) := by decide +kernel
theorem d_Mo_accepted_103 : decode b_Mo_accepted 103 = .ok (.invokevirtual 65, 3) := by decide +kernel
theorem d_Mo_accepted_106 : decode b_Mo_accepted 106 = .ok (.ifCond .eq 7, 3) := by decide +kernel
theorem d_Mo_accepted_109 : decode b_Mo_accepted 109 = .ok (.iconst 1, 1) := by decide +kernel
theorem d_Mo_accepted_110 : decode b_Mo_accepted 110 = .ok (.goto 4, 3) := by decide +kernel
theorem d_Mo_accepted_113 : decode b_Mo_accepted 113 = .ok (.iconst 0, 1) := by decide +kernel
theorem d_Mo_accepted_114 : decode b_Mo_accepted 114 = .ok (.ireturn, 1) := by decide +kernel
theorem d_Mo_accepted_115 : decode b_Mo_accepted 115 = .ok (.aload_n 0, 1) := by decide +kernel
theorem d_Mo_accepted_116 : decode b_Mo_accepted 116 = .ok (.aload_n 0, 1) := by decide +kernel
theorem d_Mo_accepted_117 : decode b_Mo_accepted 117 = .ok (.getfield 62, 3) := by decide +kernel
theorem d_Mo_accepted_120 : decode b_Mo_accepted 120 = .ok (.iload_n 1, 1) := by decide +kernel
theorem d_Mo_accepted_121 : decode b_Mo_accepted 121 = .ok (.bipush 6, 2) := by decide +kernel
theorem d_Mo_accepted_123 : decode b_Mo_accepted 123 = .ok (.idiv, 1) := by decide +kernel
theorem d_Mo_accepted_124 : decode b_Mo_accepted 124 = .ok (.invokevirtual 65, 3) := by decide +kernel
theorem d_Mo_accepted_127 : decode b_Mo_accepted 127 = .ok (.ifCond .eq 22, 3) := by decide +kernel
theorem d_Mo_accepted_130 : decode b_Mo_accepted 130 = .ok (.aload_n 0, 1) := by decide +kernel
theorem d_Mo_accepted_131 : decode b_Mo_accepted 131 = .ok (.aload_n 0, 1) := by decide +kernel
theorem d_Mo_accepted_132 : decode b_Mo_accepted 132 = .ok (.getfield 69, 3) := by decide +kernel
theorem d_Mo_accepted_135 : decode b_Mo_accepted 135 = .ok (.iload_n 1, 1) := by decide +kernel
theorem d_Mo_accepted_136 : decode b_Mo_accepted 136 = .ok (.bipush 6, 2) := by decide +kernel
theorem d_Mo_accepted_138 : decode b_Mo_accepted 138 = .ok (.irem, 1) := by decide +kernel
theorem d_Mo_accepted_139 : decode b_Mo_accepted 139 = .ok (.invokevirtual 65, 3) := by decide +kernel
theorem d_Mo_accepted_142 : decode b_Mo_accepted 142 = .ok (.ifCond .eq 7, 3) := by decide +kernel
theorem d_Mo_accepted_145 : decode b_Mo_accepted 145 = .ok (.iconst 1, 1) := by decide +kernel
theorem d_Mo_accepted_146 : decode b_Mo_accepted 146 = .ok (.goto 4, 3) := by decide +kernel
theorem d_Mo_accepted_149 : decode b_Mo_accepted 149 = .ok (.iconst 0, 1) := by decide +kernel
theorem d_Mo_accepted_150 : decode b_Mo_accepted 150 = .ok (.ireturn, 1) := by decide +kernel
theorem d_Mo_accepted_151 : decode b_Mo_accepted 151 = .ok (.iload_n 1, 1) := by decide +kernel
theorem d_Mo_accepted_152 : decode b_Mo_accepted 152 = .ok (.bipush 64, 2) := by decide +kernel
theorem d_Mo_accepted_154 : decode b_Mo_accepted 154 = .ok (.irem, 1) := by decide +kernel
theorem d_Mo_accepted_155 : decode b_Mo_accepted 155 = .ok (.aload_n 0, 1) := by decide +kernel
theorem d_Mo_accepted_156 : decode b_Mo_accepted 156 = .ok (.getfield 16, 3) := by decide +kernel
theorem d_Mo_accepted_159 : decode b_Mo_accepted 159 = .ok (.aload_n 0, 1) := by decide +kernel
theorem d_Mo_accepted_160 : decode b_Mo_accepted 160 = .ok (.getfield 69, 3) := by decide +kernel
theorem d_Mo_accepted_163 : decode b_Mo_accepted 163 = .ok (.iaload, 1) := by decide +kernel
theorem d_Mo_accepted_164 : decode b_Mo_accepted 164 = .ok (.iand, 1) := by decide +kernel
theorem d_Mo_accepted_165 : decode b_Mo_accepted 165 = .ok (.ifCond .eq 7, 3) := by decide +kernel
theorem d_Mo_accepted_168 : decode b_Mo_accepted 168 = .ok (.iconst 1, 1) := by decide +kernel
theorem d_Mo_accepted_169 : decode b_Mo_accepted 169 = .ok (.goto 4, 3) := by decide +kernel
theorem d_Mo_accepted_172 : decode b_Mo_accepted 172 = .ok (.iconst 0, 1) := by decide +kernel
theorem d_Mo_accepted_173 : decode b_Mo_accepted 173 = .ok (.ireturn, 1) := by decide +kernel
theorem d_Mo_accepted_174 : decode b_Mo_accepted 174 = .ok (.iload_n 1, 1) := by decide +kernel
theorem d_Mo_accepted_175 : decode b_Mo_accepted 175 = .ok (.bipush 64, 2) := by decide +kernel
theorem d_Mo_accepted_177 : decode b_Mo_accepted 177 = .ok (.if_icmp .eq 17, 3) := by decide +kernel
theorem d_Mo_accepted_180 : decode b_Mo_accepted 180 = .ok (.iload_n 1, 1) := by decide +kernel
theorem d_Mo_accepted_181 : decode b_Mo_accepted 181 = .ok (.aload_n 0, 1) := by decide +kernel
theorem d_Mo_accepted_182 : decode b_Mo_accepted 182 = .ok (.getfield 16, 3) := by decide +kernel
theorem d_Mo_accepted_185 : decode b_Mo_accepted 185 = .ok (.aload_n 0, 1) := by decide +kernel
theorem d_Mo_accepted_186 : decode b_Mo_accepted 186 = .ok (.getfield 62, 3) := by decide +kernel
theorem d_Mo_accepted_189 : decode b_Mo_accepted 189 = .ok (.iaload, 1) := by decide +kernel
theorem d_Mo_accepted_190 : decode b_Mo_accepted 190 = .ok (.iand, 1) := by decide +kernel
theorem d_Mo_accepted_191 : decode b_Mo_accepted 191 = .ok (.ifCond .eq 7, 3) := by decide +kernel
theorem d_Mo_accepted_194 : decode b_Mo_accepted 194 = .ok (.iconst 1, 1) := by decide +kernel
theorem d_Mo_accepted_195 : decode b_Mo_accepted 195 = .ok (.goto 4, 3) := by decide +kernel
theorem d_Mo_accepted_198 : decode b_Mo_accepted 198 = .ok (.iconst 0, 1) := by decide +kernel
theorem d_Mo_accepted_199 : decode b_Mo_accepted 199 = .ok (.ireturn, 1) := by decide +kernel
theorem d_Mo_accepted_200 : decode b_Mo_accepted 200 = .ok (.aload_n 0, 1) := by decide +kernel
theorem d_Mo_accepted_201 : decode b_Mo_accepted 201 = .ok (.aload_n 0, 1) := by decide +kernel
theorem d_Mo_accepted_202 : decode b_Mo_accepted 202 = .ok (.getfield 62, 3) := by decide +kernel
theorem d_Mo_accepted_205 : decode b_Mo_accepted 205 = .ok (.iload_n 1, 1) := by decide +kernel
theorem d_Mo_accepted_206 : decode b_Mo_accepted 206 = .ok (.invokevirtual 65, 3) := by decide +kernel
theorem d_Mo_accepted_209 : decode b_Mo_accepted 209 = .ok (.ifCond .ne 7, 3) := by decide +kernel
theorem d_Mo_accepted_212 : decode b_Mo_accepted 212 = .ok (.iconst 1, 1) := by decide +kernel
theorem d_Mo_accepted_213 : decode b_Mo_accepted 213 = .ok (.goto 4, 3) := by decide +kernel
theorem d_Mo_accepted_216 : decode b_Mo_accepted 216 = .ok (.iconst 0, 1) := by decide +kernel
theorem d_Mo_accepted_217 : decode b_Mo_accepted 217 = .ok (.ireturn, 1) := by decide +kernel
theorem d_Mo_isGood_0 : decode b_Mo_isGood 0 = .ok (.aload_n 0, 1) := by decide +kernel
theorem d_Mo_isGood_1 : decode b_Mo_isGood 1 = .ok (.getfield 16, 3) := by decide +kernel
theorem d_Mo_isGood_4 : decode b_Mo_isGood 4 = .ok (.iload_n 1, 1) := by decide +kernel
theorem d_Mo_isGood_5 : decode b_Mo_isGood 5 = .ok (.iaload, 1) := by decide +kernel
theorem d_Mo_isGood_6 : decode b_Mo_isGood 6 = .ok (.iload_n 2, 1) := by decide +kernel
theorem d_Mo_isGood_7 : decode b_Mo_isGood 7 = .ok (.ishr, 1) := by decide +kernel
theorem d_Mo_isGood_8 : decode b_Mo_isGood 8 = .ok (.iconst 1, 1) := by decide +kernel
theorem d_Mo_isGood_9 : decode b_Mo_isGood 9 = .ok (.iand, 1) := by decide +kernel
theorem d_Mo_isGood_10 : decode b_Mo_isGood 10 = .ok (.iconst 1, 1) := by decide +kernel
theorem d_Mo_isGood_11 : decode b_Mo_isGood 11 = .ok (.if_icmp .ne 7, 3) := by decide +kernel
theorem d_Mo_isGood_14 : decode b_Mo_isGood 14 = .ok (.iconst 1, 1) := by decide +kernel
theorem d_Mo_isGood_15 : decode b_Mo_isGood 15 = .ok (.goto 4, 3) := by decide +kernel
theorem d_Mo_isGood_18 : decode b_Mo_isGood 18 = .ok (.iconst 0, 1) := by decide +kernel
theorem d_Mo_isGood_19 : decode b_Mo_isGood 19 = .ok (.ireturn, 1) := by decide +kernel
theorem d_Mo_nextCode_0 : decode b_Mo_nextCode 0 = .ok (.aload_n 0, 1) := by decide +kernel
theorem d_Mo_nextCode_1 : decode b_Mo_nextCode 1 = .ok (.getfield 59, 3) := by decide +kernel
theorem d_Mo_nextCode_4 : decode b_Mo_nextCode 4 = .ok (.tableswitch 99 0 4 #[36, 54, 54, 85, 92], 36) := by decide +kernel
theorem d_Mo_nextCode_40 : decode b_Mo_nextCode 40 = .ok (.iload_n 1, 1) := by decide +kernel
theorem d_Mo_nextCode_41 : decode b_Mo_nextCode 41 = .ok (.ifCond .ne 15, 3) := by decide +kernel
theorem d_Mo_nextCode_44 : decode b_Mo_nextCode 44 = .ok (.aload_n 0, 1) := by decide +kernel
theorem d_Mo_nextCode_45 : decode b_Mo_nextCode 45 = .ok (.getfield 62, 3) := by decide +kernel
theorem d_Mo_nextCode_48 : decode b_Mo_nextCode 48 = .ok (.iload_n 2, 1) := by decide +kernel
theorem d_Mo_nextCode_49 : decode b_Mo_nextCode 49 = .ok (.if_icmp .ne 7, 3) := by decide +kernel
theorem d_Mo_nextCode_52 : decode b_Mo_nextCode 52 = .ok (.iconst 1, 1) := by decide +kernel
theorem d_Mo_nextCode_53 : decode b_Mo_nextCode 53 = .ok (.goto 4, 3) := by decide +kernel
theorem d_Mo_nextCode_56 : decode b_Mo_nextCode 56 = .ok (.iconst 2, 1) := by decide +kernel
theorem d_Mo_nextCode_57 : decode b_Mo_nextCode 57 = .ok (.ireturn, 1) := by decide +kernel
theorem d_Mo_nextCode_58 : decode b_Mo_nextCode 58 = .ok (.bipush 6, 2) := by decide +kernel
theorem d_Mo_nextCode_60 : decode b_Mo_nextCode 60 = .ok (.aload_n 0, 1) := by decide +kernel
theorem d_Mo_nextCode_61 : decode b_Mo_nextCode 61 = .ok (.aload_n 0, 1) := by decide +kernel
theorem d_Mo_nextCode_62 : decode b_Mo_nextCode 62 = .ok (.getfield 62, 3) := by decide +kernel
theorem d_Mo_nextCode_65 : decode b_Mo_nextCode 65 = .ok (.iload_n 1, 1) := by decide +kernel
theorem d_Mo_nextCode_66 : decode b_Mo_nextCode 66 = .ok (.bipush 6, 2) := by decide +kernel
theorem d_Mo_nextCode_68 : decode b_Mo_nextCode 68 = .ok (.idiv, 1) := by decide +kernel
theorem d_Mo_nextCode_69 : decode b_Mo_nextCode 69 = .ok (.iload_n 2, 1) := by decide +kernel
theorem d_Mo_nextCode_70 : decode b_Mo_nextCode 70 = .ok (.invokevirtual 55, 3) := by decide +kernel
theorem d_Mo_nextCode_73 : decode b_Mo_nextCode 73 = .ok (.imul, 1) := by decide +kernel
theorem d_Mo_nextCode_74 : decode b_Mo_nextCode 74 = .ok (.aload_n 0, 1) := by decide +kernel
theorem d_Mo_nextCode_75 : decode b_Mo_nextCode 75 = .ok (.aload_n 0, 1) := by decide +kernel
theorem d_Mo_nextCode_76 : decode b_Mo_nextCode 76 = .ok (.getfield 69, 3) := by decide +kernel
theorem d_Mo_nextCode_79 : decode b_Mo_nextCode 79 = .ok (.iload_n 1, 1) := by decide +kernel
theorem d_Mo_nextCode_80 : decode b_Mo_nextCode 80 = .ok (.bipush 6, 2) := by decide +kernel
theorem d_Mo_nextCode_82 : decode b_Mo_nextCode 82 = .ok (.irem, 1) := by decide +kernel
theorem d_Mo_nextCode_83 : decode b_Mo_nextCode 83 = .ok (.iload_n 2, 1) := by decide +kernel
theorem d_Mo_nextCode_84 : decode b_Mo_nextCode 84 = .ok (.invokevirtual 55, 3) := by decide +kernel
theorem d_Mo_nextCode_87 : decode b_Mo_nextCode 87 = .ok (.iadd, 1) := by decide +kernel
theorem d_Mo_nextCode_88 : decode b_Mo_nextCode 88 = .ok (.ireturn, 1) := by decide +kernel
theorem d_Mo_nextCode_89 : decode b_Mo_nextCode 89 = .ok (.aload_n 0, 1) := by decide +kernel
theorem d_Mo_nextCode_90 : decode b_Mo_nextCode 90 = .ok (.iload_n 1, 1) := by decide +kernel
theorem d_Mo_nextCode_91 : decode b_Mo_nextCode 91 = .ok (.iload_n 2, 1) := by decide +kernel
theorem d_Mo_nextCode_92 : decode b_Mo_nextCode 92 = .ok (.invokevirtual 75, 3) := by decide +kernel
theorem d_Mo_nextCode_95 : decode b_Mo_nextCode 95 = .ok (.ireturn, 1) := by decide +kernel
theorem d_Mo_nextCode_96 : decode b_Mo_nextCode 96 = .ok (.aload_n 0, 1) := by decide +kernel
theorem d_Mo_nextCode_97 : decode b_Mo_nextCode 97 = .ok (.iload_n 1, 1) := by decide +kernel
theorem d_Mo_nextCode_98 : decode b_Mo_nextCode 98 = .ok (.iload_n 2, 1) := by decide +kernel
theorem d_Mo_nextCode_99 : decode b_Mo_nextCode 99 = .ok (.invokevirtual 79, 3) := by decide +kernel
theorem d_Mo_nextCode_102 : decode b_Mo_nextCode 102 = .ok (.ireturn, 1) := by decide +kernel
theorem d_Mo_nextCode_103 : decode b_Mo_nextCode 103 = .ok (.aload_n 0, 1) := by decide +kernel
theorem d_Mo_nextCode_104 : decode b_Mo_nextCode 104 = .ok (.aload_n 0, 1) := by decide +kernel
theorem d_Mo_nextCode_105 : decode b_Mo_nextCode 105 = .ok (.getfield 62, 3) := by decide +kernel
theorem d_Mo_nextCode_108 : decode b_Mo_nextCode 108 = .ok (.iload_n 1, 1) := by decide +kernel
theorem d_Mo_nextCode_109 : decode b_Mo_nextCode 109 = .ok (.iload_n 2, 1) := by decide +kernel
theorem d_Mo_nextCode_110 : decode b_Mo_nextCode 110 = .ok (.invokevirtual 55, 3) := by decide +kernel
theorem d_Mo_nextCode_113 : decode b_Mo_nextCode 113 = .ok (.ireturn, 1) := by decide +kernel
theorem d_Mo_step_0 : decode b_Mo_step 0 = .ok (.aload_n 0, 1) := by decide +kernel
theorem d_Mo_step_1 : decode b_Mo_step 1 = .ok (.getfield 13, 3) := by decide +kernel
theorem d_Mo_step_4 : decode b_Mo_step 4 = .ok (.bipush 12, 2) := by decide +kernel
theorem d_Mo_step_6 : decode b_Mo_step 6 = .ok (.iload_n 1, 1) := by decide +kernel
theorem d_Mo_step_7 : decode b_Mo_step 7 = .ok (.imul, 1) := by decide +kernel
theorem d_Mo_step_8 : decode b_Mo_step 8 = .ok (.iconst 2, 1) := by decide +kernel
theorem d_Mo_step_9 : decode b_Mo_step 9 = .ok (.iload_n 2, 1) := by decide +kernel
theorem d_Mo_step_10 : decode b_Mo_step 10 = .ok (.imul, 1) := by decide +kernel
theorem d_Mo_step_11 : decode b_Mo_step 11 = .ok (.iadd, 1) := by decide +kernel
theorem d_Mo_step_12 : decode b_Mo_step 12 = .ok (.iload_n 3, 1) := by decide +kernel
theorem d_Mo_step_13 : decode b_Mo_step 13 = .ok (.iadd, 1) := by decide +kernel
theorem d_Mo_step_14 : decode b_Mo_step 14 = .ok (.iaload, 1) := by decide +kernel
theorem d_Mo_step_15 : decode b_Mo_step 15 = .ok (.ireturn, 1) := by decide +kernel
theorem d_Mo_chained_0 : decode b_Mo_chained 0 = .ok (.aload_n 0, 1) := by decide +kernel
theorem d_Mo_chained_1 : decode b_Mo_chained 1 = .ok (.aload_n 0, 1) := by decide +kernel
theorem d_Mo_chained_2 : decode b_Mo_chained 2 = .ok (.getfield 62, 3) := by decide +kernel
theorem d_Mo_chained_5 : decode b_Mo_chained 5 = .ok (.iload_n 1, 1) := by decide +kernel
theorem d_Mo_chained_6 : decode b_Mo_chained 6 = .ok (.bipush 64, 2) := by decide +kernel
theorem d_Mo_chained_8 : decode b_Mo_chained 8 = .ok (.idiv, 1) := by decide +kernel
theorem d_Mo_chained_9 : decode b_Mo_chained 9 = .ok (.iload_n 2, 1) := by decide +kernel
theorem d_Mo_chained_10 : decode b_Mo_chained 10 = .ok (.invokevirtual 55, 3) := by decide +kernel
theorem d_Mo_chained_13 : decode b_Mo_chained 13 = .ok (.istore_n 3, 1) := by decide +kernel
theorem d_Mo_chained_14 : decode b_Mo_chained 14 = .ok (.aload_n 0, 1) := by decide +kernel
theorem d_Mo_chained_15 : decode b_Mo_chained 15 = .ok (.aload_n 0, 1) := by decide +kernel
theorem d_Mo_chained_16 : decode b_Mo_chained 16 = .ok (.getfield 69, 3) := by decide +kernel
theorem d_Mo_chained_19 : decode b_Mo_chained 19 = .ok (.iload_n 1, 1) := by decide +kernel
theorem d_Mo_chained_20 : decode b_Mo_chained 20 = .ok (.bipush 64, 2) := by decide +kernel
theorem d_Mo_chained_22 : decode b_Mo_chained 22 = .ok (.irem, 1) := by decide +kernel
theorem d_Mo_chained_23 : decode b_Mo_chained 23 = .ok (.iload_n 2, 1) := by decide +kernel
theorem d_Mo_chained_24 : decode b_Mo_chained 24 = .ok (.invokevirtual 72, 3) := by decide +kernel
theorem d_Mo_chained_27 : decode b_Mo_chained 27 = .ok (.istore 4, 2) := by decide +kernel
theorem d_Mo_chained_29 : decode b_Mo_chained 29 = .ok (.bipush 64, 2) := by decide +kernel
theorem d_Mo_chained_31 : decode b_Mo_chained 31 = .ok (.iload_n 3, 1) := by decide +kernel
theorem d_Mo_chained_32 : decode b_Mo_chained 32 = .ok (.imul, 1) := by decide +kernel
theorem d_Mo_chained_33 : decode b_Mo_chained 33 = .ok (.aload_n 0, 1) := by decide +kernel
theorem d_Mo_chained_34 : decode b_Mo_chained 34 = .ok (.aload_n 0, 1) := by decide +kernel
theorem d_Mo_chained_35 : decode b_Mo_chained 35 = .ok (.getfield 62, 3) := by decide +kernel
theorem d_Mo_chained_38 : decode b_Mo_chained 38 = .ok (.iload_n 3, 1) := by decide +kernel
theorem d_Mo_chained_39 : decode b_Mo_chained 39 = .ok (.invokevirtual 65, 3) := by decide +kernel
theorem d_Mo_chained_42 : decode b_Mo_chained 42 = .ok (.ifCond .eq 10, 3) := by decide +kernel
theorem d_Mo_chained_45 : decode b_Mo_chained 45 = .ok (.iload 4, 2) := by decide +kernel
theorem d_Mo_chained_47 : decode b_Mo_chained 47 = .ok (.iconst 1, 1) := by decide +kernel
theorem d_Mo_chained_48 : decode b_Mo_chained 48 = .ok (.ior, 1) := by decide +kernel
theorem d_Mo_chained_49 : decode b_Mo_chained 49 = .ok (.goto 5, 3) := by decide +kernel
theorem d_Mo_chained_52 : decode b_Mo_chained 52 = .ok (.iload 4, 2) := by decide +kernel
theorem d_Mo_chained_54 : decode b_Mo_chained 54 = .ok (.iadd, 1) := by decide +kernel
theorem d_Mo_chained_55 : decode b_Mo_chained 55 = .ok (.ireturn, 1) := by decide +kernel
theorem d_Mo_image_0 : decode b_Mo_image 0 = .ok (.iconst 0, 1) := by decide +kernel
theorem d_Mo_image_1 : decode b_Mo_image 1 = .ok (.istore 4, 2) := by decide +kernel
theorem d_Mo_image_3 : decode b_Mo_image 3 = .ok (.iconst 0, 1) := by decide +kernel
theorem d_Mo_image_4 : decode b_Mo_image 4 = .ok (.istore 5, 2) := by decide +kernel
theorem d_Mo_image_6 : decode b_Mo_image 6 = .ok (.iload 5, 2) := by decide +kernel
theorem d_Mo_image_8 : decode b_Mo_image 8 = .ok (.bipush 6, 2) := by decide +kernel
theorem d_Mo_image_10 : decode b_Mo_image 10 = .ok (.if_icmp .ge 39, 3) := by decide +kernel
theorem d_Mo_image_13 : decode b_Mo_image 13 = .ok (.iload_n 2, 1) := by decide +kernel
theorem d_Mo_image_14 : decode b_Mo_image 14 = .ok (.iload 5, 2) := by decide +kernel
theorem d_Mo_image_16 : decode b_Mo_image 16 = .ok (.ishr, 1) := by decide +kernel
theorem d_Mo_image_17 : decode b_Mo_image 17 = .ok (.iconst 1, 1) := by decide +kernel
theorem d_Mo_image_18 : decode b_Mo_image 18 = .ok (.iand, 1) := by decide +kernel
theorem d_Mo_image_19 : decode b_Mo_image 19 = .ok (.iconst 1, 1) := by decide +kernel
theorem d_Mo_image_20 : decode b_Mo_image 20 = .ok (.if_icmp .ne 19, 3) := by decide +kernel
theorem d_Mo_image_23 : decode b_Mo_image 23 = .ok (.iload 4, 2) := by decide +kernel
theorem d_Mo_image_25 : decode b_Mo_image 25 = .ok (.iconst 1, 1) := by decide +kernel
theorem d_Mo_image_26 : decode b_Mo_image 26 = .ok (.aload_n 0, 1) := by decide +kernel
theorem d_Mo_image_27 : decode b_Mo_image 27 = .ok (.iload_n 1, 1) := by decide +kernel
theorem d_Mo_image_28 : decode b_Mo_image 28 = .ok (.iload 5, 2) := by decide +kernel
theorem d_Mo_image_30 : decode b_Mo_image 30 = .ok (.iload_n 3, 1) := by decide +kernel
theorem d_Mo_image_31 : decode b_Mo_image 31 = .ok (.invokevirtual 55, 3) := by decide +kernel
theorem d_Mo_image_34 : decode b_Mo_image 34 = .ok (.ishl, 1) := by decide +kernel
theorem d_Mo_image_35 : decode b_Mo_image 35 = .ok (.ior, 1) := by decide +kernel
theorem d_Mo_image_36 : decode b_Mo_image 36 = .ok (.goto 5, 3) := by decide +kernel
theorem d_Mo_image_39 : decode b_Mo_image 39 = .ok (.iload 4, 2) := by decide +kernel
theorem d_Mo_image_41 : decode b_Mo_image 41 = .ok (.istore 4, 2) := by decide +kernel
theorem d_Mo_image_43 : decode b_Mo_image 43 = .ok (.iinc 5 1, 3) := by decide +kernel
theorem d_Mo_image_46 : decode b_Mo_image 46 = .ok (.goto (-40), 3) := by decide +kernel
theorem d_Mo_image_49 : decode b_Mo_image 49 = .ok (.iload 4, 2) := by decide +kernel
theorem d_Mo_image_51 : decode b_Mo_image 51 = .ok (.ireturn, 1) := by decide +kernel
theorem d_Mo_starred_0 : decode b_Mo_starred 0 = .ok (.aload_n 0, 1) := by decide +kernel
theorem d_Mo_starred_1 : decode b_Mo_starred 1 = .ok (.aload_n 0, 1) := by decide +kernel
theorem d_Mo_starred_2 : decode b_Mo_starred 2 = .ok (.getfield 62, 3) := by decide +kernel
theorem d_Mo_starred_5 : decode b_Mo_starred 5 = .ok (.iload_n 1, 1) := by decide +kernel
theorem d_Mo_starred_6 : decode b_Mo_starred 6 = .ok (.bipush 64, 2) := by decide +kernel
theorem d_Mo_starred_8 : decode b_Mo_starred 8 = .ok (.if_icmp .ne 7, 3) := by decide +kernel
theorem d_Mo_starred_11 : decode b_Mo_starred 11 = .ok (.iconst 1, 1) := by decide +kernel
theorem d_Mo_starred_12 : decode b_Mo_starred 12 = .ok (.goto 4, 3) := by decide +kernel
theorem d_Mo_starred_15 : decode b_Mo_starred 15 = .ok (.iload_n 1, 1) := by decide +kernel
theorem d_Mo_starred_16 : decode b_Mo_starred 16 = .ok (.iload_n 2, 1) := by decide +kernel
theorem d_Mo_starred_17 : decode b_Mo_starred 17 = .ok (.invokevirtual 72, 3) := by decide +kernel
theorem d_Mo_starred_20 : decode b_Mo_starred 20 = .ok (.istore_n 3, 1) := by decide +kernel
theorem d_Mo_starred_21 : decode b_Mo_starred 21 = .ok (.iload_n 3, 1) := by decide +kernel
theorem d_Mo_starred_22 : decode b_Mo_starred 22 = .ok (.aload_n 0, 1) := by decide +kernel
theorem d_Mo_starred_23 : decode b_Mo_starred 23 = .ok (.getfield 16, 3) := by decide +kernel
theorem d_Mo_starred_26 : decode b_Mo_starred 26 = .ok (.aload_n 0, 1) := by decide +kernel
theorem d_Mo_starred_27 : decode b_Mo_starred 27 = .ok (.getfield 62, 3) := by decide +kernel
theorem d_Mo_starred_30 : decode b_Mo_starred 30 = .ok (.iaload, 1) := by decide +kernel
theorem d_Mo_starred_31 : decode b_Mo_starred 31 = .ok (.iand, 1) := by decide +kernel
theorem d_Mo_starred_32 : decode b_Mo_starred 32 = .ok (.ifCond .eq 9, 3) := by decide +kernel
theorem d_Mo_starred_35 : decode b_Mo_starred 35 = .ok (.iload_n 3, 1) := by decide +kernel
theorem d_Mo_starred_36 : decode b_Mo_starred 36 = .ok (.iconst 1, 1) := by decide +kernel
theorem d_Mo_starred_37 : decode b_Mo_starred 37 = .ok (.ior, 1) := by decide +kernel
theorem d_Mo_starred_38 : decode b_Mo_starred 38 = .ok (.goto 4, 3) := by decide +kernel
theorem d_Mo_starred_41 : decode b_Mo_starred 41 = .ok (.iload_n 3, 1) := by decide +kernel
theorem d_Mo_starred_42 : decode b_Mo_starred 42 = .ok (.ireturn, 1) := by decide +kernel
theorem d_Mo_said_0 : decode b_Mo_said 0 = .ok (.iconst 0, 1) := by decide +kernel
theorem d_Mo_said_1 : decode b_Mo_said 1 = .ok (.istore_n 1, 1) := by decide +kernel
theorem d_Mo_said_2 : decode b_Mo_said 2 = .ok (.iload_n 1, 1) := by decide +kernel
theorem d_Mo_said_3 : decode b_Mo_said 3 = .ok (.sipush 384, 3) := by decide +kernel
theorem d_Mo_said_6 : decode b_Mo_said 6 = .ok (.if_icmp .ge 16, 3) := by decide +kernel
theorem d_Mo_said_9 : decode b_Mo_said 9 = .ok (.aload_n 0, 1) := by decide +kernel
theorem d_Mo_said_10 : decode b_Mo_said 10 = .ok (.getfield 32, 3) := by decide +kernel
theorem d_Mo_said_13 : decode b_Mo_said 13 = .ok (.iload_n 1, 1) := by decide +kernel
theorem d_Mo_said_14 : decode b_Mo_said 14 = .ok (.iconst 0, 1) := by decide +kernel
theorem d_Mo_said_15 : decode b_Mo_said 15 = .ok (.bastore, 1) := by decide +kernel
theorem d_Mo_said_16 : decode b_Mo_said 16 = .ok (.iinc 1 1, 3) := by decide +kernel
theorem d_Mo_said_19 : decode b_Mo_said 19 = .ok (.goto (-17), 3) := by decide +kernel
theorem d_Mo_said_22 : decode b_Mo_said 22 = .ok (.aload_n 0, 1) := by decide +kernel
theorem d_Mo_said_23 : decode b_Mo_said 23 = .ok (.getfield 29, 3) := by decide +kernel
theorem d_Mo_said_26 : decode b_Mo_said 26 = .ok (.iconst 0, 1) := by decide +kernel
theorem d_Mo_said_27 : decode b_Mo_said 27 = .ok (.aload_n 0, 1) := by decide +kernel
theorem d_Mo_said_28 : decode b_Mo_said 28 = .ok (.invokevirtual 93, 3) := by decide +kernel
theorem d_Mo_said_31 : decode b_Mo_said 31 = .ok (.iastore, 1) := by decide +kernel
theorem d_Mo_said_32 : decode b_Mo_said 32 = .ok (.aload_n 0, 1) := by decide +kernel
theorem d_Mo_said_33 : decode b_Mo_said 33 = .ok (.getfield 32, 3) := by decide +kernel
theorem d_Mo_said_36 : decode b_Mo_said 36 = .ok (.aload_n 0, 1) := by decide +kernel
theorem d_Mo_said_37 : decode b_Mo_said 37 = .ok (.getfield 29, 3) := by decide +kernel
theorem d_Mo_said_40 : decode b_Mo_said 40 = .ok (.iconst 0, 1) := by decide +kernel
theorem d_Mo_said_41 : decode b_Mo_said 41 = .ok (.iaload, 1) := by decide +kernel
theorem d_Mo_said_42 : decode b_Mo_said 42 = .ok (.iconst 1, 1) := by decide +kernel
theorem d_Mo_said_43 : decode b_Mo_said 43 = .ok (.bastore, 1) := by decide +kernel
theorem d_Mo_said_44 : decode b_Mo_said 44 = .ok (.iconst 1, 1) := by decide +kernel
theorem d_Mo_said_45 : decode b_Mo_said 45 = .ok (.istore_n 1, 1) := by decide +kernel
theorem d_Mo_said_46 : decode b_Mo_said 46 = .ok (.iconst 0, 1) := by decide +kernel
theorem d_Mo_said_47 : decode b_Mo_said 47 = .ok (.istore_n 2, 1) := by decide +kernel
theorem d_Mo_said_48 : decode b_Mo_said 48 = .ok (.iconst 0, 1) := by decide +kernel
theorem d_Mo_said_49 : decode b_Mo_said 49 = .ok (.istore_n 3, 1) := by decide +kernel
theorem d_Mo_said_50 : decode b_Mo_said 50 = .ok (.iload_n 3, 1) := by decide +kernel
theorem d_Mo_said_51 : decode b_Mo_said 51 = .ok (.iload_n 1, 1) := by decide +kernel
theorem d_Mo_said_52 : decode b_Mo_said 52 = .ok (.if_icmp .ge 141, 3) := by decide +kernel
theorem d_Mo_said_55 : decode b_Mo_said 55 = .ok (.iconst 0, 1) := by decide +kernel
theorem d_Mo_said_56 : decode b_Mo_said 56 = .ok (.istore 4, 2) := by decide +kernel
theorem d_Mo_said_58 : decode b_Mo_said 58 = .ok (.iload 4, 2) := by decide +kernel
theorem d_Mo_said_60 : decode b_Mo_said 60 = .ok (.iload_n 2, 1) := by decide +kernel
theorem d_Mo_said_61 : decode b_Mo_said 61 = .ok (.if_icmp .ge 36, 3) := by decide +kernel
theorem d_Mo_said_64 : decode b_Mo_said 64 = .ok (.aload_n 0, 1) := by decide +kernel
theorem d_Mo_said_65 : decode b_Mo_said 65 = .ok (.getfield 19, 3) := by decide +kernel
theorem d_Mo_said_68 : decode b_Mo_said 68 = .ok (.aload_n 0, 1) := by decide +kernel
theorem d_Mo_said_69 : decode b_Mo_said 69 = .ok (.getfield 26, 3) := by decide +kernel
theorem d_Mo_said_72 : decode b_Mo_said 72 = .ok (.iload 4, 2) := by decide +kernel
theorem d_Mo_said_74 : decode b_Mo_said 74 = .ok (.iaload, 1) := by decide +kernel
theorem d_Mo_said_75 : decode b_Mo_said 75 = .ok (.laload, 1) := by decide +kernel
theorem d_Mo_said_76 : decode b_Mo_said 76 = .ok (.aload_n 0, 1) := by decide +kernel
theorem d_Mo_said_77 : decode b_Mo_said 77 = .ok (.getfield 19, 3) := by decide +kernel
theorem d_Mo_said_80 : decode b_Mo_said 80 = .ok (.aload_n 0, 1) := by decide +kernel
theorem d_Mo_said_81 : decode b_Mo_said 81 = .ok (.getfield 29, 3) := by decide +kernel
theorem d_Mo_said_84 : decode b_Mo_said 84 = .ok (.iload_n 3, 1) := by decide +kernel
theorem d_Mo_said_85 : decode b_Mo_said 85 = .ok (.iaload, 1) := by decide +kernel
theorem d_Mo_said_86 : decode b_Mo_said 86 = .ok (.laload, 1) := by decide +kernel
theorem d_Mo_said_87 : decode b_Mo_said 87 = .ok (.lcmp, 1) := by decide +kernel
theorem d_Mo_said_88 : decode b_Mo_said 88 = .ok (.ifCond .eq 9, 3) := by decide +kernel
theorem d_Mo_said_91 : decode b_Mo_said 91 = .ok (.iinc 4 1, 3) := by decide +kernel
theorem d_Mo_said_94 : decode b_Mo_said 94 = .ok (.goto (-36), 3) := by decide +kernel
theorem d_Mo_said_97 : decode b_Mo_said 97 = .ok (.iload 4, 2) := by decide +kernel
theorem d_Mo_said_99 : decode b_Mo_said 99 = .ok (.bipush 6, 2) := by decide +kernel
theorem d_Mo_said_101 : decode b_Mo_said 101 = .ok (.if_icmp .ne 6, 3) := by decide +kernel
theorem d_Mo_said_104 : decode b_Mo_said 104 = .ok (.bipush 7, 2) := by decide +kernel
theorem d_Mo_said_106 : decode b_Mo_said 106 = .ok (.ireturn, 1) := by decide +kernel
theorem d_Mo_said_107 : decode b_Mo_said 107 = .ok (.iload 4, 2) := by decide +kernel
theorem d_Mo_said_109 : decode b_Mo_said 109 = .ok (.iload_n 2, 1) := by decide +kernel
theorem d_Mo_said_110 : decode b_Mo_said 110 = .ok (.if_icmp .ne 19, 3) := by decide +kernel
theorem d_Mo_said_113 : decode b_Mo_said 113 = .ok (.aload_n 0, 1) := by decide +kernel
theorem d_Mo_said_114 : decode b_Mo_said 114 = .ok (.getfield 26, 3) := by decide +kernel
theorem d_Mo_said_117 : decode b_Mo_said 117 = .ok (.iload 4, 2) := by decide +kernel
theorem d_Mo_said_119 : decode b_Mo_said 119 = .ok (.aload_n 0, 1) := by decide +kernel
theorem d_Mo_said_120 : decode b_Mo_said 120 = .ok (.getfield 29, 3) := by decide +kernel
theorem d_Mo_said_123 : decode b_Mo_said 123 = .ok (.iload_n 3, 1) := by decide +kernel
theorem d_Mo_said_124 : decode b_Mo_said 124 = .ok (.iaload, 1) := by decide +kernel
theorem d_Mo_said_125 : decode b_Mo_said 125 = .ok (.iastore, 1) := by decide +kernel
theorem d_Mo_said_126 : decode b_Mo_said 126 = .ok (.iinc 2 1, 3) := by decide +kernel
theorem d_Mo_said_129 : decode b_Mo_said 129 = .ok (.iconst 0, 1) := by decide +kernel
theorem d_Mo_said_130 : decode b_Mo_said 130 = .ok (.istore 5, 2) := by decide +kernel
theorem d_Mo_said_132 : decode b_Mo_said 132 = .ok (.iload 5, 2) := by decide +kernel
theorem d_Mo_said_134 : decode b_Mo_said 134 = .ok (.iconst 2, 1) := by decide +kernel
theorem d_Mo_said_135 : decode b_Mo_said 135 = .ok (.if_icmp .ge 52, 3) := by decide +kernel
theorem d_Mo_said_138 : decode b_Mo_said 138 = .ok (.aload_n 0, 1) := by decide +kernel
theorem d_Mo_said_139 : decode b_Mo_said 139 = .ok (.aload_n 0, 1) := by decide +kernel
theorem d_Mo_said_140 : decode b_Mo_said 140 = .ok (.getfield 29, 3) := by decide +kernel
theorem d_Mo_said_143 : decode b_Mo_said 143 = .ok (.iload_n 3, 1) := by decide +kernel
theorem d_Mo_said_144 : decode b_Mo_said 144 = .ok (.iaload, 1) := by decide +kernel
theorem d_Mo_said_145 : decode b_Mo_said 145 = .ok (.iload 5, 2) := by decide +kernel
theorem d_Mo_said_147 : decode b_Mo_said 147 = .ok (.invokevirtual 90, 3) := by decide +kernel
theorem d_Mo_said_150 : decode b_Mo_said 150 = .ok (.istore 6, 2) := by decide +kernel
theorem d_Mo_said_152 : decode b_Mo_said 152 = .ok (.aload_n 0, 1) := by decide +kernel
theorem d_Mo_said_153 : decode b_Mo_said 153 = .ok (.getfield 32, 3) := by decide +kernel
theorem d_Mo_said_156 : decode b_Mo_said 156 = .ok (.iload 6, 2) := by decide +kernel
theorem d_Mo_said_158 : decode b_Mo_said 158 = .ok (.baload, 1) := by decide +kernel
theorem d_Mo_said_159 : decode b_Mo_said 159 = .ok (.ifCond .ne 22, 3) := by decide +kernel
theorem d_Mo_said_162 : decode b_Mo_said 162 = .ok (.aload_n 0, 1) := by decide +kernel
theorem d_Mo_said_163 : decode b_Mo_said 163 = .ok (.getfield 32, 3) := by decide +kernel
theorem d_Mo_said_166 : decode b_Mo_said 166 = .ok (.iload 6, 2) := by decide +kernel
theorem d_Mo_said_168 : decode b_Mo_said 168 = .ok (.iconst 1, 1) := by decide +kernel
theorem d_Mo_said_169 : decode b_Mo_said 169 = .ok (.bastore, 1) := by decide +kernel
theorem d_Mo_said_170 : decode b_Mo_said 170 = .ok (.aload_n 0, 1) := by decide +kernel
theorem d_Mo_said_171 : decode b_Mo_said 171 = .ok (.getfield 29, 3) := by decide +kernel
theorem d_Mo_said_174 : decode b_Mo_said 174 = .ok (.iload_n 1, 1) := by decide +kernel
theorem d_Mo_said_175 : decode b_Mo_said 175 = .ok (.iload 6, 2) := by decide +kernel
theorem d_Mo_said_177 : decode b_Mo_said 177 = .ok (.iastore, 1) := by decide +kernel
theorem d_Mo_said_178 : decode b_Mo_said 178 = .ok (.iinc 1 1, 3) := by decide +kernel
theorem d_Mo_said_181 : decode b_Mo_said 181 = .ok (.iinc 5 1, 3) := by decide +kernel
theorem d_Mo_said_184 : decode b_Mo_said 184 = .ok (.goto (-52), 3) := by decide +kernel
theorem d_Mo_said_187 : decode b_Mo_said 187 = .ok (.iinc 3 1, 3) := by decide +kernel
theorem d_Mo_said_190 : decode b_Mo_said 190 = .ok (.goto (-140), 3) := by decide +kernel
theorem d_Mo_said_193 : decode b_Mo_said 193 = .ok (.iload_n 2, 1) := by decide +kernel
theorem d_Mo_said_194 : decode b_Mo_said 194 = .ok (.ireturn, 1) := by decide +kernel
