theorem d_Lw_law_0 : decode code 0 = .ok (.new 7, 3) := by decide +kernel
theorem d_Lw_law_3 : decode code 3 = .ok (.dup, 1) := by decide +kernel
theorem d_Lw_law_4 : decode code 4 = .ok (.invokespecial 9, 3) := by decide +kernel
theorem d_Lw_law_7 : decode code 7 = .ok (.astore_n 1, 1) := by decide +kernel
theorem d_Lw_law_8 : decode code 8 = .ok (.new 10, 3) := by decide +kernel
theorem d_Lw_law_11 : decode code 11 = .ok (.dup, 1) := by decide +kernel
theorem d_Lw_law_12 : decode code 12 = .ok (.invokespecial 12, 3) := by decide +kernel
theorem d_Lw_law_15 : decode code 15 = .ok (.astore_n 2, 1) := by decide +kernel
theorem d_Lw_law_16 : decode code 16 = .ok (.iconst 0, 1) := by decide +kernel
theorem d_Lw_law_17 : decode code 17 = .ok (.istore_n 3, 1) := by decide +kernel
theorem d_Lw_law_18 : decode code 18 = .ok (.iload_n 3, 1) := by decide +kernel
theorem d_Lw_law_19 : decode code 19 = .ok (.aload_n 0, 1) := by decide +kernel
theorem d_Lw_law_20 : decode code 20 = .ok (.arraylength, 1) := by decide +kernel
theorem d_Lw_law_21 : decode code 21 = .ok (.iconst 5, 1) := by decide +kernel
theorem d_Lw_law_22 : decode code 22 = .ok (.isub, 1) := by decide +kernel
theorem d_Lw_law_23 : decode code 23 = .ok (.if_icmp .gt 692, 3) := by decide +kernel
theorem d_Lw_law_26 : decode code 26 = .ok (.aload_n 0, 1) := by decide +kernel
theorem d_Lw_law_27 : decode code 27 = .ok (.iload_n 3, 1) := by decide +kernel
theorem d_Lw_law_28 : decode code 28 = .ok (.iaload, 1) := by decide +kernel
theorem d_Lw_law_29 : decode code 29 = .ok (.bipush 31, 2) := by decide +kernel
theorem d_Lw_law_31 : decode code 31 = .ok (.iand, 1) := by decide +kernel
theorem d_Lw_law_32 : decode code 32 = .ok (.tableswitch 677 0 19 #[96, 119, 152, 185, 218, 241, 264, 277, 290, 313, 356, 389, 462, 495, 518, 531, 555, 588, 631, 654], 96) := by decide +kernel
theorem d_Lw_law_128 : decode code 128 = .ok (.aload_n 1, 1) := by decide +kernel
theorem d_Lw_law_129 : decode code 129 = .ok (.aload_n 0, 1) := by decide +kernel
theorem d_Lw_law_130 : decode code 130 = .ok (.iload_n 3, 1) := by decide +kernel
theorem d_Lw_law_131 : decode code 131 = .ok (.iconst 1, 1) := by decide +kernel
theorem d_Lw_law_132 : decode code 132 = .ok (.iadd, 1) := by decide +kernel
theorem d_Lw_law_133 : decode code 133 = .ok (.iaload, 1) := by decide +kernel
theorem d_Lw_law_134 : decode code 134 = .ok (.invokevirtual 13, 3) := by decide +kernel
theorem d_Lw_law_137 : decode code 137 = .ok (.aload_n 2, 1) := by decide +kernel
theorem d_Lw_law_138 : decode code 138 = .ok (.aload_n 0, 1) := by decide +kernel
theorem d_Lw_law_139 : decode code 139 = .ok (.iload_n 3, 1) := by decide +kernel
theorem d_Lw_law_140 : decode code 140 = .ok (.iconst 1, 1) := by decide +kernel
theorem d_Lw_law_141 : decode code 141 = .ok (.iadd, 1) := by decide +kernel
theorem d_Lw_law_142 : decode code 142 = .ok (.iaload, 1) := by decide +kernel
theorem d_Lw_law_143 : decode code 143 = .ok (.invokevirtual 17, 3) := by decide +kernel
theorem d_Lw_law_146 : decode code 146 = .ok (.if_icmp .eq 563, 3) := by decide +kernel
theorem d_Lw_law_149 : decode code 149 = .ok (.iconst 0, 1) := by decide +kernel
theorem d_Lw_law_150 : decode code 150 = .ok (.ireturn, 1) := by decide +kernel
theorem d_Lw_law_151 : decode code 151 = .ok (.aload_n 1, 1) := by decide +kernel
theorem d_Lw_law_152 : decode code 152 = .ok (.aload_n 0, 1) := by decide +kernel
theorem d_Lw_law_153 : decode code 153 = .ok (.iload_n 3, 1) := by decide +kernel
theorem d_Lw_law_154 : decode code 154 = .ok (.iconst 1, 1) := by decide +kernel
theorem d_Lw_law_155 : decode code 155 = .ok (.iadd, 1) := by decide +kernel
theorem d_Lw_law_156 : decode code 156 = .ok (.iaload, 1) := by decide +kernel
theorem d_Lw_law_157 : decode code 157 = .ok (.aload_n 0, 1) := by decide +kernel
theorem d_Lw_law_158 : decode code 158 = .ok (.iload_n 3, 1) := by decide +kernel
theorem d_Lw_law_159 : decode code 159 = .ok (.iconst 2, 1) := by decide +kernel
theorem d_Lw_law_160 : decode code 160 = .ok (.iadd, 1) := by decide +kernel
theorem d_Lw_law_161 : decode code 161 = .ok (.iaload, 1) := by decide +kernel
theorem d_Lw_law_162 : decode code 162 = .ok (.invokevirtual 18, 3) := by decide +kernel
theorem d_Lw_law_165 : decode code 165 = .ok (.aload_n 2, 1) := by decide +kernel
theorem d_Lw_law_166 : decode code 166 = .ok (.aload_n 0, 1) := by decide +kernel
theorem d_Lw_law_167 : decode code 167 = .ok (.iload_n 3, 1) := by decide +kernel
theorem d_Lw_law_168 : decode code 168 = .ok (.iconst 1, 1) := by decide +kernel
theorem d_Lw_law_169 : decode code 169 = .ok (.iadd, 1) := by decide +kernel
theorem d_Lw_law_170 : decode code 170 = .ok (.iaload, 1) := by decide +kernel
theorem d_Lw_law_171 : decode code 171 = .ok (.aload_n 0, 1) := by decide +kernel
theorem d_Lw_law_172 : decode code 172 = .ok (.iload_n 3, 1) := by decide +kernel
theorem d_Lw_law_173 : decode code 173 = .ok (.iconst 2, 1) := by decide +kernel
theorem d_Lw_law_174 : decode code 174 = .ok (.iadd, 1) := by decide +kernel
theorem d_Lw_law_175 : decode code 175 = .ok (.iaload, 1) := by decide +kernel
theorem d_Lw_law_176 : decode code 176 = .ok (.invokevirtual 22, 3) := by decide +kernel
theorem d_Lw_law_179 : decode code 179 = .ok (.if_icmp .eq 530, 3) := by decide +kernel
theorem d_Lw_law_182 : decode code 182 = .ok (.iconst 0, 1) := by decide +kernel
theorem d_Lw_law_183 : decode code 183 = .ok (.ireturn, 1) := by decide +kernel
theorem d_Lw_law_184 : decode code 184 = .ok (.aload_n 1, 1) := by decide +kernel
theorem d_Lw_law_185 : decode code 185 = .ok (.aload_n 0, 1) := by decide +kernel
theorem d_Lw_law_186 : decode code 186 = .ok (.iload_n 3, 1) := by decide +kernel
theorem d_Lw_law_187 : decode code 187 = .ok (.iconst 1, 1) := by decide +kernel
theorem d_Lw_law_188 : decode code 188 = .ok (.iadd, 1) := by decide +kernel
theorem d_Lw_law_189 : decode code 189 = .ok (.iaload, 1) := by decide +kernel
theorem d_Lw_law_190 : decode code 190 = .ok (.aload_n 0, 1) := by decide +kernel
theorem d_Lw_law_191 : decode code 191 = .ok (.iload_n 3, 1) := by decide +kernel
theorem d_Lw_law_192 : decode code 192 = .ok (.iconst 2, 1) := by decide +kernel
theorem d_Lw_law_193 : decode code 193 = .ok (.iadd, 1) := by decide +kernel
theorem d_Lw_law_194 : decode code 194 = .ok (.iaload, 1) := by decide +kernel
theorem d_Lw_law_195 : decode code 195 = .ok (.invokevirtual 23, 3) := by decide +kernel
theorem d_Lw_law_198 : decode code 198 = .ok (.aload_n 2, 1) := by decide +kernel
theorem d_Lw_law_199 : decode code 199 = .ok (.aload_n 0, 1) := by decide +kernel
theorem d_Lw_law_200 : decode code 200 = .ok (.iload_n 3, 1) := by decide +kernel
theorem d_Lw_law_201 : decode code 201 = .ok (.iconst 1, 1) := by decide +kernel
theorem d_Lw_law_202 : decode code 202 = .ok (.iadd, 1) := by decide +kernel
theorem d_Lw_law_203 : decode code 203 = .ok (.iaload, 1) := by decide +kernel
theorem d_Lw_law_204 : decode code 204 = .ok (.aload_n 0, 1) := by decide +kernel
theorem d_Lw_law_205 : decode code 205 = .ok (.iload_n 3, 1) := by decide +kernel
theorem d_Lw_law_206 : decode code 206 = .ok (.iconst 2, 1) := by decide +kernel
theorem d_Lw_law_207 : decode code 207 = .ok (.iadd, 1) := by decide +kernel
theorem d_Lw_law_208 : decode code 208 = .ok (.iaload, 1) := by decide +kernel
theorem d_Lw_law_209 : decode code 209 = .ok (.invokevirtual 26, 3) := by decide +kernel
theorem d_Lw_law_212 : decode code 212 = .ok (.if_icmp .eq 497, 3) := by decide +kernel
theorem d_Lw_law_215 : decode code 215 = .ok (.iconst 0, 1) := by decide +kernel
theorem d_Lw_law_216 : decode code 216 = .ok (.ireturn, 1) := by decide +kernel
theorem d_Lw_law_217 : decode code 217 = .ok (.aload_n 1, 1) := by decide +kernel
theorem d_Lw_law_218 : decode code 218 = .ok (.aload_n 0, 1) := by decide +kernel
theorem d_Lw_law_219 : decode code 219 = .ok (.iload_n 3, 1) := by decide +kernel
theorem d_Lw_law_220 : decode code 220 = .ok (.iconst 1, 1) := by decide +kernel
theorem d_Lw_law_221 : decode code 221 = .ok (.iadd, 1) := by decide +kernel
theorem d_Lw_law_222 : decode code 222 = .ok (.iaload, 1) := by decide +kernel
theorem d_Lw_law_223 : decode code 223 = .ok (.aload_n 0, 1) := by decide +kernel
theorem d_Lw_law_224 : decode code 224 = .ok (.iload_n 3, 1) := by decide +kernel
theorem d_Lw_law_225 : decode code 225 = .ok (.iconst 2, 1) := by decide +kernel
theorem d_Lw_law_226 : decode code 226 = .ok (.iadd, 1) := by decide +kernel
theorem d_Lw_law_227 : decode code 227 = .ok (.iaload, 1) := by decide +kernel
theorem d_Lw_law_228 : decode code 228 = .ok (.invokevirtual 27, 3) := by decide +kernel
theorem d_Lw_law_231 : decode code 231 = .ok (.aload_n 2, 1) := by decide +kernel
theorem d_Lw_law_232 : decode code 232 = .ok (.aload_n 0, 1) := by decide +kernel
theorem d_Lw_law_233 : decode code 233 = .ok (.iload_n 3, 1) := by decide +kernel
theorem d_Lw_law_234 : decode code 234 = .ok (.iconst 1, 1) := by decide +kernel
theorem d_Lw_law_235 : decode code 235 = .ok (.iadd, 1) := by decide +kernel
theorem d_Lw_law_236 : decode code 236 = .ok (.iaload, 1) := by decide +kernel
theorem d_Lw_law_237 : decode code 237 = .ok (.aload_n 0, 1) := by decide +kernel
theorem d_Lw_law_238 : decode code 238 = .ok (.iload_n 3, 1) := by decide +kernel
theorem d_Lw_law_239 : decode code 239 = .ok (.iconst 2, 1) := by decide +kernel
theorem d_Lw_law_240 : decode code 240 = .ok (.iadd, 1) := by decide +kernel
theorem d_Lw_law_241 : decode code 241 = .ok (.iaload, 1) := by decide +kernel
theorem d_Lw_law_242 : decode code 242 = .ok (.invokevirtual 30, 3) := by decide +kernel
theorem d_Lw_law_245 : decode code 245 = .ok (.if_icmp .eq 464, 3) := by decide +kernel
theorem d_Lw_law_248 : decode code 248 = .ok (.iconst 0, 1) := by decide +kernel
theorem d_Lw_law_249 : decode code 249 = .ok (.ireturn, 1) := by decide +kernel
theorem d_Lw_law_250 : decode code 250 = .ok (.aload_n 1, 1) := by decide +kernel
theorem d_Lw_law_251 : decode code 251 = .ok (.aload_n 0, 1) := by decide +kernel
theorem d_Lw_law_252 : decode code 252 = .ok (.iload_n 3, 1) := by decide +kernel
theorem d_Lw_law_253 : decode code 253 = .ok (.iconst 1, 1) := by decide +kernel
theorem d_Lw_law_254 : decode code 254 = .ok (.iadd, 1) := by decide +kernel
theorem d_Lw_law_255 : decode code 255 = .ok (.iaload, 1) := by decide +kernel
theorem d_Lw_law_256 : decode code 256 = .ok (.invokevirtual 31, 3) := by decide +kernel
theorem d_Lw_law_259 : decode code 259 = .ok (.aload_n 2, 1) := by decide +kernel
theorem d_Lw_law_260 : decode code 260 = .ok (.aload_n 0, 1) := by decide +kernel
theorem d_Lw_law_261 : decode code 261 = .ok (.iload_n 3, 1) := by decide +kernel
