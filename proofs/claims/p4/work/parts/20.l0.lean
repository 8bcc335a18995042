theorem md_L_law_0 : decode mb_L_law 0 = .ok (.new 8, 3) := by decide +kernel
theorem md_L_law_3 : decode mb_L_law 3 = .ok (.dup, 1) := by decide +kernel
theorem md_L_law_4 : decode mb_L_law 4 = .ok (.invokespecial 72, 3) := by decide +kernel
theorem md_L_law_7 : decode mb_L_law 7 = .ok (.astore_n 1, 1) := by decide +kernel
theorem md_L_law_8 : decode mb_L_law 8 = .ok (.new 73, 3) := by decide +kernel
theorem md_L_law_11 : decode mb_L_law 11 = .ok (.dup, 1) := by decide +kernel
theorem md_L_law_12 : decode mb_L_law 12 = .ok (.invokespecial 75, 3) := by decide +kernel
theorem md_L_law_15 : decode mb_L_law 15 = .ok (.astore_n 2, 1) := by decide +kernel
theorem md_L_law_16 : decode mb_L_law 16 = .ok (.iconst 1, 1) := by decide +kernel
theorem md_L_law_17 : decode mb_L_law 17 = .ok (.newarray .long, 2) := by decide +kernel
theorem md_L_law_19 : decode mb_L_law 19 = .ok (.astore_n 3, 1) := by decide +kernel
theorem md_L_law_20 : decode mb_L_law 20 = .ok (.iconst 0, 1) := by decide +kernel
theorem md_L_law_21 : decode mb_L_law 21 = .ok (.istore 4, 2) := by decide +kernel
theorem md_L_law_23 : decode mb_L_law 23 = .ok (.iload 4, 2) := by decide +kernel
theorem md_L_law_25 : decode mb_L_law 25 = .ok (.aload_n 0, 1) := by decide +kernel
theorem md_L_law_26 : decode mb_L_law 26 = .ok (.arraylength, 1) := by decide +kernel
theorem md_L_law_27 : decode mb_L_law 27 = .ok (.bipush 9, 2) := by decide +kernel
theorem md_L_law_29 : decode mb_L_law 29 = .ok (.isub, 1) := by decide +kernel
theorem md_L_law_30 : decode mb_L_law 30 = .ok (.if_icmp .gt 1160, 3) := by decide +kernel
theorem md_L_law_33 : decode mb_L_law 33 = .ok (.aload_n 0, 1) := by decide +kernel
theorem md_L_law_34 : decode mb_L_law 34 = .ok (.iload 4, 2) := by decide +kernel
theorem md_L_law_36 : decode mb_L_law 36 = .ok (.iaload, 1) := by decide +kernel
theorem md_L_law_37 : decode mb_L_law 37 = .ok (.bipush 31, 2) := by decide +kernel
theorem md_L_law_39 : decode mb_L_law 39 = .ok (.iand, 1) := by decide +kernel
theorem md_L_law_40 : decode mb_L_law 40 = .ok (.tableswitch 1144 0 16 #[84, 109, 122, 190, 230, 346, 386, 446, 644, 672, 688, 728, 892, 932, 960, 1020, 1072], 84) := by decide +kernel
theorem md_L_law_124 : decode mb_L_law 124 = .ok (.aload_n 1, 1) := by decide +kernel
theorem md_L_law_125 : decode mb_L_law 125 = .ok (.aload_n 0, 1) := by decide +kernel
theorem md_L_law_126 : decode mb_L_law 126 = .ok (.iload 4, 2) := by decide +kernel
theorem md_L_law_128 : decode mb_L_law 128 = .ok (.iconst 1, 1) := by decide +kernel
theorem md_L_law_129 : decode mb_L_law 129 = .ok (.iadd, 1) := by decide +kernel
theorem md_L_law_130 : decode mb_L_law 130 = .ok (.iaload, 1) := by decide +kernel
theorem md_L_law_131 : decode mb_L_law 131 = .ok (.invokevirtual 76, 3) := by decide +kernel
theorem md_L_law_134 : decode mb_L_law 134 = .ok (.pop, 1) := by decide +kernel
theorem md_L_law_135 : decode mb_L_law 135 = .ok (.aload_n 2, 1) := by decide +kernel
theorem md_L_law_136 : decode mb_L_law 136 = .ok (.aload_n 0, 1) := by decide +kernel
theorem md_L_law_137 : decode mb_L_law 137 = .ok (.iload 4, 2) := by decide +kernel
theorem md_L_law_139 : decode mb_L_law 139 = .ok (.iconst 1, 1) := by decide +kernel
theorem md_L_law_140 : decode mb_L_law 140 = .ok (.iadd, 1) := by decide +kernel
theorem md_L_law_141 : decode mb_L_law 141 = .ok (.iaload, 1) := by decide +kernel
theorem md_L_law_142 : decode mb_L_law 142 = .ok (.invokevirtual 80, 3) := by decide +kernel
theorem md_L_law_145 : decode mb_L_law 145 = .ok (.pop, 1) := by decide +kernel
theorem md_L_law_146 : decode mb_L_law 146 = .ok (.goto 1038, 3) := by decide +kernel
theorem md_L_law_149 : decode mb_L_law 149 = .ok (.aload_n 1, 1) := by decide +kernel
theorem md_L_law_150 : decode mb_L_law 150 = .ok (.invokevirtual 81, 3) := by decide +kernel
theorem md_L_law_153 : decode mb_L_law 153 = .ok (.pop, 1) := by decide +kernel
theorem md_L_law_154 : decode mb_L_law 154 = .ok (.aload_n 2, 1) := by decide +kernel
theorem md_L_law_155 : decode mb_L_law 155 = .ok (.invokevirtual 84, 3) := by decide +kernel
theorem md_L_law_158 : decode mb_L_law 158 = .ok (.pop, 1) := by decide +kernel
theorem md_L_law_159 : decode mb_L_law 159 = .ok (.goto 1025, 3) := by decide +kernel
theorem md_L_law_162 : decode mb_L_law 162 = .ok (.aload_n 1, 1) := by decide +kernel
theorem md_L_law_163 : decode mb_L_law 163 = .ok (.aload_n 0, 1) := by decide +kernel
theorem md_L_law_164 : decode mb_L_law 164 = .ok (.iload 4, 2) := by decide +kernel
theorem md_L_law_166 : decode mb_L_law 166 = .ok (.iconst 1, 1) := by decide +kernel
theorem md_L_law_167 : decode mb_L_law 167 = .ok (.iadd, 1) := by decide +kernel
theorem md_L_law_168 : decode mb_L_law 168 = .ok (.iaload, 1) := by decide +kernel
theorem md_L_law_169 : decode mb_L_law 169 = .ok (.aload_n 0, 1) := by decide +kernel
theorem md_L_law_170 : decode mb_L_law 170 = .ok (.iload 4, 2) := by decide +kernel
theorem md_L_law_172 : decode mb_L_law 172 = .ok (.iconst 2, 1) := by decide +kernel
theorem md_L_law_173 : decode mb_L_law 173 = .ok (.iadd, 1) := by decide +kernel
theorem md_L_law_174 : decode mb_L_law 174 = .ok (.iaload, 1) := by decide +kernel
theorem md_L_law_175 : decode mb_L_law 175 = .ok (.aload_n 3, 1) := by decide +kernel
theorem md_L_law_176 : decode mb_L_law 176 = .ok (.invokestatic 85, 3) := by decide +kernel
theorem md_L_law_179 : decode mb_L_law 179 = .ok (.istore 5, 2) := by decide +kernel
theorem md_L_law_181 : decode mb_L_law 181 = .ok (.aload_n 2, 1) := by decide +kernel
theorem md_L_law_182 : decode mb_L_law 182 = .ok (.aload_n 0, 1) := by decide +kernel
theorem md_L_law_183 : decode mb_L_law 183 = .ok (.iload 4, 2) := by decide +kernel
theorem md_L_law_185 : decode mb_L_law 185 = .ok (.iconst 1, 1) := by decide +kernel
theorem md_L_law_186 : decode mb_L_law 186 = .ok (.iadd, 1) := by decide +kernel
theorem md_L_law_187 : decode mb_L_law 187 = .ok (.iaload, 1) := by decide +kernel
theorem md_L_law_188 : decode mb_L_law 188 = .ok (.aload_n 0, 1) := by decide +kernel
theorem md_L_law_189 : decode mb_L_law 189 = .ok (.iload 4, 2) := by decide +kernel
theorem md_L_law_191 : decode mb_L_law 191 = .ok (.iconst 2, 1) := by decide +kernel
theorem md_L_law_192 : decode mb_L_law 192 = .ok (.iadd, 1) := by decide +kernel
theorem md_L_law_193 : decode mb_L_law 193 = .ok (.iaload, 1) := by decide +kernel
theorem md_L_law_194 : decode mb_L_law 194 = .ok (.invokevirtual 90, 3) := by decide +kernel
theorem md_L_law_197 : decode mb_L_law 197 = .ok (.istore 6, 2) := by decide +kernel
theorem md_L_law_199 : decode mb_L_law 199 = .ok (.aload_n 2, 1) := by decide +kernel
theorem md_L_law_200 : decode mb_L_law 200 = .ok (.invokevirtual 91, 3) := by decide +kernel
theorem md_L_law_203 : decode mb_L_law 203 = .ok (.iload 5, 2) := by decide +kernel
theorem md_L_law_205 : decode mb_L_law 205 = .ok (.if_icmp .eq 5, 3) := by decide +kernel
theorem md_L_law_208 : decode mb_L_law 208 = .ok (.iconst 0, 1) := by decide +kernel
theorem md_L_law_209 : decode mb_L_law 209 = .ok (.ireturn, 1) := by decide +kernel
theorem md_L_law_210 : decode mb_L_law 210 = .ok (.iload 5, 2) := by decide +kernel
theorem md_L_law_212 : decode mb_L_law 212 = .ok (.ifCond .ne 15, 3) := by decide +kernel
theorem md_L_law_215 : decode mb_L_law 215 = .ok (.aload_n 3, 1) := by decide +kernel
theorem md_L_law_216 : decode mb_L_law 216 = .ok (.iconst 0, 1) := by decide +kernel
theorem md_L_law_217 : decode mb_L_law 217 = .ok (.laload, 1) := by decide +kernel
theorem md_L_law_218 : decode mb_L_law 218 = .ok (.iload 6, 2) := by decide +kernel
theorem md_L_law_220 : decode mb_L_law 220 = .ok (.i2l, 1) := by decide +kernel
theorem md_L_law_221 : decode mb_L_law 221 = .ok (.lcmp, 1) := by decide +kernel
theorem md_L_law_222 : decode mb_L_law 222 = .ok (.ifCond .eq 5, 3) := by decide +kernel
theorem md_L_law_225 : decode mb_L_law 225 = .ok (.iconst 0, 1) := by decide +kernel
theorem md_L_law_226 : decode mb_L_law 226 = .ok (.ireturn, 1) := by decide +kernel
theorem md_L_law_227 : decode mb_L_law 227 = .ok (.goto 957, 3) := by decide +kernel
theorem md_L_law_230 : decode mb_L_law 230 = .ok (.aload_n 1, 1) := by decide +kernel
theorem md_L_law_231 : decode mb_L_law 231 = .ok (.aload_n 0, 1) := by decide +kernel
theorem md_L_law_232 : decode mb_L_law 232 = .ok (.iload 4, 2) := by decide +kernel
theorem md_L_law_234 : decode mb_L_law 234 = .ok (.iconst 1, 1) := by decide +kernel
theorem md_L_law_235 : decode mb_L_law 235 = .ok (.iadd, 1) := by decide +kernel
theorem md_L_law_236 : decode mb_L_law 236 = .ok (.iaload, 1) := by decide +kernel
theorem md_L_law_237 : decode mb_L_law 237 = .ok (.aload_n 0, 1) := by decide +kernel
theorem md_L_law_238 : decode mb_L_law 238 = .ok (.iload 4, 2) := by decide +kernel
theorem md_L_law_240 : decode mb_L_law 240 = .ok (.iconst 2, 1) := by decide +kernel
theorem md_L_law_241 : decode mb_L_law 241 = .ok (.iadd, 1) := by decide +kernel
theorem md_L_law_242 : decode mb_L_law 242 = .ok (.iaload, 1) := by decide +kernel
theorem md_L_law_243 : decode mb_L_law 243 = .ok (.aload_n 3, 1) := by decide +kernel
theorem md_L_law_244 : decode mb_L_law 244 = .ok (.invokestatic 94, 3) := by decide +kernel
theorem md_L_law_247 : decode mb_L_law 247 = .ok (.istore 5, 2) := by decide +kernel
theorem md_L_law_249 : decode mb_L_law 249 = .ok (.aload_n 2, 1) := by decide +kernel
theorem md_L_law_250 : decode mb_L_law 250 = .ok (.aload_n 0, 1) := by decide +kernel
theorem md_L_law_251 : decode mb_L_law 251 = .ok (.iload 4, 2) := by decide +kernel
theorem md_L_law_253 : decode mb_L_law 253 = .ok (.iconst 1, 1) := by decide +kernel
theorem md_L_law_254 : decode mb_L_law 254 = .ok (.iadd, 1) := by decide +kernel
theorem md_L_law_255 : decode mb_L_law 255 = .ok (.iaload, 1) := by decide +kernel
theorem md_L_law_256 : decode mb_L_law 256 = .ok (.aload_n 0, 1) := by decide +kernel
theorem md_L_law_257 : decode mb_L_law 257 = .ok (.iload 4, 2) := by decide +kernel
theorem md_L_law_259 : decode mb_L_law 259 = .ok (.iconst 2, 1) := by decide +kernel
theorem md_L_law_260 : decode mb_L_law 260 = .ok (.iadd, 1) := by decide +kernel
theorem md_L_law_261 : decode mb_L_law 261 = .ok (.iaload, 1) := by decide +kernel
theorem md_L_law_262 : decode mb_L_law 262 = .ok (.invokevirtual 96, 3) := by decide +kernel
theorem md_L_law_265 : decode mb_L_law 265 = .ok (.istore 6, 2) := by decide +kernel
theorem md_L_law_267 : decode mb_L_law 267 = .ok (.goto 917, 3) := by decide +kernel
theorem md_L_law_270 : decode mb_L_law 270 = .ok (.aload_n 1, 1) := by decide +kernel
theorem md_L_law_271 : decode mb_L_law 271 = .ok (.aload_n 0, 1) := by decide +kernel
theorem md_L_law_272 : decode mb_L_law 272 = .ok (.iload 4, 2) := by decide +kernel
theorem md_L_law_274 : decode mb_L_law 274 = .ok (.iconst 1, 1) := by decide +kernel
theorem md_L_law_275 : decode mb_L_law 275 = .ok (.iadd, 1) := by decide +kernel
theorem md_L_law_276 : decode mb_L_law 276 = .ok (.iaload, 1) := by decide +kernel
theorem md_L_law_277 : decode mb_L_law 277 = .ok (.i2l, 1) := by decide +kernel
theorem md_L_law_278 : decode mb_L_law 278 = .ok (.bipush 32, 2) := by decide +kernel
