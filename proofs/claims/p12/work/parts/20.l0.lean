theorem md_L_law_0 : decode mb_L_law 0 = .ok (.new 8, 3) := by decide +kernel
theorem md_L_law_3 : decode mb_L_law 3 = .ok (.dup, 1) := by decide +kernel
theorem md_L_law_4 : decode mb_L_law 4 = .ok (.invokespecial 72, 3) := by decide +kernel
theorem md_L_law_7 : decode mb_L_law 7 = .ok (.astore_n 1, 1) := by decide +kernel
theorem md_L_law_8 : decode mb_L_law 8 = .ok (.new 73, 3) := by decide +kernel
theorem md_L_law_11 : decode mb_L_law 11 = .ok (.dup, 1) := by decide +kernel
theorem md_L_law_12 : decode mb_L_law 12 = .ok (.invokespecial 75, 3) := by decide +kernel
theorem md_L_law_15 : decode mb_L_law 15 = .ok (.astore_n 2, 1) := by decide +kernel
theorem md_L_law_16 : decode mb_L_law 16 = .ok (.iconst 1, 1) := by decide +kernel
theorem md_L_law_17 : decode mb_L_law 17 = .ok (.newarray .long, 2) := by decide +kernel
theorem md_L_law_19 : decode mb_L_law 19 = .ok (.astore_n 3, 1) := by decide +kernel
theorem md_L_law_20 : decode mb_L_law 20 = .ok (.iconst 0, 1) := by decide +kernel
theorem md_L_law_21 : decode mb_L_law 21 = .ok (.istore 4, 2) := by decide +kernel
theorem md_L_law_23 : decode mb_L_law 23 = .ok (.iload 4, 2) := by decide +kernel
theorem md_L_law_25 : decode mb_L_law 25 = .ok (.aload_n 0, 1) := by decide +kernel
theorem md_L_law_26 : decode mb_L_law 26 = .ok (.arraylength, 1) := by decide +kernel
theorem md_L_law_27 : decode mb_L_law 27 = .ok (.bipush 9, 2) := by decide +kernel
theorem md_L_law_29 : decode mb_L_law 29 = .ok (.isub, 1) := by decide +kernel
theorem md_L_law_30 : decode mb_L_law 30 = .ok (.if_icmp .gt 1159, 3) := by decide +kernel
theorem md_L_law_33 : decode mb_L_law 33 = .ok (.aload_n 0, 1) := by decide +kernel
theorem md_L_law_34 : decode mb_L_law 34 = .ok (.iload 4, 2) := by decide +kernel
theorem md_L_law_36 : decode mb_L_law 36 = .ok (.iaload, 1) := by decide +kernel
theorem md_L_law_37 : decode mb_L_law 37 = .ok (.bipush 31, 2) := by decide +kernel
theorem md_L_law_39 : decode mb_L_law 39 = .ok (.iand, 1) := by decide +kernel
theorem md_L_law_40 : decode mb_L_law 40 = .ok (.tableswitch 1143 0 16 #[84, 109, 122, 162, 202, 318, 358, 418, 616, 644, 660, 727, 891, 931, 959, 1019, 1071], 84) := by decide +kernel
theorem md_L_law_124 : decode mb_L_law 124 = .ok (.aload_n 1, 1) := by decide +kernel
theorem md_L_law_125 : decode mb_L_law 125 = .ok (.aload_n 0, 1) := by decide +kernel
theorem md_L_law_126 : decode mb_L_law 126 = .ok (.iload 4, 2) := by decide +kernel
theorem md_L_law_128 : decode mb_L_law 128 = .ok (.iconst 1, 1) := by decide +kernel
theorem md_L_law_129 : decode mb_L_law 129 = .ok (.iadd, 1) := by decide +kernel
theorem md_L_law_130 : decode mb_L_law 130 = .ok (.iaload, 1) := by decide +kernel
theorem md_L_law_131 : decode mb_L_law 131 = .ok (.invokevirtual 76, 3) := by decide +kernel
theorem md_L_law_134 : decode mb_L_law 134 = .ok (.pop, 1) := by decide +kernel
theorem md_L_law_135 : decode mb_L_law 135 = .ok (.aload_n 2, 1) := by decide +kernel
theorem md_L_law_136 : decode mb_L_law 136 = .ok (.aload_n 0, 1) := by decide +kernel
theorem md_L_law_137 : decode mb_L_law 137 = .ok (.iload 4, 2) := by decide +kernel
theorem md_L_law_139 : decode mb_L_law 139 = .ok (.iconst 1, 1) := by decide +kernel
theorem md_L_law_140 : decode mb_L_law 140 = .ok (.iadd, 1) := by decide +kernel
theorem md_L_law_141 : decode mb_L_law 141 = .ok (.iaload, 1) := by decide +kernel
theorem md_L_law_142 : decode mb_L_law 142 = .ok (.invokevirtual 80, 3) := by decide +kernel
theorem md_L_law_145 : decode mb_L_law 145 = .ok (.pop, 1) := by decide +kernel
theorem md_L_law_146 : decode mb_L_law 146 = .ok (.goto 1037, 3) := by decide +kernel
theorem md_L_law_149 : decode mb_L_law 149 = .ok (.aload_n 1, 1) := by decide +kernel
theorem md_L_law_150 : decode mb_L_law 150 = .ok (.invokevirtual 81, 3) := by decide +kernel
theorem md_L_law_153 : decode mb_L_law 153 = .ok (.pop, 1) := by decide +kernel
theorem md_L_law_154 : decode mb_L_law 154 = .ok (.aload_n 2, 1) := by decide +kernel
theorem md_L_law_155 : decode mb_L_law 155 = .ok (.invokevirtual 84, 3) := by decide +kernel
theorem md_L_law_158 : decode mb_L_law 158 = .ok (.pop, 1) := by decide +kernel
theorem md_L_law_159 : decode mb_L_law 159 = .ok (.goto 1024, 3) := by decide +kernel
theorem md_L_law_162 : decode mb_L_law 162 = .ok (.aload_n 1, 1) := by decide +kernel
theorem md_L_law_163 : decode mb_L_law 163 = .ok (.aload_n 0, 1) := by decide +kernel
theorem md_L_law_164 : decode mb_L_law 164 = .ok (.iload 4, 2) := by decide +kernel
theorem md_L_law_166 : decode mb_L_law 166 = .ok (.iconst 1, 1) := by decide +kernel
theorem md_L_law_167 : decode mb_L_law 167 = .ok (.iadd, 1) := by decide +kernel
theorem md_L_law_168 : decode mb_L_law 168 = .ok (.iaload, 1) := by decide +kernel
theorem md_L_law_169 : decode mb_L_law 169 = .ok (.aload_n 0, 1) := by decide +kernel
theorem md_L_law_170 : decode mb_L_law 170 = .ok (.iload 4, 2) := by decide +kernel
theorem md_L_law_172 : decode mb_L_law 172 = .ok (.iconst 2, 1) := by decide +kernel
theorem md_L_law_173 : decode mb_L_law 173 = .ok (.iadd, 1) := by decide +kernel
theorem md_L_law_174 : decode mb_L_law 174 = .ok (.iaload, 1) := by decide +kernel
theorem md_L_law_175 : decode mb_L_law 175 = .ok (.aload_n 3, 1) := by decide +kernel
theorem md_L_law_176 : decode mb_L_law 176 = .ok (.invokestatic 85, 3) := by decide +kernel
theorem md_L_law_179 : decode mb_L_law 179 = .ok (.istore 5, 2) := by decide +kernel
theorem md_L_law_181 : decode mb_L_law 181 = .ok (.aload_n 2, 1) := by decide +kernel
theorem md_L_law_182 : decode mb_L_law 182 = .ok (.aload_n 0, 1) := by decide +kernel
theorem md_L_law_183 : decode mb_L_law 183 = .ok (.iload 4, 2) := by decide +kernel
theorem md_L_law_185 : decode mb_L_law 185 = .ok (.iconst 1, 1) := by decide +kernel
theorem md_L_law_186 : decode mb_L_law 186 = .ok (.iadd, 1) := by decide +kernel
theorem md_L_law_187 : decode mb_L_law 187 = .ok (.iaload, 1) := by decide +kernel
theorem md_L_law_188 : decode mb_L_law 188 = .ok (.aload_n 0, 1) := by decide +kernel
theorem md_L_law_189 : decode mb_L_law 189 = .ok (.iload 4, 2) := by decide +kernel
theorem md_L_law_191 : decode mb_L_law 191 = .ok (.iconst 2, 1) := by decide +kernel
theorem md_L_law_192 : decode mb_L_law 192 = .ok (.iadd, 1) := by decide +kernel
theorem md_L_law_193 : decode mb_L_law 193 = .ok (.iaload, 1) := by decide +kernel
theorem md_L_law_194 : decode mb_L_law 194 = .ok (.invokevirtual 90, 3) := by decide +kernel
theorem md_L_law_197 : decode mb_L_law 197 = .ok (.istore 6, 2) := by decide +kernel
theorem md_L_law_199 : decode mb_L_law 199 = .ok (.goto 984, 3) := by decide +kernel
theorem md_L_law_202 : decode mb_L_law 202 = .ok (.aload_n 1, 1) := by decide +kernel
theorem md_L_law_203 : decode mb_L_law 203 = .ok (.aload_n 0, 1) := by decide +kernel
theorem md_L_law_204 : decode mb_L_law 204 = .ok (.iload 4, 2) := by decide +kernel
theorem md_L_law_206 : decode mb_L_law 206 = .ok (.iconst 1, 1) := by decide +kernel
theorem md_L_law_207 : decode mb_L_law 207 = .ok (.iadd, 1) := by decide +kernel
theorem md_L_law_208 : decode mb_L_law 208 = .ok (.iaload, 1) := by decide +kernel
theorem md_L_law_209 : decode mb_L_law 209 = .ok (.aload_n 0, 1) := by decide +kernel
theorem md_L_law_210 : decode mb_L_law 210 = .ok (.iload 4, 2) := by decide +kernel
theorem md_L_law_212 : decode mb_L_law 212 = .ok (.iconst 2, 1) := by decide +kernel
theorem md_L_law_213 : decode mb_L_law 213 = .ok (.iadd, 1) := by decide +kernel
theorem md_L_law_214 : decode mb_L_law 214 = .ok (.iaload, 1) := by decide +kernel
theorem md_L_law_215 : decode mb_L_law 215 = .ok (.aload_n 3, 1) := by decide +kernel
theorem md_L_law_216 : decode mb_L_law 216 = .ok (.invokestatic 91, 3) := by decide +kernel
theorem md_L_law_219 : decode mb_L_law 219 = .ok (.istore 5, 2) := by decide +kernel
theorem md_L_law_221 : decode mb_L_law 221 = .ok (.aload_n 2, 1) := by decide +kernel
theorem md_L_law_222 : decode mb_L_law 222 = .ok (.aload_n 0, 1) := by decide +kernel
theorem md_L_law_223 : decode mb_L_law 223 = .ok (.iload 4, 2) := by decide +kernel
theorem md_L_law_225 : decode mb_L_law 225 = .ok (.iconst 1, 1) := by decide +kernel
theorem md_L_law_226 : decode mb_L_law 226 = .ok (.iadd, 1) := by decide +kernel
theorem md_L_law_227 : decode mb_L_law 227 = .ok (.iaload, 1) := by decide +kernel
theorem md_L_law_228 : decode mb_L_law 228 = .ok (.aload_n 0, 1) := by decide +kernel
theorem md_L_law_229 : decode mb_L_law 229 = .ok (.iload 4, 2) := by decide +kernel
theorem md_L_law_231 : decode mb_L_law 231 = .ok (.iconst 2, 1) := by decide +kernel
theorem md_L_law_232 : decode mb_L_law 232 = .ok (.iadd, 1) := by decide +kernel
theorem md_L_law_233 : decode mb_L_law 233 = .ok (.iaload, 1) := by decide +kernel
theorem md_L_law_234 : decode mb_L_law 234 = .ok (.invokevirtual 93, 3) := by decide +kernel
theorem md_L_law_237 : decode mb_L_law 237 = .ok (.istore 6, 2) := by decide +kernel
theorem md_L_law_239 : decode mb_L_law 239 = .ok (.goto 944, 3) := by decide +kernel
theorem md_L_law_242 : decode mb_L_law 242 = .ok (.aload_n 1, 1) := by decide +kernel
theorem md_L_law_243 : decode mb_L_law 243 = .ok (.aload_n 0, 1) := by decide +kernel
theorem md_L_law_244 : decode mb_L_law 244 = .ok (.iload 4, 2) := by decide +kernel
theorem md_L_law_246 : decode mb_L_law 246 = .ok (.iconst 1, 1) := by decide +kernel
theorem md_L_law_247 : decode mb_L_law 247 = .ok (.iadd, 1) := by decide +kernel
theorem md_L_law_248 : decode mb_L_law 248 = .ok (.iaload, 1) := by decide +kernel
theorem md_L_law_249 : decode mb_L_law 249 = .ok (.i2l, 1) := by decide +kernel
theorem md_L_law_250 : decode mb_L_law 250 = .ok (.bipush 32, 2) := by decide +kernel
theorem md_L_law_252 : decode mb_L_law 252 = .ok (.lshl, 1) := by decide +kernel
theorem md_L_law_253 : decode mb_L_law 253 = .ok (.aload_n 0, 1) := by decide +kernel
theorem md_L_law_254 : decode mb_L_law 254 = .ok (.iload 4, 2) := by decide +kernel
theorem md_L_law_256 : decode mb_L_law 256 = .ok (.iconst 2, 1) := by decide +kernel
theorem md_L_law_257 : decode mb_L_law 257 = .ok (.iadd, 1) := by decide +kernel
theorem md_L_law_258 : decode mb_L_law 258 = .ok (.iaload, 1) := by decide +kernel
theorem md_L_law_259 : decode mb_L_law 259 = .ok (.i2l, 1) := by decide +kernel
theorem md_L_law_260 : decode mb_L_law 260 = .ok (.ldc2_w 94, 3) := by decide +kernel
theorem md_L_law_263 : decode mb_L_law 263 = .ok (.land, 1) := by decide +kernel
theorem md_L_law_264 : decode mb_L_law 264 = .ok (.lor, 1) := by decide +kernel
theorem md_L_law_265 : decode mb_L_law 265 = .ok (.aload_n 0, 1) := by decide +kernel
theorem md_L_law_266 : decode mb_L_law 266 = .ok (.iload 4, 2) := by decide +kernel
theorem md_L_law_268 : decode mb_L_law 268 = .ok (.iconst 3, 1) := by decide +kernel
theorem md_L_law_269 : decode mb_L_law 269 = .ok (.iadd, 1) := by decide +kernel
theorem md_L_law_270 : decode mb_L_law 270 = .ok (.iaload, 1) := by decide +kernel
theorem md_L_law_271 : decode mb_L_law 271 = .ok (.i2l, 1) := by decide +kernel
theorem md_L_law_272 : decode mb_L_law 272 = .ok (.bipush 32, 2) := by decide +kernel
