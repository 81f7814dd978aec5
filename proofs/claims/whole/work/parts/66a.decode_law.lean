theorem d_L_law_0 : decode c_L_law 0 = .ok (.new 8, 3) := by decide +kernel
theorem d_L_law_3 : decode c_L_law 3 = .ok (.dup, 1) := by decide +kernel
theorem d_L_law_4 : decode c_L_law 4 = .ok (.aload_n 0, 1) := by decide +kernel
theorem d_L_law_5 : decode c_L_law 5 = .ok (.iconst 0, 1) := by decide +kernel
theorem d_L_law_6 : decode c_L_law 6 = .ok (.invokestatic 64, 3) := by decide +kernel
theorem d_L_law_9 : decode c_L_law 9 = .ok (.i2l, 1) := by decide +kernel
theorem d_L_law_10 : decode c_L_law 10 = .ok (.aload_n 0, 1) := by decide +kernel
theorem d_L_law_11 : decode c_L_law 11 = .ok (.iconst 1, 1) := by decide +kernel
theorem d_L_law_12 : decode c_L_law 12 = .ok (.invokestatic 64, 3) := by decide +kernel
theorem d_L_law_15 : decode c_L_law 15 = .ok (.i2l, 1) := by decide +kernel
theorem d_L_law_16 : decode c_L_law 16 = .ok (.invokespecial 70, 3) := by decide +kernel
theorem d_L_law_19 : decode c_L_law 19 = .ok (.astore_n 1, 1) := by decide +kernel
theorem d_L_law_20 : decode c_L_law 20 = .ok (.new 73, 3) := by decide +kernel
theorem d_L_law_23 : decode c_L_law 23 = .ok (.dup, 1) := by decide +kernel
theorem d_L_law_24 : decode c_L_law 24 = .ok (.aload_n 0, 1) := by decide +kernel
theorem d_L_law_25 : decode c_L_law 25 = .ok (.iconst 0, 1) := by decide +kernel
theorem d_L_law_26 : decode c_L_law 26 = .ok (.invokestatic 64, 3) := by decide +kernel
theorem d_L_law_29 : decode c_L_law 29 = .ok (.i2l, 1) := by decide +kernel
theorem d_L_law_30 : decode c_L_law 30 = .ok (.aload_n 0, 1) := by decide +kernel
theorem d_L_law_31 : decode c_L_law 31 = .ok (.iconst 1, 1) := by decide +kernel
theorem d_L_law_32 : decode c_L_law 32 = .ok (.invokestatic 64, 3) := by decide +kernel
theorem d_L_law_35 : decode c_L_law 35 = .ok (.i2l, 1) := by decide +kernel
theorem d_L_law_36 : decode c_L_law 36 = .ok (.invokespecial 75, 3) := by decide +kernel
theorem d_L_law_39 : decode c_L_law 39 = .ok (.astore_n 2, 1) := by decide +kernel
theorem d_L_law_40 : decode c_L_law 40 = .ok (.iconst 1, 1) := by decide +kernel
theorem d_L_law_41 : decode c_L_law 41 = .ok (.newarray .long, 2) := by decide +kernel
theorem d_L_law_43 : decode c_L_law 43 = .ok (.astore_n 3, 1) := by decide +kernel
theorem d_L_law_44 : decode c_L_law 44 = .ok (.iconst 2, 1) := by decide +kernel
theorem d_L_law_45 : decode c_L_law 45 = .ok (.istore 4, 2) := by decide +kernel
theorem d_L_law_47 : decode c_L_law 47 = .ok (.iload 4, 2) := by decide +kernel
theorem d_L_law_49 : decode c_L_law 49 = .ok (.aload_n 0, 1) := by decide +kernel
theorem d_L_law_50 : decode c_L_law 50 = .ok (.arraylength, 1) := by decide +kernel
theorem d_L_law_51 : decode c_L_law 51 = .ok (.bipush 8, 2) := by decide +kernel
theorem d_L_law_53 : decode c_L_law 53 = .ok (.isub, 1) := by decide +kernel
theorem d_L_law_54 : decode c_L_law 54 = .ok (.if_icmp .gt 1412, 3) := by decide +kernel
theorem d_L_law_57 : decode c_L_law 57 = .ok (.aload_n 0, 1) := by decide +kernel
theorem d_L_law_58 : decode c_L_law 58 = .ok (.iload 4, 2) := by decide +kernel
theorem d_L_law_60 : decode c_L_law 60 = .ok (.iaload, 1) := by decide +kernel
theorem d_L_law_61 : decode c_L_law 61 = .ok (.bipush 31, 2) := by decide +kernel
theorem d_L_law_63 : decode c_L_law 63 = .ok (.iand, 1) := by decide +kernel
theorem d_L_law_64 : decode c_L_law 64 = .ok (.tableswitch 1396 0 16 #[84, 97, 248, 348, 415, 428, 523, 602, 669, 868, 923, 990, 1085, 1176, 1283, 1296, 1321], 84) := by decide +kernel
theorem d_L_law_148 : decode c_L_law 148 = .ok (.aload_n 1, 1) := by decide +kernel
theorem d_L_law_149 : decode c_L_law 149 = .ok (.invokevirtual 76, 3) := by decide +kernel
theorem d_L_law_152 : decode c_L_law 152 = .ok (.aload_n 2, 1) := by decide +kernel
theorem d_L_law_153 : decode c_L_law 153 = .ok (.invokevirtual 80, 3) := by decide +kernel
theorem d_L_law_156 : decode c_L_law 156 = .ok (.if_icmp .eq 1304, 3) := by decide +kernel
theorem d_L_law_159 : decode c_L_law 159 = .ok (.iconst 0, 1) := by decide +kernel
theorem d_L_law_160 : decode c_L_law 160 = .ok (.ireturn, 1) := by decide +kernel
theorem d_L_law_161 : decode c_L_law 161 = .ok (.aload_n 1, 1) := by decide +kernel
theorem d_L_law_162 : decode c_L_law 162 = .ok (.aload_n 0, 1) := by decide +kernel
theorem d_L_law_163 : decode c_L_law 163 = .ok (.iload 4, 2) := by decide +kernel
theorem d_L_law_165 : decode c_L_law 165 = .ok (.iconst 1, 1) := by decide +kernel
theorem d_L_law_166 : decode c_L_law 166 = .ok (.iadd, 1) := by decide +kernel
theorem d_L_law_167 : decode c_L_law 167 = .ok (.iaload, 1) := by decide +kernel
theorem d_L_law_168 : decode c_L_law 168 = .ok (.aload_n 0, 1) := by decide +kernel
theorem d_L_law_169 : decode c_L_law 169 = .ok (.iload 4, 2) := by decide +kernel
theorem d_L_law_171 : decode c_L_law 171 = .ok (.iconst 2, 1) := by decide +kernel
theorem d_L_law_172 : decode c_L_law 172 = .ok (.iadd, 1) := by decide +kernel
theorem d_L_law_173 : decode c_L_law 173 = .ok (.iaload, 1) := by decide +kernel
theorem d_L_law_174 : decode c_L_law 174 = .ok (.i2l, 1) := by decide +kernel
theorem d_L_law_175 : decode c_L_law 175 = .ok (.bipush 32, 2) := by decide +kernel
theorem d_L_law_177 : decode c_L_law 177 = .ok (.lshl, 1) := by decide +kernel
theorem d_L_law_178 : decode c_L_law 178 = .ok (.aload_n 0, 1) := by decide +kernel
theorem d_L_law_179 : decode c_L_law 179 = .ok (.iload 4, 2) := by decide +kernel
theorem d_L_law_181 : decode c_L_law 181 = .ok (.iconst 3, 1) := by decide +kernel
theorem d_L_law_182 : decode c_L_law 182 = .ok (.iadd, 1) := by decide +kernel
theorem d_L_law_183 : decode c_L_law 183 = .ok (.iaload, 1) := by decide +kernel
theorem d_L_law_184 : decode c_L_law 184 = .ok (.i2l, 1) := by decide +kernel
theorem d_L_law_185 : decode c_L_law 185 = .ok (.ldc2_w 81, 3) := by decide +kernel
theorem d_L_law_188 : decode c_L_law 188 = .ok (.land, 1) := by decide +kernel
theorem d_L_law_189 : decode c_L_law 189 = .ok (.lor, 1) := by decide +kernel
theorem d_L_law_190 : decode c_L_law 190 = .ok (.aload_n 0, 1) := by decide +kernel
theorem d_L_law_191 : decode c_L_law 191 = .ok (.iload 4, 2) := by decide +kernel
theorem d_L_law_193 : decode c_L_law 193 = .ok (.iconst 4, 1) := by decide +kernel
theorem d_L_law_194 : decode c_L_law 194 = .ok (.iadd, 1) := by decide +kernel
theorem d_L_law_195 : decode c_L_law 195 = .ok (.iaload, 1) := by decide +kernel
theorem d_L_law_196 : decode c_L_law 196 = .ok (.i2l, 1) := by decide +kernel
theorem d_L_law_197 : decode c_L_law 197 = .ok (.bipush 32, 2) := by decide +kernel
theorem d_L_law_199 : decode c_L_law 199 = .ok (.lshl, 1) := by decide +kernel
theorem d_L_law_200 : decode c_L_law 200 = .ok (.aload_n 0, 1) := by decide +kernel
theorem d_L_law_201 : decode c_L_law 201 = .ok (.iload 4, 2) := by decide +kernel
theorem d_L_law_203 : decode c_L_law 203 = .ok (.iconst 5, 1) := by decide +kernel
theorem d_L_law_204 : decode c_L_law 204 = .ok (.iadd, 1) := by decide +kernel
theorem d_L_law_205 : decode c_L_law 205 = .ok (.iaload, 1) := by decide +kernel
theorem d_L_law_206 : decode c_L_law 206 = .ok (.i2l, 1) := by decide +kernel
theorem d_L_law_207 : decode c_L_law 207 = .ok (.ldc2_w 81, 3) := by decide +kernel
theorem d_L_law_210 : decode c_L_law 210 = .ok (.land, 1) := by decide +kernel
theorem d_L_law_211 : decode c_L_law 211 = .ok (.lor, 1) := by decide +kernel
theorem d_L_law_212 : decode c_L_law 212 = .ok (.aload_n 3, 1) := by decide +kernel
theorem d_L_law_213 : decode c_L_law 213 = .ok (.invokestatic 83, 3) := by decide +kernel
theorem d_L_law_216 : decode c_L_law 216 = .ok (.istore 5, 2) := by decide +kernel
theorem d_L_law_218 : decode c_L_law 218 = .ok (.aload_n 2, 1) := by decide +kernel
theorem d_L_law_219 : decode c_L_law 219 = .ok (.aload_n 0, 1) := by decide +kernel
theorem d_L_law_220 : decode c_L_law 220 = .ok (.iload 4, 2) := by decide +kernel
theorem d_L_law_222 : decode c_L_law 222 = .ok (.iconst 1, 1) := by decide +kernel
theorem d_L_law_223 : decode c_L_law 223 = .ok (.iadd, 1) := by decide +kernel
theorem d_L_law_224 : decode c_L_law 224 = .ok (.iaload, 1) := by decide +kernel
theorem d_L_law_225 : decode c_L_law 225 = .ok (.aload_n 0, 1) := by decide +kernel
theorem d_L_law_226 : decode c_L_law 226 = .ok (.iload 4, 2) := by decide +kernel
theorem d_L_law_228 : decode c_L_law 228 = .ok (.iconst 2, 1) := by decide +kernel
theorem d_L_law_229 : decode c_L_law 229 = .ok (.iadd, 1) := by decide +kernel
theorem d_L_law_230 : decode c_L_law 230 = .ok (.iaload, 1) := by decide +kernel
theorem d_L_law_231 : decode c_L_law 231 = .ok (.i2l, 1) := by decide +kernel
theorem d_L_law_232 : decode c_L_law 232 = .ok (.bipush 32, 2) := by decide +kernel
theorem d_L_law_234 : decode c_L_law 234 = .ok (.lshl, 1) := by decide +kernel
theorem d_L_law_235 : decode c_L_law 235 = .ok (.aload_n 0, 1) := by decide +kernel
theorem d_L_law_236 : decode c_L_law 236 = .ok (.iload 4, 2) := by decide +kernel
theorem d_L_law_238 : decode c_L_law 238 = .ok (.iconst 3, 1) := by decide +kernel
theorem d_L_law_239 : decode c_L_law 239 = .ok (.iadd, 1) := by decide +kernel
theorem d_L_law_240 : decode c_L_law 240 = .ok (.iaload, 1) := by decide +kernel
theorem d_L_law_241 : decode c_L_law 241 = .ok (.i2l, 1) := by decide +kernel
theorem d_L_law_242 : decode c_L_law 242 = .ok (.ldc2_w 81, 3) := by decide +kernel
theorem d_L_law_245 : decode c_L_law 245 = .ok (.land, 1) := by decide +kernel
theorem d_L_law_246 : decode c_L_law 246 = .ok (.lor, 1) := by decide +kernel
theorem d_L_law_247 : decode c_L_law 247 = .ok (.aload_n 0, 1) := by decide +kernel
theorem d_L_law_248 : decode c_L_law 248 = .ok (.iload 4, 2) := by decide +kernel
theorem d_L_law_250 : decode c_L_law 250 = .ok (.iconst 4, 1) := by decide +kernel
theorem d_L_law_251 : decode c_L_law 251 = .ok (.iadd, 1) := by decide +kernel
theorem d_L_law_252 : decode c_L_law 252 = .ok (.iaload, 1) := by decide +kernel
theorem d_L_law_253 : decode c_L_law 253 = .ok (.i2l, 1) := by decide +kernel
theorem d_L_law_254 : decode c_L_law 254 = .ok (.bipush 32, 2) := by decide +kernel
theorem d_L_law_256 : decode c_L_law 256 = .ok (.lshl, 1) := by decide +kernel
theorem d_L_law_257 : decode c_L_law 257 = .ok (.aload_n 0, 1) := by decide +kernel
theorem d_L_law_258 : decode c_L_law 258 = .ok (.iload 4, 2) := by decide +kernel
theorem d_L_law_260 : decode c_L_law 260 = .ok (.iconst 5, 1) := by decide +kernel
theorem d_L_law_261 : decode c_L_law 261 = .ok (.iadd, 1) := by decide +kernel
theorem d_L_law_262 : decode c_L_law 262 = .ok (.iaload, 1) := by decide +kernel
theorem d_L_law_263 : decode c_L_law 263 = .ok (.i2l, 1) := by decide +kernel
theorem d_L_law_264 : decode c_L_law 264 = .ok (.ldc2_w 81, 3) := by decide +kernel
theorem d_L_law_267 : decode c_L_law 267 = .ok (.land, 1) := by decide +kernel
theorem d_L_law_268 : decode c_L_law 268 = .ok (.lor, 1) := by decide +kernel
theorem d_L_law_269 : decode c_L_law 269 = .ok (.invokevirtual 86, 3) := by decide +kernel
theorem d_L_law_272 : decode c_L_law 272 = .ok (.istore 6, 2) := by decide +kernel
theorem d_L_law_274 : decode c_L_law 274 = .ok (.aload_n 2, 1) := by decide +kernel
theorem d_L_law_275 : decode c_L_law 275 = .ok (.invokevirtual 87, 3) := by decide +kernel
theorem d_L_law_278 : decode c_L_law 278 = .ok (.iload 5, 2) := by decide +kernel
theorem d_L_law_280 : decode c_L_law 280 = .ok (.if_icmp .eq 5, 3) := by decide +kernel
theorem d_L_law_283 : decode c_L_law 283 = .ok (.iconst 0, 1) := by decide +kernel
theorem d_L_law_284 : decode c_L_law 284 = .ok (.ireturn, 1) := by decide +kernel
theorem d_L_law_285 : decode c_L_law 285 = .ok (.iload 5, 2) := by decide +kernel
theorem d_L_law_287 : decode c_L_law 287 = .ok (.ifCond .ne 22, 3) := by decide +kernel
theorem d_L_law_290 : decode c_L_law 290 = .ok (.aload_n 3, 1) := by decide +kernel
theorem d_L_law_291 : decode c_L_law 291 = .ok (.iconst 0, 1) := by decide +kernel
theorem d_L_law_292 : decode c_L_law 292 = .ok (.laload, 1) := by decide +kernel
theorem d_L_law_293 : decode c_L_law 293 = .ok (.iload 6, 2) := by decide +kernel
theorem d_L_law_295 : decode c_L_law 295 = .ok (.ifCond .eq 7, 3) := by decide +kernel
theorem d_L_law_298 : decode c_L_law 298 = .ok (.lconst 1, 1) := by decide +kernel
theorem d_L_law_299 : decode c_L_law 299 = .ok (.goto 4, 3) := by decide +kernel
theorem d_L_law_302 : decode c_L_law 302 = .ok (.lconst 0, 1) := by decide +kernel
theorem d_L_law_303 : decode c_L_law 303 = .ok (.lcmp, 1) := by decide +kernel
theorem d_L_law_304 : decode c_L_law 304 = .ok (.ifCond .eq 5, 3) := by decide +kernel
theorem d_L_law_307 : decode c_L_law 307 = .ok (.iconst 0, 1) := by decide +kernel
theorem d_L_law_308 : decode c_L_law 308 = .ok (.ireturn, 1) := by decide +kernel
theorem d_L_law_309 : decode c_L_law 309 = .ok (.goto 1151, 3) := by decide +kernel
