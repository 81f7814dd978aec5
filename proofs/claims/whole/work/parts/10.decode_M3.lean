theorem d_M_isCopy_0 : decode c_M_isCopy 0 = .ok (.iload_n 1, 1) := by decide +kernel
theorem d_M_isCopy_1 : decode c_M_isCopy 1 = .ok (.ifCond .lt 15, 3) := by decide +kernel
theorem d_M_isCopy_4 : decode c_M_isCopy 4 = .ok (.iload_n 1, 1) := by decide +kernel
theorem d_M_isCopy_5 : decode c_M_isCopy 5 = .ok (.aload_n 0, 1) := by decide +kernel
theorem d_M_isCopy_6 : decode c_M_isCopy 6 = .ok (.getfield 125, 3) := by decide +kernel
theorem d_M_isCopy_9 : decode c_M_isCopy 9 = .ok (.if_icmp .ge 7, 3) := by decide +kernel
theorem d_M_isCopy_12 : decode c_M_isCopy 12 = .ok (.iconst 1, 1) := by decide +kernel
theorem d_M_isCopy_13 : decode c_M_isCopy 13 = .ok (.goto 4, 3) := by decide +kernel
theorem d_M_isCopy_16 : decode c_M_isCopy 16 = .ok (.iconst 0, 1) := by decide +kernel
theorem d_M_isCopy_17 : decode c_M_isCopy 17 = .ok (.ireturn, 1) := by decide +kernel
theorem d_M_at_0 : decode c_M_at 0 = .ok (.aload_n 0, 1) := by decide +kernel
theorem d_M_at_1 : decode c_M_at 1 = .ok (.aload_n 0, 1) := by decide +kernel
theorem d_M_at_2 : decode c_M_at 2 = .ok (.iload_n 1, 1) := by decide +kernel
theorem d_M_at_3 : decode c_M_at 3 = .ok (.invokevirtual 152, 3) := by decide +kernel
theorem d_M_at_6 : decode c_M_at 6 = .ok (.ifCond .eq 17, 3) := by decide +kernel
theorem d_M_at_9 : decode c_M_at 9 = .ok (.iload_n 2, 1) := by decide +kernel
theorem d_M_at_10 : decode c_M_at 10 = .ok (.ifCond .lt 13, 3) := by decide +kernel
theorem d_M_at_13 : decode c_M_at 13 = .ok (.iload_n 2, 1) := by decide +kernel
theorem d_M_at_14 : decode c_M_at 14 = .ok (.bipush 6, 2) := by decide +kernel
theorem d_M_at_16 : decode c_M_at 16 = .ok (.if_icmp .ge 7, 3) := by decide +kernel
theorem d_M_at_19 : decode c_M_at 19 = .ok (.iconst 0, 1) := by decide +kernel
theorem d_M_at_20 : decode c_M_at 20 = .ok (.goto 4, 3) := by decide +kernel
theorem d_M_at_23 : decode c_M_at 23 = .ok (.iconst 1, 1) := by decide +kernel
theorem d_M_at_24 : decode c_M_at 24 = .ok (.putfield 69, 3) := by decide +kernel
theorem d_M_at_27 : decode c_M_at 27 = .ok (.aload_n 0, 1) := by decide +kernel
theorem d_M_at_28 : decode c_M_at 28 = .ok (.getfield 69, 3) := by decide +kernel
theorem d_M_at_31 : decode c_M_at 31 = .ok (.ifCond .ne 17, 3) := by decide +kernel
theorem d_M_at_34 : decode c_M_at 34 = .ok (.aload_n 0, 1) := by decide +kernel
theorem d_M_at_35 : decode c_M_at 35 = .ok (.getfield 32, 3) := by decide +kernel
theorem d_M_at_38 : decode c_M_at 38 = .ok (.bipush 6, 2) := by decide +kernel
theorem d_M_at_40 : decode c_M_at 40 = .ok (.iload_n 1, 1) := by decide +kernel
theorem d_M_at_41 : decode c_M_at 41 = .ok (.imul, 1) := by decide +kernel
theorem d_M_at_42 : decode c_M_at 42 = .ok (.iload_n 2, 1) := by decide +kernel
theorem d_M_at_43 : decode c_M_at 43 = .ok (.iadd, 1) := by decide +kernel
theorem d_M_at_44 : decode c_M_at 44 = .ok (.laload, 1) := by decide +kernel
theorem d_M_at_45 : decode c_M_at 45 = .ok (.goto 4, 3) := by decide +kernel
theorem d_M_at_48 : decode c_M_at 48 = .ok (.lconst 0, 1) := by decide +kernel
theorem d_M_at_49 : decode c_M_at 49 = .ok (.lreturn, 1) := by decide +kernel
theorem d_M_tab_0 : decode c_M_tab 0 = .ok (.aload_n 0, 1) := by decide +kernel
theorem d_M_tab_1 : decode c_M_tab 1 = .ok (.iload_n 1, 1) := by decide +kernel
theorem d_M_tab_2 : decode c_M_tab 2 = .ok (.invokevirtual 152, 3) := by decide +kernel
theorem d_M_tab_5 : decode c_M_tab 5 = .ok (.ifCond .eq 25, 3) := by decide +kernel
theorem d_M_tab_8 : decode c_M_tab 8 = .ok (.iload_n 2, 1) := by decide +kernel
theorem d_M_tab_9 : decode c_M_tab 9 = .ok (.ifCond .lt 21, 3) := by decide +kernel
theorem d_M_tab_12 : decode c_M_tab 12 = .ok (.iload_n 2, 1) := by decide +kernel
theorem d_M_tab_13 : decode c_M_tab 13 = .ok (.iconst 4, 1) := by decide +kernel
theorem d_M_tab_14 : decode c_M_tab 14 = .ok (.if_icmp .ge 16, 3) := by decide +kernel
theorem d_M_tab_17 : decode c_M_tab 17 = .ok (.iload_n 3, 1) := by decide +kernel
theorem d_M_tab_18 : decode c_M_tab 18 = .ok (.ifCond .eq 8, 3) := by decide +kernel
theorem d_M_tab_21 : decode c_M_tab 21 = .ok (.iload_n 3, 1) := by decide +kernel
theorem d_M_tab_22 : decode c_M_tab 22 = .ok (.iconst 1, 1) := by decide +kernel
theorem d_M_tab_23 : decode c_M_tab 23 = .ok (.if_icmp .ne 7, 3) := by decide +kernel
theorem d_M_tab_26 : decode c_M_tab 26 = .ok (.iconst 1, 1) := by decide +kernel
theorem d_M_tab_27 : decode c_M_tab 27 = .ok (.goto 4, 3) := by decide +kernel
theorem d_M_tab_30 : decode c_M_tab 30 = .ok (.iconst 0, 1) := by decide +kernel
theorem d_M_tab_31 : decode c_M_tab 31 = .ok (.istore 4, 2) := by decide +kernel
theorem d_M_tab_33 : decode c_M_tab 33 = .ok (.aload_n 0, 1) := by decide +kernel
theorem d_M_tab_34 : decode c_M_tab 34 = .ok (.iload 4, 2) := by decide +kernel
theorem d_M_tab_36 : decode c_M_tab 36 = .ok (.ifCond .eq 7, 3) := by decide +kernel
theorem d_M_tab_39 : decode c_M_tab 39 = .ok (.iconst 0, 1) := by decide +kernel
theorem d_M_tab_40 : decode c_M_tab 40 = .ok (.goto 4, 3) := by decide +kernel
theorem d_M_tab_43 : decode c_M_tab 43 = .ok (.iconst 1, 1) := by decide +kernel
theorem d_M_tab_44 : decode c_M_tab 44 = .ok (.putfield 69, 3) := by decide +kernel
theorem d_M_tab_47 : decode c_M_tab 47 = .ok (.aload_n 0, 1) := by decide +kernel
theorem d_M_tab_48 : decode c_M_tab 48 = .ok (.getfield 69, 3) := by decide +kernel
theorem d_M_tab_51 : decode c_M_tab 51 = .ok (.ifCond .eq 5, 3) := by decide +kernel
theorem d_M_tab_54 : decode c_M_tab 54 = .ok (.lconst 0, 1) := by decide +kernel
theorem d_M_tab_55 : decode c_M_tab 55 = .ok (.lreturn, 1) := by decide +kernel
theorem d_M_tab_56 : decode c_M_tab 56 = .ok (.bipush 6, 2) := by decide +kernel
theorem d_M_tab_58 : decode c_M_tab 58 = .ok (.iload_n 1, 1) := by decide +kernel
theorem d_M_tab_59 : decode c_M_tab 59 = .ok (.imul, 1) := by decide +kernel
theorem d_M_tab_60 : decode c_M_tab 60 = .ok (.istore 5, 2) := by decide +kernel
theorem d_M_tab_62 : decode c_M_tab 62 = .ok (.aload_n 0, 1) := by decide +kernel
theorem d_M_tab_63 : decode c_M_tab 63 = .ok (.getfield 32, 3) := by decide +kernel
theorem d_M_tab_66 : decode c_M_tab 66 = .ok (.iload 5, 2) := by decide +kernel
theorem d_M_tab_68 : decode c_M_tab 68 = .ok (.iconst 1, 1) := by decide +kernel
theorem d_M_tab_69 : decode c_M_tab 69 = .ok (.iadd, 1) := by decide +kernel
theorem d_M_tab_70 : decode c_M_tab 70 = .ok (.laload, 1) := by decide +kernel
theorem d_M_tab_71 : decode c_M_tab 71 = .ok (.iload_n 2, 1) := by decide +kernel
theorem d_M_tab_72 : decode c_M_tab 72 = .ok (.ifCond .ne 7, 3) := by decide +kernel
theorem d_M_tab_75 : decode c_M_tab 75 = .ok (.lconst 0, 1) := by decide +kernel
theorem d_M_tab_76 : decode c_M_tab 76 = .ok (.goto 33, 3) := by decide +kernel
theorem d_M_tab_79 : decode c_M_tab 79 = .ok (.iload_n 2, 1) := by decide +kernel
theorem d_M_tab_80 : decode c_M_tab 80 = .ok (.iconst 2, 1) := by decide +kernel
theorem d_M_tab_81 : decode c_M_tab 81 = .ok (.if_icmp .ne 15, 3) := by decide +kernel
theorem d_M_tab_84 : decode c_M_tab 84 = .ok (.aload_n 0, 1) := by decide +kernel
theorem d_M_tab_85 : decode c_M_tab 85 = .ok (.getfield 32, 3) := by decide +kernel
theorem d_M_tab_88 : decode c_M_tab 88 = .ok (.iload 5, 2) := by decide +kernel
theorem d_M_tab_90 : decode c_M_tab 90 = .ok (.iconst 4, 1) := by decide +kernel
theorem d_M_tab_91 : decode c_M_tab 91 = .ok (.iadd, 1) := by decide +kernel
theorem d_M_tab_92 : decode c_M_tab 92 = .ok (.laload, 1) := by decide +kernel
theorem d_M_tab_93 : decode c_M_tab 93 = .ok (.goto 16, 3) := by decide +kernel
theorem d_M_tab_96 : decode c_M_tab 96 = .ok (.aload_n 0, 1) := by decide +kernel
theorem d_M_tab_97 : decode c_M_tab 97 = .ok (.getfield 32, 3) := by decide +kernel
theorem d_M_tab_100 : decode c_M_tab 100 = .ok (.iload 5, 2) := by decide +kernel
theorem d_M_tab_102 : decode c_M_tab 102 = .ok (.iconst 4, 1) := by decide +kernel
theorem d_M_tab_103 : decode c_M_tab 103 = .ok (.iadd, 1) := by decide +kernel
theorem d_M_tab_104 : decode c_M_tab 104 = .ok (.laload, 1) := by decide +kernel
theorem d_M_tab_105 : decode c_M_tab 105 = .ok (.ldc2_w 155, 3) := by decide +kernel
theorem d_M_tab_108 : decode c_M_tab 108 = .ok (.ldiv, 1) := by decide +kernel
theorem d_M_tab_109 : decode c_M_tab 109 = .ok (.ladd, 1) := by decide +kernel
theorem d_M_tab_110 : decode c_M_tab 110 = .ok (.lstore 6, 2) := by decide +kernel
theorem d_M_tab_112 : decode c_M_tab 112 = .ok (.aload_n 0, 1) := by decide +kernel
theorem d_M_tab_113 : decode c_M_tab 113 = .ok (.getfield 32, 3) := by decide +kernel
theorem d_M_tab_116 : decode c_M_tab 116 = .ok (.iload 5, 2) := by decide +kernel
theorem d_M_tab_118 : decode c_M_tab 118 = .ok (.iconst 2, 1) := by decide +kernel
theorem d_M_tab_119 : decode c_M_tab 119 = .ok (.iadd, 1) := by decide +kernel
theorem d_M_tab_120 : decode c_M_tab 120 = .ok (.laload, 1) := by decide +kernel
theorem d_M_tab_121 : decode c_M_tab 121 = .ok (.iload_n 2, 1) := by decide +kernel
theorem d_M_tab_122 : decode c_M_tab 122 = .ok (.iconst 1, 1) := by decide +kernel
theorem d_M_tab_123 : decode c_M_tab 123 = .ok (.if_icmp .ne 7, 3) := by decide +kernel
theorem d_M_tab_126 : decode c_M_tab 126 = .ok (.lconst 0, 1) := by decide +kernel
theorem d_M_tab_127 : decode c_M_tab 127 = .ok (.goto 33, 3) := by decide +kernel
theorem d_M_tab_130 : decode c_M_tab 130 = .ok (.iload_n 2, 1) := by decide +kernel
theorem d_M_tab_131 : decode c_M_tab 131 = .ok (.iconst 3, 1) := by decide +kernel
theorem d_M_tab_132 : decode c_M_tab 132 = .ok (.if_icmp .ne 15, 3) := by decide +kernel
theorem d_M_tab_135 : decode c_M_tab 135 = .ok (.aload_n 0, 1) := by decide +kernel
theorem d_M_tab_136 : decode c_M_tab 136 = .ok (.getfield 32, 3) := by decide +kernel
theorem d_M_tab_139 : decode c_M_tab 139 = .ok (.iload 5, 2) := by decide +kernel
theorem d_M_tab_141 : decode c_M_tab 141 = .ok (.iconst 5, 1) := by decide +kernel
theorem d_M_tab_142 : decode c_M_tab 142 = .ok (.iadd, 1) := by decide +kernel
theorem d_M_tab_143 : decode c_M_tab 143 = .ok (.laload, 1) := by decide +kernel
theorem d_M_tab_144 : decode c_M_tab 144 = .ok (.goto 16, 3) := by decide +kernel
theorem d_M_tab_147 : decode c_M_tab 147 = .ok (.aload_n 0, 1) := by decide +kernel
theorem d_M_tab_148 : decode c_M_tab 148 = .ok (.getfield 32, 3) := by decide +kernel
theorem d_M_tab_151 : decode c_M_tab 151 = .ok (.iload 5, 2) := by decide +kernel
theorem d_M_tab_153 : decode c_M_tab 153 = .ok (.iconst 5, 1) := by decide +kernel
theorem d_M_tab_154 : decode c_M_tab 154 = .ok (.iadd, 1) := by decide +kernel
theorem d_M_tab_155 : decode c_M_tab 155 = .ok (.laload, 1) := by decide +kernel
theorem d_M_tab_156 : decode c_M_tab 156 = .ok (.ldc2_w 155, 3) := by decide +kernel
theorem d_M_tab_159 : decode c_M_tab 159 = .ok (.ldiv, 1) := by decide +kernel
theorem d_M_tab_160 : decode c_M_tab 160 = .ok (.ladd, 1) := by decide +kernel
theorem d_M_tab_161 : decode c_M_tab 161 = .ok (.lstore 8, 2) := by decide +kernel
theorem d_M_tab_163 : decode c_M_tab 163 = .ok (.aload_n 0, 1) := by decide +kernel
theorem d_M_tab_164 : decode c_M_tab 164 = .ok (.getfield 32, 3) := by decide +kernel
theorem d_M_tab_167 : decode c_M_tab 167 = .ok (.iload 5, 2) := by decide +kernel
theorem d_M_tab_169 : decode c_M_tab 169 = .ok (.laload, 1) := by decide +kernel
theorem d_M_tab_170 : decode c_M_tab 170 = .ok (.l2i, 1) := by decide +kernel
theorem d_M_tab_171 : decode c_M_tab 171 = .ok (.istore 10, 2) := by decide +kernel
theorem d_M_tab_173 : decode c_M_tab 173 = .ok (.aload_n 0, 1) := by decide +kernel
theorem d_M_tab_174 : decode c_M_tab 174 = .ok (.iload 10, 2) := by decide +kernel
theorem d_M_tab_176 : decode c_M_tab 176 = .ok (.invokevirtual 134, 3) := by decide +kernel
theorem d_M_tab_179 : decode c_M_tab 179 = .ok (.bipush 30, 2) := by decide +kernel
theorem d_M_tab_181 : decode c_M_tab 181 = .ok (.iload 10, 2) := by decide +kernel
theorem d_M_tab_183 : decode c_M_tab 183 = .ok (.imul, 1) := by decide +kernel
theorem d_M_tab_184 : decode c_M_tab 184 = .ok (.istore 11, 2) := by decide +kernel
theorem d_M_tab_186 : decode c_M_tab 186 = .ok (.iload 11, 2) := by decide +kernel
theorem d_M_tab_188 : decode c_M_tab 188 = .ok (.bipush 30, 2) := by decide +kernel
theorem d_M_tab_190 : decode c_M_tab 190 = .ok (.iload 10, 2) := by decide +kernel
theorem d_M_tab_192 : decode c_M_tab 192 = .ok (.imul, 1) := by decide +kernel
theorem d_M_tab_193 : decode c_M_tab 193 = .ok (.iconst 3, 1) := by decide +kernel
theorem d_M_tab_194 : decode c_M_tab 194 = .ok (.aload_n 0, 1) := by decide +kernel
theorem d_M_tab_195 : decode c_M_tab 195 = .ok (.getfield 23, 3) := by decide +kernel
theorem d_M_tab_198 : decode c_M_tab 198 = .ok (.iload 10, 2) := by decide +kernel
theorem d_M_tab_200 : decode c_M_tab 200 = .ok (.iaload, 1) := by decide +kernel
theorem d_M_tab_201 : decode c_M_tab 201 = .ok (.imul, 1) := by decide +kernel
theorem d_M_tab_202 : decode c_M_tab 202 = .ok (.iadd, 1) := by decide +kernel
theorem d_M_tab_203 : decode c_M_tab 203 = .ok (.if_icmp .ge 170, 3) := by decide +kernel
theorem d_M_tab_206 : decode c_M_tab 206 = .ok (.aload_n 0, 1) := by decide +kernel
theorem d_M_tab_207 : decode c_M_tab 207 = .ok (.getfield 26, 3) := by decide +kernel
theorem d_M_tab_210 : decode c_M_tab 210 = .ok (.iload 11, 2) := by decide +kernel
theorem d_M_tab_212 : decode c_M_tab 212 = .ok (.laload, 1) := by decide +kernel
theorem d_M_tab_213 : decode c_M_tab 213 = .ok (.aload_n 0, 1) := by decide +kernel
theorem d_M_tab_214 : decode c_M_tab 214 = .ok (.getfield 39, 3) := by decide +kernel
theorem d_M_tab_217 : decode c_M_tab 217 = .ok (.iload 10, 2) := by decide +kernel
theorem d_M_tab_219 : decode c_M_tab 219 = .ok (.laload, 1) := by decide +kernel
theorem d_M_tab_220 : decode c_M_tab 220 = .ok (.lsub, 1) := by decide +kernel
theorem d_M_tab_221 : decode c_M_tab 221 = .ok (.lstore 12, 2) := by decide +kernel
theorem d_M_tab_223 : decode c_M_tab 223 = .ok (.aload_n 0, 1) := by decide +kernel
theorem d_M_tab_224 : decode c_M_tab 224 = .ok (.getfield 26, 3) := by decide +kernel
theorem d_M_tab_227 : decode c_M_tab 227 = .ok (.iload 11, 2) := by decide +kernel
theorem d_M_tab_229 : decode c_M_tab 229 = .ok (.iconst 1, 1) := by decide +kernel
theorem d_M_tab_230 : decode c_M_tab 230 = .ok (.iadd, 1) := by decide +kernel
theorem d_M_tab_231 : decode c_M_tab 231 = .ok (.laload, 1) := by decide +kernel
theorem d_M_tab_232 : decode c_M_tab 232 = .ok (.aload_n 0, 1) := by decide +kernel
theorem d_M_tab_233 : decode c_M_tab 233 = .ok (.getfield 42, 3) := by decide +kernel
theorem d_M_tab_236 : decode c_M_tab 236 = .ok (.iload 10, 2) := by decide +kernel
theorem d_M_tab_238 : decode c_M_tab 238 = .ok (.laload, 1) := by decide +kernel
theorem d_M_tab_239 : decode c_M_tab 239 = .ok (.lsub, 1) := by decide +kernel
theorem d_M_tab_240 : decode c_M_tab 240 = .ok (.lstore 14, 2) := by decide +kernel
theorem d_M_tab_242 : decode c_M_tab 242 = .ok (.aload_n 0, 1) := by decide +kernel
theorem d_M_tab_243 : decode c_M_tab 243 = .ok (.getfield 32, 3) := by decide +kernel
theorem d_M_tab_246 : decode c_M_tab 246 = .ok (.iload 5, 2) := by decide +kernel
theorem d_M_tab_248 : decode c_M_tab 248 = .ok (.iconst 1, 1) := by decide +kernel
theorem d_M_tab_249 : decode c_M_tab 249 = .ok (.iadd, 1) := by decide +kernel
theorem d_M_tab_250 : decode c_M_tab 250 = .ok (.laload, 1) := by decide +kernel
theorem d_M_tab_251 : decode c_M_tab 251 = .ok (.aload_n 0, 1) := by decide +kernel
theorem d_M_tab_252 : decode c_M_tab 252 = .ok (.getfield 32, 3) := by decide +kernel
theorem d_M_tab_255 : decode c_M_tab 255 = .ok (.iload 5, 2) := by decide +kernel
theorem d_M_tab_257 : decode c_M_tab 257 = .ok (.iconst 3, 1) := by decide +kernel
theorem d_M_tab_258 : decode c_M_tab 258 = .ok (.iadd, 1) := by decide +kernel
theorem d_M_tab_259 : decode c_M_tab 259 = .ok (.laload, 1) := by decide +kernel
theorem d_M_tab_260 : decode c_M_tab 260 = .ok (.lconst 0, 1) := by decide +kernel
theorem d_M_tab_261 : decode c_M_tab 261 = .ok (.lcmp, 1) := by decide +kernel
theorem d_M_tab_262 : decode c_M_tab 262 = .ok (.ifCond .ne 8, 3) := by decide +kernel
theorem d_M_tab_265 : decode c_M_tab 265 = .ok (.lload 12, 2) := by decide +kernel
theorem d_M_tab_267 : decode c_M_tab 267 = .ok (.goto 13, 3) := by decide +kernel
theorem d_M_tab_270 : decode c_M_tab 270 = .ok (.aload_n 0, 1) := by decide +kernel
theorem d_M_tab_271 : decode c_M_tab 271 = .ok (.getfield 48, 3) := by decide +kernel
theorem d_M_tab_274 : decode c_M_tab 274 = .ok (.iload 10, 2) := by decide +kernel
theorem d_M_tab_276 : decode c_M_tab 276 = .ok (.laload, 1) := by decide +kernel
theorem d_M_tab_277 : decode c_M_tab 277 = .ok (.lload 14, 2) := by decide +kernel
theorem d_M_tab_279 : decode c_M_tab 279 = .ok (.lsub, 1) := by decide +kernel
theorem d_M_tab_280 : decode c_M_tab 280 = .ok (.ladd, 1) := by decide +kernel
theorem d_M_tab_281 : decode c_M_tab 281 = .ok (.lstore 16, 2) := by decide +kernel
theorem d_M_tab_283 : decode c_M_tab 283 = .ok (.aload_n 0, 1) := by decide +kernel
theorem d_M_tab_284 : decode c_M_tab 284 = .ok (.getfield 32, 3) := by decide +kernel
theorem d_M_tab_287 : decode c_M_tab 287 = .ok (.iload 5, 2) := by decide +kernel
theorem d_M_tab_289 : decode c_M_tab 289 = .ok (.iconst 2, 1) := by decide +kernel
theorem d_M_tab_290 : decode c_M_tab 290 = .ok (.iadd, 1) := by decide +kernel
theorem d_M_tab_291 : decode c_M_tab 291 = .ok (.laload, 1) := by decide +kernel
theorem d_M_tab_292 : decode c_M_tab 292 = .ok (.aload_n 0, 1) := by decide +kernel
theorem d_M_tab_293 : decode c_M_tab 293 = .ok (.getfield 32, 3) := by decide +kernel
theorem d_M_tab_296 : decode c_M_tab 296 = .ok (.iload 5, 2) := by decide +kernel
theorem d_M_tab_298 : decode c_M_tab 298 = .ok (.iconst 3, 1) := by decide +kernel
theorem d_M_tab_299 : decode c_M_tab 299 = .ok (.iadd, 1) := by decide +kernel
theorem d_M_tab_300 : decode c_M_tab 300 = .ok (.laload, 1) := by decide +kernel
theorem d_M_tab_301 : decode c_M_tab 301 = .ok (.lconst 0, 1) := by decide +kernel
theorem d_M_tab_302 : decode c_M_tab 302 = .ok (.lcmp, 1) := by decide +kernel
theorem d_M_tab_303 : decode c_M_tab 303 = .ok (.ifCond .ne 8, 3) := by decide +kernel
theorem d_M_tab_306 : decode c_M_tab 306 = .ok (.lload 14, 2) := by decide +kernel
theorem d_M_tab_308 : decode c_M_tab 308 = .ok (.goto 5, 3) := by decide +kernel
theorem d_M_tab_311 : decode c_M_tab 311 = .ok (.lload 12, 2) := by decide +kernel
theorem d_M_tab_313 : decode c_M_tab 313 = .ok (.ladd, 1) := by decide +kernel
theorem d_M_tab_314 : decode c_M_tab 314 = .ok (.lstore 18, 2) := by decide +kernel
theorem d_M_tab_316 : decode c_M_tab 316 = .ok (.lload 16, 2) := by decide +kernel
theorem d_M_tab_318 : decode c_M_tab 318 = .ok (.lload 6, 2) := by decide +kernel
theorem d_M_tab_320 : decode c_M_tab 320 = .ok (.lsub, 1) := by decide +kernel
theorem d_M_tab_321 : decode c_M_tab 321 = .ok (.lload 16, 2) := by decide +kernel
theorem d_M_tab_323 : decode c_M_tab 323 = .ok (.lload 6, 2) := by decide +kernel
theorem d_M_tab_325 : decode c_M_tab 325 = .ok (.lsub, 1) := by decide +kernel
theorem d_M_tab_326 : decode c_M_tab 326 = .ok (.lmul, 1) := by decide +kernel
theorem d_M_tab_327 : decode c_M_tab 327 = .ok (.lload 18, 2) := by decide +kernel
theorem d_M_tab_329 : decode c_M_tab 329 = .ok (.lload 8, 2) := by decide +kernel
theorem d_M_tab_331 : decode c_M_tab 331 = .ok (.lsub, 1) := by decide +kernel
theorem d_M_tab_332 : decode c_M_tab 332 = .ok (.lload 18, 2) := by decide +kernel
theorem d_M_tab_334 : decode c_M_tab 334 = .ok (.lload 8, 2) := by decide +kernel
theorem d_M_tab_336 : decode c_M_tab 336 = .ok (.lsub, 1) := by decide +kernel
theorem d_M_tab_337 : decode c_M_tab 337 = .ok (.lmul, 1) := by decide +kernel
theorem d_M_tab_338 : decode c_M_tab 338 = .ok (.ladd, 1) := by decide +kernel
theorem d_M_tab_339 : decode c_M_tab 339 = .ok (.aload_n 0, 1) := by decide +kernel
theorem d_M_tab_340 : decode c_M_tab 340 = .ok (.getfield 26, 3) := by decide +kernel
theorem d_M_tab_343 : decode c_M_tab 343 = .ok (.iload 11, 2) := by decide +kernel
theorem d_M_tab_345 : decode c_M_tab 345 = .ok (.iconst 2, 1) := by decide +kernel
theorem d_M_tab_346 : decode c_M_tab 346 = .ok (.iadd, 1) := by decide +kernel
theorem d_M_tab_347 : decode c_M_tab 347 = .ok (.laload, 1) := by decide +kernel
theorem d_M_tab_348 : decode c_M_tab 348 = .ok (.aload_n 0, 1) := by decide +kernel
theorem d_M_tab_349 : decode c_M_tab 349 = .ok (.getfield 26, 3) := by decide +kernel
theorem d_M_tab_352 : decode c_M_tab 352 = .ok (.iload 11, 2) := by decide +kernel
theorem d_M_tab_354 : decode c_M_tab 354 = .ok (.iconst 2, 1) := by decide +kernel
theorem d_M_tab_355 : decode c_M_tab 355 = .ok (.iadd, 1) := by decide +kernel
theorem d_M_tab_356 : decode c_M_tab 356 = .ok (.laload, 1) := by decide +kernel
theorem d_M_tab_357 : decode c_M_tab 357 = .ok (.lmul, 1) := by decide +kernel
theorem d_M_tab_358 : decode c_M_tab 358 = .ok (.lcmp, 1) := by decide +kernel
theorem d_M_tab_359 : decode c_M_tab 359 = .ok (.ifCond .ge 8, 3) := by decide +kernel
theorem d_M_tab_362 : decode c_M_tab 362 = .ok (.aload_n 0, 1) := by decide +kernel
theorem d_M_tab_363 : decode c_M_tab 363 = .ok (.iconst 2, 1) := by decide +kernel
theorem d_M_tab_364 : decode c_M_tab 364 = .ok (.putfield 69, 3) := by decide +kernel
theorem d_M_tab_367 : decode c_M_tab 367 = .ok (.iinc 11 3, 3) := by decide +kernel
theorem d_M_tab_370 : decode c_M_tab 370 = .ok (.goto (-184), 3) := by decide +kernel
theorem d_M_tab_373 : decode c_M_tab 373 = .ok (.aload_n 0, 1) := by decide +kernel
theorem d_M_tab_374 : decode c_M_tab 374 = .ok (.getfield 69, 3) := by decide +kernel
theorem d_M_tab_377 : decode c_M_tab 377 = .ok (.ifCond .eq 7, 3) := by decide +kernel
theorem d_M_tab_380 : decode c_M_tab 380 = .ok (.lconst 0, 1) := by decide +kernel
theorem d_M_tab_381 : decode c_M_tab 381 = .ok (.goto 14, 3) := by decide +kernel
theorem d_M_tab_384 : decode c_M_tab 384 = .ok (.iload_n 3, 1) := by decide +kernel
theorem d_M_tab_385 : decode c_M_tab 385 = .ok (.ifCond .ne 8, 3) := by decide +kernel
theorem d_M_tab_388 : decode c_M_tab 388 = .ok (.lload 6, 2) := by decide +kernel
theorem d_M_tab_390 : decode c_M_tab 390 = .ok (.goto 5, 3) := by decide +kernel
theorem d_M_tab_393 : decode c_M_tab 393 = .ok (.lload 8, 2) := by decide +kernel
theorem d_M_tab_395 : decode c_M_tab 395 = .ok (.lreturn, 1) := by decide +kernel
theorem d_M_nextScore_0 : decode c_M_nextScore 0 = .ok (.ldc2_w 157, 3) := by decide +kernel
theorem d_M_nextScore_3 : decode c_M_nextScore 3 = .ok (.lstore_n 3, 1) := by decide +kernel
theorem d_M_nextScore_4 : decode c_M_nextScore 4 = .ok (.iconst 0, 1) := by decide +kernel
theorem d_M_nextScore_5 : decode c_M_nextScore 5 = .ok (.istore 5, 2) := by decide +kernel
theorem d_M_nextScore_7 : decode c_M_nextScore 7 = .ok (.iload 5, 2) := by decide +kernel
theorem d_M_nextScore_9 : decode c_M_nextScore 9 = .ok (.bipush 6, 2) := by decide +kernel
theorem d_M_nextScore_11 : decode c_M_nextScore 11 = .ok (.aload_n 0, 1) := by decide +kernel
theorem d_M_nextScore_12 : decode c_M_nextScore 12 = .ok (.getfield 125, 3) := by decide +kernel
theorem d_M_nextScore_15 : decode c_M_nextScore 15 = .ok (.imul, 1) := by decide +kernel
theorem d_M_nextScore_16 : decode c_M_nextScore 16 = .ok (.if_icmp .ge 88, 3) := by decide +kernel
theorem d_M_nextScore_19 : decode c_M_nextScore 19 = .ok (.aload_n 0, 1) := by decide +kernel
theorem d_M_nextScore_20 : decode c_M_nextScore 20 = .ok (.getfield 32, 3) := by decide +kernel
theorem d_M_nextScore_23 : decode c_M_nextScore 23 = .ok (.iload 5, 2) := by decide +kernel
theorem d_M_nextScore_25 : decode c_M_nextScore 25 = .ok (.iconst 2, 1) := by decide +kernel
theorem d_M_nextScore_26 : decode c_M_nextScore 26 = .ok (.iadd, 1) := by decide +kernel
theorem d_M_nextScore_27 : decode c_M_nextScore 27 = .ok (.laload, 1) := by decide +kernel
theorem d_M_nextScore_28 : decode c_M_nextScore 28 = .ok (.lstore 6, 2) := by decide +kernel
theorem d_M_nextScore_30 : decode c_M_nextScore 30 = .ok (.lload 6, 2) := by decide +kernel
theorem d_M_nextScore_32 : decode c_M_nextScore 32 = .ok (.lload_n 1, 1) := by decide +kernel
theorem d_M_nextScore_33 : decode c_M_nextScore 33 = .ok (.lcmp, 1) := by decide +kernel
theorem d_M_nextScore_34 : decode c_M_nextScore 34 = .ok (.ifCond .le 21, 3) := by decide +kernel
theorem d_M_nextScore_37 : decode c_M_nextScore 37 = .ok (.lload_n 3, 1) := by decide +kernel
theorem d_M_nextScore_38 : decode c_M_nextScore 38 = .ok (.lconst 0, 1) := by decide +kernel
theorem d_M_nextScore_39 : decode c_M_nextScore 39 = .ok (.lcmp, 1) := by decide +kernel
theorem d_M_nextScore_40 : decode c_M_nextScore 40 = .ok (.ifCond .lt 10, 3) := by decide +kernel
theorem d_M_nextScore_43 : decode c_M_nextScore 43 = .ok (.lload 6, 2) := by decide +kernel
theorem d_M_nextScore_45 : decode c_M_nextScore 45 = .ok (.lload_n 3, 1) := by decide +kernel
theorem d_M_nextScore_46 : decode c_M_nextScore 46 = .ok (.lcmp, 1) := by decide +kernel
theorem d_M_nextScore_47 : decode c_M_nextScore 47 = .ok (.ifCond .ge 8, 3) := by decide +kernel
theorem d_M_nextScore_50 : decode c_M_nextScore 50 = .ok (.lload 6, 2) := by decide +kernel
theorem d_M_nextScore_52 : decode c_M_nextScore 52 = .ok (.goto 4, 3) := by decide +kernel
theorem d_M_nextScore_55 : decode c_M_nextScore 55 = .ok (.lload_n 3, 1) := by decide +kernel
theorem d_M_nextScore_56 : decode c_M_nextScore 56 = .ok (.lstore_n 3, 1) := by decide +kernel
theorem d_M_nextScore_57 : decode c_M_nextScore 57 = .ok (.lload 6, 2) := by decide +kernel
theorem d_M_nextScore_59 : decode c_M_nextScore 59 = .ok (.aload_n 0, 1) := by decide +kernel
theorem d_M_nextScore_60 : decode c_M_nextScore 60 = .ok (.getfield 32, 3) := by decide +kernel
theorem d_M_nextScore_63 : decode c_M_nextScore 63 = .ok (.iload 5, 2) := by decide +kernel
theorem d_M_nextScore_65 : decode c_M_nextScore 65 = .ok (.iconst 5, 1) := by decide +kernel
theorem d_M_nextScore_66 : decode c_M_nextScore 66 = .ok (.iadd, 1) := by decide +kernel
theorem d_M_nextScore_67 : decode c_M_nextScore 67 = .ok (.laload, 1) := by decide +kernel
theorem d_M_nextScore_68 : decode c_M_nextScore 68 = .ok (.ladd, 1) := by decide +kernel
theorem d_M_nextScore_69 : decode c_M_nextScore 69 = .ok (.lstore 6, 2) := by decide +kernel
theorem d_M_nextScore_71 : decode c_M_nextScore 71 = .ok (.lload 6, 2) := by decide +kernel
theorem d_M_nextScore_73 : decode c_M_nextScore 73 = .ok (.lload_n 1, 1) := by decide +kernel
theorem d_M_nextScore_74 : decode c_M_nextScore 74 = .ok (.lcmp, 1) := by decide +kernel
theorem d_M_nextScore_75 : decode c_M_nextScore 75 = .ok (.ifCond .le 21, 3) := by decide +kernel
theorem d_M_nextScore_78 : decode c_M_nextScore 78 = .ok (.lload_n 3, 1) := by decide +kernel
theorem d_M_nextScore_79 : decode c_M_nextScore 79 = .ok (.lconst 0, 1) := by decide +kernel
theorem d_M_nextScore_80 : decode c_M_nextScore 80 = .ok (.lcmp, 1) := by decide +kernel
theorem d_M_nextScore_81 : decode c_M_nextScore 81 = .ok (.ifCond .lt 10, 3) := by decide +kernel
theorem d_M_nextScore_84 : decode c_M_nextScore 84 = .ok (.lload 6, 2) := by decide +kernel
theorem d_M_nextScore_86 : decode c_M_nextScore 86 = .ok (.lload_n 3, 1) := by decide +kernel
theorem d_M_nextScore_87 : decode c_M_nextScore 87 = .ok (.lcmp, 1) := by decide +kernel
theorem d_M_nextScore_88 : decode c_M_nextScore 88 = .ok (.ifCond .ge 8, 3) := by decide +kernel
theorem d_M_nextScore_91 : decode c_M_nextScore 91 = .ok (.lload 6, 2) := by decide +kernel
theorem d_M_nextScore_93 : decode c_M_nextScore 93 = .ok (.goto 4, 3) := by decide +kernel
theorem d_M_nextScore_96 : decode c_M_nextScore 96 = .ok (.lload_n 3, 1) := by decide +kernel
theorem d_M_nextScore_97 : decode c_M_nextScore 97 = .ok (.lstore_n 3, 1) := by decide +kernel
theorem d_M_nextScore_98 : decode c_M_nextScore 98 = .ok (.iinc 5 6, 3) := by decide +kernel
theorem d_M_nextScore_101 : decode c_M_nextScore 101 = .ok (.goto (-94), 3) := by decide +kernel
theorem d_M_nextScore_104 : decode c_M_nextScore 104 = .ok (.lload_n 3, 1) := by decide +kernel
theorem d_M_nextScore_105 : decode c_M_nextScore 105 = .ok (.lreturn, 1) := by decide +kernel
theorem d_M_score_0 : decode c_M_score 0 = .ok (.ldc2_w 157, 3) := by decide +kernel
theorem d_M_score_3 : decode c_M_score 3 = .ok (.lstore_n 3, 1) := by decide +kernel
theorem d_M_score_4 : decode c_M_score 4 = .ok (.iload_n 1, 1) := by decide +kernel
theorem d_M_score_5 : decode c_M_score 5 = .ok (.ifCond .lt 7, 3) := by decide +kernel
theorem d_M_score_8 : decode c_M_score 8 = .ok (.iconst 1, 1) := by decide +kernel
theorem d_M_score_9 : decode c_M_score 9 = .ok (.goto 4, 3) := by decide +kernel
theorem d_M_score_12 : decode c_M_score 12 = .ok (.iconst 0, 1) := by decide +kernel
theorem d_M_score_13 : decode c_M_score 13 = .ok (.istore 5, 2) := by decide +kernel
theorem d_M_score_15 : decode c_M_score 15 = .ok (.iconst 0, 1) := by decide +kernel
theorem d_M_score_16 : decode c_M_score 16 = .ok (.istore 6, 2) := by decide +kernel
theorem d_M_score_18 : decode c_M_score 18 = .ok (.iload 6, 2) := by decide +kernel
theorem d_M_score_20 : decode c_M_score 20 = .ok (.iload_n 1, 1) := by decide +kernel
theorem d_M_score_21 : decode c_M_score 21 = .ok (.if_icmp .gt 33, 3) := by decide +kernel
theorem d_M_score_24 : decode c_M_score 24 = .ok (.iload 5, 2) := by decide +kernel
theorem d_M_score_26 : decode c_M_score 26 = .ok (.ifCond .eq 28, 3) := by decide +kernel
theorem d_M_score_29 : decode c_M_score 29 = .ok (.aload_n 0, 1) := by decide +kernel
theorem d_M_score_30 : decode c_M_score 30 = .ok (.lload_n 3, 1) := by decide +kernel
theorem d_M_score_31 : decode c_M_score 31 = .ok (.invokevirtual 159, 3) := by decide +kernel
theorem d_M_score_34 : decode c_M_score 34 = .ok (.lstore_n 3, 1) := by decide +kernel
theorem d_M_score_35 : decode c_M_score 35 = .ok (.lload_n 3, 1) := by decide +kernel
theorem d_M_score_36 : decode c_M_score 36 = .ok (.lconst 0, 1) := by decide +kernel
theorem d_M_score_37 : decode c_M_score 37 = .ok (.lcmp, 1) := by decide +kernel
theorem d_M_score_38 : decode c_M_score 38 = .ok (.ifCond .lt 7, 3) := by decide +kernel
theorem d_M_score_41 : decode c_M_score 41 = .ok (.iconst 1, 1) := by decide +kernel
theorem d_M_score_42 : decode c_M_score 42 = .ok (.goto 4, 3) := by decide +kernel
theorem d_M_score_45 : decode c_M_score 45 = .ok (.iconst 0, 1) := by decide +kernel
theorem d_M_score_46 : decode c_M_score 46 = .ok (.istore 5, 2) := by decide +kernel
theorem d_M_score_48 : decode c_M_score 48 = .ok (.iinc 6 1, 3) := by decide +kernel
theorem d_M_score_51 : decode c_M_score 51 = .ok (.goto (-33), 3) := by decide +kernel
theorem d_M_score_54 : decode c_M_score 54 = .ok (.aload_n 0, 1) := by decide +kernel
theorem d_M_score_55 : decode c_M_score 55 = .ok (.iload 5, 2) := by decide +kernel
theorem d_M_score_57 : decode c_M_score 57 = .ok (.ifCond .eq 16, 3) := by decide +kernel
theorem d_M_score_60 : decode c_M_score 60 = .ok (.iload_n 2, 1) := by decide +kernel
theorem d_M_score_61 : decode c_M_score 61 = .ok (.ifCond .eq 8, 3) := by decide +kernel
theorem d_M_score_64 : decode c_M_score 64 = .ok (.iload_n 2, 1) := by decide +kernel
theorem d_M_score_65 : decode c_M_score 65 = .ok (.iconst 1, 1) := by decide +kernel
theorem d_M_score_66 : decode c_M_score 66 = .ok (.if_icmp .ne 7, 3) := by decide +kernel
theorem d_M_score_69 : decode c_M_score 69 = .ok (.iconst 0, 1) := by decide +kernel
theorem d_M_score_70 : decode c_M_score 70 = .ok (.goto 4, 3) := by decide +kernel
theorem d_M_score_73 : decode c_M_score 73 = .ok (.iconst 1, 1) := by decide +kernel
theorem d_M_score_74 : decode c_M_score 74 = .ok (.putfield 69, 3) := by decide +kernel
theorem d_M_score_77 : decode c_M_score 77 = .ok (.aload_n 0, 1) := by decide +kernel
theorem d_M_score_78 : decode c_M_score 78 = .ok (.getfield 69, 3) := by decide +kernel
theorem d_M_score_81 : decode c_M_score 81 = .ok (.ifCond .eq 5, 3) := by decide +kernel
theorem d_M_score_84 : decode c_M_score 84 = .ok (.lconst 0, 1) := by decide +kernel
theorem d_M_score_85 : decode c_M_score 85 = .ok (.lreturn, 1) := by decide +kernel
theorem d_M_score_86 : decode c_M_score 86 = .ok (.lconst 0, 1) := by decide +kernel
theorem d_M_score_87 : decode c_M_score 87 = .ok (.lstore 6, 2) := by decide +kernel
theorem d_M_score_89 : decode c_M_score 89 = .ok (.iconst 0, 1) := by decide +kernel
theorem d_M_score_90 : decode c_M_score 90 = .ok (.istore 8, 2) := by decide +kernel
theorem d_M_score_92 : decode c_M_score 92 = .ok (.iload 8, 2) := by decide +kernel
theorem d_M_score_94 : decode c_M_score 94 = .ok (.bipush 6, 2) := by decide +kernel
theorem d_M_score_96 : decode c_M_score 96 = .ok (.aload_n 0, 1) := by decide +kernel
theorem d_M_score_97 : decode c_M_score 97 = .ok (.getfield 125, 3) := by decide +kernel
theorem d_M_score_100 : decode c_M_score 100 = .ok (.imul, 1) := by decide +kernel
theorem d_M_score_101 : decode c_M_score 101 = .ok (.if_icmp .ge 63, 3) := by decide +kernel
theorem d_M_score_104 : decode c_M_score 104 = .ok (.lload 6, 2) := by decide +kernel
theorem d_M_score_106 : decode c_M_score 106 = .ok (.aload_n 0, 1) := by decide +kernel
theorem d_M_score_107 : decode c_M_score 107 = .ok (.getfield 32, 3) := by decide +kernel
theorem d_M_score_110 : decode c_M_score 110 = .ok (.iload 8, 2) := by decide +kernel
theorem d_M_score_112 : decode c_M_score 112 = .ok (.iconst 2, 1) := by decide +kernel
theorem d_M_score_113 : decode c_M_score 113 = .ok (.iadd, 1) := by decide +kernel
theorem d_M_score_114 : decode c_M_score 114 = .ok (.laload, 1) := by decide +kernel
theorem d_M_score_115 : decode c_M_score 115 = .ok (.lload_n 3, 1) := by decide +kernel
theorem d_M_score_116 : decode c_M_score 116 = .ok (.lcmp, 1) := by decide +kernel
theorem d_M_score_117 : decode c_M_score 117 = .ok (.ifCond .ne 7, 3) := by decide +kernel
theorem d_M_score_120 : decode c_M_score 120 = .ok (.lconst 1, 1) := by decide +kernel
theorem d_M_score_121 : decode c_M_score 121 = .ok (.goto 4, 3) := by decide +kernel
theorem d_M_score_124 : decode c_M_score 124 = .ok (.lconst 0, 1) := by decide +kernel
theorem d_M_score_125 : decode c_M_score 125 = .ok (.aload_n 0, 1) := by decide +kernel
theorem d_M_score_126 : decode c_M_score 126 = .ok (.getfield 32, 3) := by decide +kernel
theorem d_M_score_129 : decode c_M_score 129 = .ok (.iload 8, 2) := by decide +kernel
theorem d_M_score_131 : decode c_M_score 131 = .ok (.iconst 2, 1) := by decide +kernel
theorem d_M_score_132 : decode c_M_score 132 = .ok (.iadd, 1) := by decide +kernel
theorem d_M_score_133 : decode c_M_score 133 = .ok (.laload, 1) := by decide +kernel
theorem d_M_score_134 : decode c_M_score 134 = .ok (.aload_n 0, 1) := by decide +kernel
theorem d_M_score_135 : decode c_M_score 135 = .ok (.getfield 32, 3) := by decide +kernel
theorem d_M_score_138 : decode c_M_score 138 = .ok (.iload 8, 2) := by decide +kernel
theorem d_M_score_140 : decode c_M_score 140 = .ok (.iconst 5, 1) := by decide +kernel
theorem d_M_score_141 : decode c_M_score 141 = .ok (.iadd, 1) := by decide +kernel
theorem d_M_score_142 : decode c_M_score 142 = .ok (.laload, 1) := by decide +kernel
theorem d_M_score_143 : decode c_M_score 143 = .ok (.ladd, 1) := by decide +kernel
theorem d_M_score_144 : decode c_M_score 144 = .ok (.lload_n 3, 1) := by decide +kernel
theorem d_M_score_145 : decode c_M_score 145 = .ok (.lcmp, 1) := by decide +kernel
theorem d_M_score_146 : decode c_M_score 146 = .ok (.ifCond .ne 7, 3) := by decide +kernel
theorem d_M_score_149 : decode c_M_score 149 = .ok (.lconst 1, 1) := by decide +kernel
theorem d_M_score_150 : decode c_M_score 150 = .ok (.goto 4, 3) := by decide +kernel
theorem d_M_score_153 : decode c_M_score 153 = .ok (.lconst 0, 1) := by decide +kernel
theorem d_M_score_154 : decode c_M_score 154 = .ok (.ladd, 1) := by decide +kernel
theorem d_M_score_155 : decode c_M_score 155 = .ok (.ladd, 1) := by decide +kernel
theorem d_M_score_156 : decode c_M_score 156 = .ok (.lstore 6, 2) := by decide +kernel
theorem d_M_score_158 : decode c_M_score 158 = .ok (.iinc 8 6, 3) := by decide +kernel
theorem d_M_score_161 : decode c_M_score 161 = .ok (.goto (-69), 3) := by decide +kernel
theorem d_M_score_164 : decode c_M_score 164 = .ok (.iload_n 2, 1) := by decide +kernel
theorem d_M_score_165 : decode c_M_score 165 = .ok (.ifCond .ne 7, 3) := by decide +kernel
theorem d_M_score_168 : decode c_M_score 168 = .ok (.lload_n 3, 1) := by decide +kernel
theorem d_M_score_169 : decode c_M_score 169 = .ok (.goto 5, 3) := by decide +kernel
theorem d_M_score_172 : decode c_M_score 172 = .ok (.lload 6, 2) := by decide +kernel
theorem d_M_score_174 : decode c_M_score 174 = .ok (.lreturn, 1) := by decide +kernel
theorem d_M_areaOf_0 : decode c_M_areaOf 0 = .ok (.lconst 0, 1) := by decide +kernel
theorem d_M_areaOf_1 : decode c_M_areaOf 1 = .ok (.lstore_n 2, 1) := by decide +kernel
theorem d_M_areaOf_2 : decode c_M_areaOf 2 = .ok (.bipush 12, 2) := by decide +kernel
theorem d_M_areaOf_4 : decode c_M_areaOf 4 = .ok (.iload_n 1, 1) := by decide +kernel
theorem d_M_areaOf_5 : decode c_M_areaOf 5 = .ok (.imul, 1) := by decide +kernel
theorem d_M_areaOf_6 : decode c_M_areaOf 6 = .ok (.istore 4, 2) := by decide +kernel
theorem d_M_areaOf_8 : decode c_M_areaOf 8 = .ok (.aload_n 0, 1) := by decide +kernel
theorem d_M_areaOf_9 : decode c_M_areaOf 9 = .ok (.getfield 7, 3) := by decide +kernel
theorem d_M_areaOf_12 : decode c_M_areaOf 12 = .ok (.iload_n 1, 1) := by decide +kernel
theorem d_M_areaOf_13 : decode c_M_areaOf 13 = .ok (.iaload, 1) := by decide +kernel
theorem d_M_areaOf_14 : decode c_M_areaOf 14 = .ok (.istore 5, 2) := by decide +kernel
theorem d_M_areaOf_16 : decode c_M_areaOf 16 = .ok (.iconst 0, 1) := by decide +kernel
theorem d_M_areaOf_17 : decode c_M_areaOf 17 = .ok (.istore 6, 2) := by decide +kernel
theorem d_M_areaOf_19 : decode c_M_areaOf 19 = .ok (.iload 6, 2) := by decide +kernel
theorem d_M_areaOf_21 : decode c_M_areaOf 21 = .ok (.iload 5, 2) := by decide +kernel
theorem d_M_areaOf_23 : decode c_M_areaOf 23 = .ok (.if_icmp .ge 74, 3) := by decide +kernel
theorem d_M_areaOf_26 : decode c_M_areaOf 26 = .ok (.iload 6, 2) := by decide +kernel
theorem d_M_areaOf_28 : decode c_M_areaOf 28 = .ok (.iconst 1, 1) := by decide +kernel
theorem d_M_areaOf_29 : decode c_M_areaOf 29 = .ok (.iadd, 1) := by decide +kernel
theorem d_M_areaOf_30 : decode c_M_areaOf 30 = .ok (.iload 5, 2) := by decide +kernel
theorem d_M_areaOf_32 : decode c_M_areaOf 32 = .ok (.if_icmp .ge 10, 3) := by decide +kernel
theorem d_M_areaOf_35 : decode c_M_areaOf 35 = .ok (.iload 6, 2) := by decide +kernel
theorem d_M_areaOf_37 : decode c_M_areaOf 37 = .ok (.iconst 1, 1) := by decide +kernel
theorem d_M_areaOf_38 : decode c_M_areaOf 38 = .ok (.iadd, 1) := by decide +kernel
theorem d_M_areaOf_39 : decode c_M_areaOf 39 = .ok (.goto 4, 3) := by decide +kernel
theorem d_M_areaOf_42 : decode c_M_areaOf 42 = .ok (.iconst 0, 1) := by decide +kernel
theorem d_M_areaOf_43 : decode c_M_areaOf 43 = .ok (.istore 7, 2) := by decide +kernel
theorem d_M_areaOf_45 : decode c_M_areaOf 45 = .ok (.lload_n 2, 1) := by decide +kernel
theorem d_M_areaOf_46 : decode c_M_areaOf 46 = .ok (.aload_n 0, 1) := by decide +kernel
theorem d_M_areaOf_47 : decode c_M_areaOf 47 = .ok (.getfield 13, 3) := by decide +kernel
theorem d_M_areaOf_50 : decode c_M_areaOf 50 = .ok (.iload 4, 2) := by decide +kernel
theorem d_M_areaOf_52 : decode c_M_areaOf 52 = .ok (.iload 6, 2) := by decide +kernel
theorem d_M_areaOf_54 : decode c_M_areaOf 54 = .ok (.iadd, 1) := by decide +kernel
theorem d_M_areaOf_55 : decode c_M_areaOf 55 = .ok (.laload, 1) := by decide +kernel
theorem d_M_areaOf_56 : decode c_M_areaOf 56 = .ok (.aload_n 0, 1) := by decide +kernel
theorem d_M_areaOf_57 : decode c_M_areaOf 57 = .ok (.getfield 17, 3) := by decide +kernel
theorem d_M_areaOf_60 : decode c_M_areaOf 60 = .ok (.iload 4, 2) := by decide +kernel
theorem d_M_areaOf_62 : decode c_M_areaOf 62 = .ok (.iload 7, 2) := by decide +kernel
theorem d_M_areaOf_64 : decode c_M_areaOf 64 = .ok (.iadd, 1) := by decide +kernel
theorem d_M_areaOf_65 : decode c_M_areaOf 65 = .ok (.laload, 1) := by decide +kernel
theorem d_M_areaOf_66 : decode c_M_areaOf 66 = .ok (.lmul, 1) := by decide +kernel
theorem d_M_areaOf_67 : decode c_M_areaOf 67 = .ok (.aload_n 0, 1) := by decide +kernel
theorem d_M_areaOf_68 : decode c_M_areaOf 68 = .ok (.getfield 17, 3) := by decide +kernel
theorem d_M_areaOf_71 : decode c_M_areaOf 71 = .ok (.iload 4, 2) := by decide +kernel
theorem d_M_areaOf_73 : decode c_M_areaOf 73 = .ok (.iload 6, 2) := by decide +kernel
theorem d_M_areaOf_75 : decode c_M_areaOf 75 = .ok (.iadd, 1) := by decide +kernel
theorem d_M_areaOf_76 : decode c_M_areaOf 76 = .ok (.laload, 1) := by decide +kernel
theorem d_M_areaOf_77 : decode c_M_areaOf 77 = .ok (.aload_n 0, 1) := by decide +kernel
theorem d_M_areaOf_78 : decode c_M_areaOf 78 = .ok (.getfield 13, 3) := by decide +kernel
theorem d_M_areaOf_81 : decode c_M_areaOf 81 = .ok (.iload 4, 2) := by decide +kernel
theorem d_M_areaOf_83 : decode c_M_areaOf 83 = .ok (.iload 7, 2) := by decide +kernel
theorem d_M_areaOf_85 : decode c_M_areaOf 85 = .ok (.iadd, 1) := by decide +kernel
theorem d_M_areaOf_86 : decode c_M_areaOf 86 = .ok (.laload, 1) := by decide +kernel
theorem d_M_areaOf_87 : decode c_M_areaOf 87 = .ok (.lmul, 1) := by decide +kernel
theorem d_M_areaOf_88 : decode c_M_areaOf 88 = .ok (.lsub, 1) := by decide +kernel
theorem d_M_areaOf_89 : decode c_M_areaOf 89 = .ok (.ladd, 1) := by decide +kernel
theorem d_M_areaOf_90 : decode c_M_areaOf 90 = .ok (.lstore_n 2, 1) := by decide +kernel
theorem d_M_areaOf_91 : decode c_M_areaOf 91 = .ok (.iinc 6 1, 3) := by decide +kernel
theorem d_M_areaOf_94 : decode c_M_areaOf 94 = .ok (.goto (-75), 3) := by decide +kernel
theorem d_M_areaOf_97 : decode c_M_areaOf 97 = .ok (.lload_n 2, 1) := by decide +kernel
theorem d_M_areaOf_98 : decode c_M_areaOf 98 = .ok (.lconst 0, 1) := by decide +kernel
theorem d_M_areaOf_99 : decode c_M_areaOf 99 = .ok (.lcmp, 1) := by decide +kernel
theorem d_M_areaOf_100 : decode c_M_areaOf 100 = .ok (.ifCond .ge 9, 3) := by decide +kernel
theorem d_M_areaOf_103 : decode c_M_areaOf 103 = .ok (.lconst 0, 1) := by decide +kernel
theorem d_M_areaOf_104 : decode c_M_areaOf 104 = .ok (.lload_n 2, 1) := by decide +kernel
theorem d_M_areaOf_105 : decode c_M_areaOf 105 = .ok (.lsub, 1) := by decide +kernel
theorem d_M_areaOf_106 : decode c_M_areaOf 106 = .ok (.goto 4, 3) := by decide +kernel
theorem d_M_areaOf_109 : decode c_M_areaOf 109 = .ok (.lload_n 2, 1) := by decide +kernel
theorem d_M_areaOf_110 : decode c_M_areaOf 110 = .ok (.lreturn, 1) := by decide +kernel
theorem d_M_waste_0 : decode c_M_waste 0 = .ok (.aload_n 0, 1) := by decide +kernel
theorem d_M_waste_1 : decode c_M_waste 1 = .ok (.iload_n 1, 1) := by decide +kernel
theorem d_M_waste_2 : decode c_M_waste 2 = .ok (.ifCond .eq 8, 3) := by decide +kernel
theorem d_M_waste_5 : decode c_M_waste 5 = .ok (.iload_n 1, 1) := by decide +kernel
theorem d_M_waste_6 : decode c_M_waste 6 = .ok (.iconst 1, 1) := by decide +kernel
theorem d_M_waste_7 : decode c_M_waste 7 = .ok (.if_icmp .ne 7, 3) := by decide +kernel
theorem d_M_waste_10 : decode c_M_waste 10 = .ok (.iconst 0, 1) := by decide +kernel
theorem d_M_waste_11 : decode c_M_waste 11 = .ok (.goto 4, 3) := by decide +kernel
theorem d_M_waste_14 : decode c_M_waste 14 = .ok (.iconst 1, 1) := by decide +kernel
theorem d_M_waste_15 : decode c_M_waste 15 = .ok (.putfield 69, 3) := by decide +kernel
theorem d_M_waste_18 : decode c_M_waste 18 = .ok (.aload_n 0, 1) := by decide +kernel
theorem d_M_waste_19 : decode c_M_waste 19 = .ok (.getfield 69, 3) := by decide +kernel
theorem d_M_waste_22 : decode c_M_waste 22 = .ok (.ifCond .eq 5, 3) := by decide +kernel
theorem d_M_waste_25 : decode c_M_waste 25 = .ok (.lconst 0, 1) := by decide +kernel
theorem d_M_waste_26 : decode c_M_waste 26 = .ok (.lreturn, 1) := by decide +kernel
theorem d_M_waste_27 : decode c_M_waste 27 = .ok (.ldc2_w 155, 3) := by decide +kernel
theorem d_M_waste_30 : decode c_M_waste 30 = .ok (.aload_n 0, 1) := by decide +kernel
theorem d_M_waste_31 : decode c_M_waste 31 = .ok (.getfield 62, 3) := by decide +kernel
theorem d_M_waste_34 : decode c_M_waste 34 = .ok (.lmul, 1) := by decide +kernel
theorem d_M_waste_35 : decode c_M_waste 35 = .ok (.aload_n 0, 1) := by decide +kernel
theorem d_M_waste_36 : decode c_M_waste 36 = .ok (.getfield 66, 3) := by decide +kernel
theorem d_M_waste_39 : decode c_M_waste 39 = .ok (.lmul, 1) := by decide +kernel
theorem d_M_waste_40 : decode c_M_waste 40 = .ok (.lstore_n 2, 1) := by decide +kernel
theorem d_M_waste_41 : decode c_M_waste 41 = .ok (.lload_n 2, 1) := by decide +kernel
theorem d_M_waste_42 : decode c_M_waste 42 = .ok (.lstore 4, 2) := by decide +kernel
theorem d_M_waste_44 : decode c_M_waste 44 = .ok (.iconst 0, 1) := by decide +kernel
theorem d_M_waste_45 : decode c_M_waste 45 = .ok (.istore 6, 2) := by decide +kernel
theorem d_M_waste_47 : decode c_M_waste 47 = .ok (.iload 6, 2) := by decide +kernel
theorem d_M_waste_49 : decode c_M_waste 49 = .ok (.bipush 6, 2) := by decide +kernel
theorem d_M_waste_51 : decode c_M_waste 51 = .ok (.aload_n 0, 1) := by decide +kernel
theorem d_M_waste_52 : decode c_M_waste 52 = .ok (.getfield 125, 3) := by decide +kernel
theorem d_M_waste_55 : decode c_M_waste 55 = .ok (.imul, 1) := by decide +kernel
theorem d_M_waste_56 : decode c_M_waste 56 = .ok (.if_icmp .ge 26, 3) := by decide +kernel
theorem d_M_waste_59 : decode c_M_waste 59 = .ok (.lload 4, 2) := by decide +kernel
theorem d_M_waste_61 : decode c_M_waste 61 = .ok (.aload_n 0, 1) := by decide +kernel
theorem d_M_waste_62 : decode c_M_waste 62 = .ok (.aload_n 0, 1) := by decide +kernel
theorem d_M_waste_63 : decode c_M_waste 63 = .ok (.getfield 32, 3) := by decide +kernel
theorem d_M_waste_66 : decode c_M_waste 66 = .ok (.iload 6, 2) := by decide +kernel
theorem d_M_waste_68 : decode c_M_waste 68 = .ok (.laload, 1) := by decide +kernel
theorem d_M_waste_69 : decode c_M_waste 69 = .ok (.l2i, 1) := by decide +kernel
theorem d_M_waste_70 : decode c_M_waste 70 = .ok (.invokevirtual 163, 3) := by decide +kernel
theorem d_M_waste_73 : decode c_M_waste 73 = .ok (.lsub, 1) := by decide +kernel
theorem d_M_waste_74 : decode c_M_waste 74 = .ok (.lstore 4, 2) := by decide +kernel
theorem d_M_waste_76 : decode c_M_waste 76 = .ok (.iinc 6 6, 3) := by decide +kernel
theorem d_M_waste_79 : decode c_M_waste 79 = .ok (.goto (-32), 3) := by decide +kernel
theorem d_M_waste_82 : decode c_M_waste 82 = .ok (.lload 4, 2) := by decide +kernel
theorem d_M_waste_84 : decode c_M_waste 84 = .ok (.lconst 0, 1) := by decide +kernel
theorem d_M_waste_85 : decode c_M_waste 85 = .ok (.lcmp, 1) := by decide +kernel
theorem d_M_waste_86 : decode c_M_waste 86 = .ok (.ifCond .ge 10, 3) := by decide +kernel
theorem d_M_waste_89 : decode c_M_waste 89 = .ok (.lconst 0, 1) := by decide +kernel
theorem d_M_waste_90 : decode c_M_waste 90 = .ok (.lload 4, 2) := by decide +kernel
theorem d_M_waste_92 : decode c_M_waste 92 = .ok (.lsub, 1) := by decide +kernel
theorem d_M_waste_93 : decode c_M_waste 93 = .ok (.goto 5, 3) := by decide +kernel
theorem d_M_waste_96 : decode c_M_waste 96 = .ok (.lload 4, 2) := by decide +kernel
theorem d_M_waste_98 : decode c_M_waste 98 = .ok (.lstore 6, 2) := by decide +kernel
theorem d_M_waste_100 : decode c_M_waste 100 = .ok (.lload_n 2, 1) := by decide +kernel
theorem d_M_waste_101 : decode c_M_waste 101 = .ok (.lstore 8, 2) := by decide +kernel
theorem d_M_waste_103 : decode c_M_waste 103 = .ok (.lload 8, 2) := by decide +kernel
theorem d_M_waste_105 : decode c_M_waste 105 = .ok (.lconst 0, 1) := by decide +kernel
theorem d_M_waste_106 : decode c_M_waste 106 = .ok (.lcmp, 1) := by decide +kernel
theorem d_M_waste_107 : decode c_M_waste 107 = .ok (.ifCond .eq 21, 3) := by decide +kernel
theorem d_M_waste_110 : decode c_M_waste 110 = .ok (.lload 6, 2) := by decide +kernel
theorem d_M_waste_112 : decode c_M_waste 112 = .ok (.lload 8, 2) := by decide +kernel
theorem d_M_waste_114 : decode c_M_waste 114 = .ok (.lrem, 1) := by decide +kernel
theorem d_M_waste_115 : decode c_M_waste 115 = .ok (.lstore 10, 2) := by decide +kernel
theorem d_M_waste_117 : decode c_M_waste 117 = .ok (.lload 8, 2) := by decide +kernel
theorem d_M_waste_119 : decode c_M_waste 119 = .ok (.lstore 6, 2) := by decide +kernel
theorem d_M_waste_121 : decode c_M_waste 121 = .ok (.lload 10, 2) := by decide +kernel
theorem d_M_waste_123 : decode c_M_waste 123 = .ok (.lstore 8, 2) := by decide +kernel
theorem d_M_waste_125 : decode c_M_waste 125 = .ok (.goto (-22), 3) := by decide +kernel
theorem d_M_waste_128 : decode c_M_waste 128 = .ok (.iload_n 1, 1) := by decide +kernel
theorem d_M_waste_129 : decode c_M_waste 129 = .ok (.ifCond .ne 11, 3) := by decide +kernel
theorem d_M_waste_132 : decode c_M_waste 132 = .ok (.lload 4, 2) := by decide +kernel
theorem d_M_waste_134 : decode c_M_waste 134 = .ok (.lload 6, 2) := by decide +kernel
theorem d_M_waste_136 : decode c_M_waste 136 = .ok (.ldiv, 1) := by decide +kernel
theorem d_M_waste_137 : decode c_M_waste 137 = .ok (.goto 7, 3) := by decide +kernel
theorem d_M_waste_140 : decode c_M_waste 140 = .ok (.lload_n 2, 1) := by decide +kernel
theorem d_M_waste_141 : decode c_M_waste 141 = .ok (.lload 6, 2) := by decide +kernel
theorem d_M_waste_143 : decode c_M_waste 143 = .ok (.ldiv, 1) := by decide +kernel
theorem d_M_waste_144 : decode c_M_waste 144 = .ok (.lreturn, 1) := by decide +kernel
theorem d_M_orderOf_0 : decode c_M_orderOf 0 = .ok (.iload_n 1, 1) := by decide +kernel
theorem d_M_orderOf_1 : decode c_M_orderOf 1 = .ok (.istore_n 2, 1) := by decide +kernel
theorem d_M_orderOf_2 : decode c_M_orderOf 2 = .ok (.iconst 0, 1) := by decide +kernel
theorem d_M_orderOf_3 : decode c_M_orderOf 3 = .ok (.istore_n 3, 1) := by decide +kernel
theorem d_M_orderOf_4 : decode c_M_orderOf 4 = .ok (.iload_n 3, 1) := by decide +kernel
theorem d_M_orderOf_5 : decode c_M_orderOf 5 = .ok (.iconst 2, 1) := by decide +kernel
theorem d_M_orderOf_6 : decode c_M_orderOf 6 = .ok (.if_icmp .ge 64, 3) := by decide +kernel
theorem d_M_orderOf_9 : decode c_M_orderOf 9 = .ok (.iload_n 1, 1) := by decide +kernel
theorem d_M_orderOf_10 : decode c_M_orderOf 10 = .ok (.ifCond .lt 60, 3) := by decide +kernel
theorem d_M_orderOf_13 : decode c_M_orderOf 13 = .ok (.iconst 0, 1) := by decide +kernel
theorem d_M_orderOf_14 : decode c_M_orderOf 14 = .ok (.istore 4, 2) := by decide +kernel
theorem d_M_orderOf_16 : decode c_M_orderOf 16 = .ok (.iload 4, 2) := by decide +kernel
theorem d_M_orderOf_18 : decode c_M_orderOf 18 = .ok (.aload_n 0, 1) := by decide +kernel
theorem d_M_orderOf_19 : decode c_M_orderOf 19 = .ok (.getfield 125, 3) := by decide +kernel
theorem d_M_orderOf_22 : decode c_M_orderOf 22 = .ok (.if_icmp .ge 42, 3) := by decide +kernel
theorem d_M_orderOf_25 : decode c_M_orderOf 25 = .ok (.aload_n 0, 1) := by decide +kernel
theorem d_M_orderOf_26 : decode c_M_orderOf 26 = .ok (.getfield 35, 3) := by decide +kernel
theorem d_M_orderOf_29 : decode c_M_orderOf 29 = .ok (.iload 4, 2) := by decide +kernel
theorem d_M_orderOf_31 : decode c_M_orderOf 31 = .ok (.baload, 1) := by decide +kernel
theorem d_M_orderOf_32 : decode c_M_orderOf 32 = .ok (.iload_n 3, 1) := by decide +kernel
theorem d_M_orderOf_33 : decode c_M_orderOf 33 = .ok (.iconst 1, 1) := by decide +kernel
theorem d_M_orderOf_34 : decode c_M_orderOf 34 = .ok (.if_icmp .ne 7, 3) := by decide +kernel
theorem d_M_orderOf_37 : decode c_M_orderOf 37 = .ok (.iconst 1, 1) := by decide +kernel
theorem d_M_orderOf_38 : decode c_M_orderOf 38 = .ok (.goto 4, 3) := by decide +kernel
theorem d_M_orderOf_41 : decode c_M_orderOf 41 = .ok (.iconst 0, 1) := by decide +kernel
theorem d_M_orderOf_42 : decode c_M_orderOf 42 = .ok (.if_icmp .eq 6, 3) := by decide +kernel
theorem d_M_orderOf_45 : decode c_M_orderOf 45 = .ok (.goto 13, 3) := by decide +kernel
theorem d_M_orderOf_48 : decode c_M_orderOf 48 = .ok (.iload_n 2, 1) := by decide +kernel
theorem d_M_orderOf_49 : decode c_M_orderOf 49 = .ok (.ifCond .ne 6, 3) := by decide +kernel
theorem d_M_orderOf_52 : decode c_M_orderOf 52 = .ok (.iload 4, 2) := by decide +kernel
theorem d_M_orderOf_54 : decode c_M_orderOf 54 = .ok (.ireturn, 1) := by decide +kernel
theorem d_M_orderOf_55 : decode c_M_orderOf 55 = .ok (.iinc 2 (-1), 3) := by decide +kernel
theorem d_M_orderOf_58 : decode c_M_orderOf 58 = .ok (.iinc 4 1, 3) := by decide +kernel
theorem d_M_orderOf_61 : decode c_M_orderOf 61 = .ok (.goto (-45), 3) := by decide +kernel
theorem d_M_orderOf_64 : decode c_M_orderOf 64 = .ok (.iinc 3 1, 3) := by decide +kernel
theorem d_M_orderOf_67 : decode c_M_orderOf 67 = .ok (.goto (-63), 3) := by decide +kernel
theorem d_M_orderOf_70 : decode c_M_orderOf 70 = .ok (.iconst (-1), 1) := by decide +kernel
theorem d_M_orderOf_71 : decode c_M_orderOf 71 = .ok (.ireturn, 1) := by decide +kernel
theorem d_M_order_0 : decode c_M_order 0 = .ok (.aload_n 0, 1) := by decide +kernel
theorem d_M_order_1 : decode c_M_order 1 = .ok (.iconst 0, 1) := by decide +kernel
theorem d_M_order_2 : decode c_M_order 2 = .ok (.putfield 69, 3) := by decide +kernel
theorem d_M_order_5 : decode c_M_order 5 = .ok (.aload_n 0, 1) := by decide +kernel
theorem d_M_order_6 : decode c_M_order 6 = .ok (.iload_n 1, 1) := by decide +kernel
theorem d_M_order_7 : decode c_M_order 7 = .ok (.invokevirtual 166, 3) := by decide +kernel
theorem d_M_order_10 : decode c_M_order 10 = .ok (.ireturn, 1) := by decide +kernel
theorem d_M_mill_0 : decode c_M_mill 0 = .ok (.iload_n 1, 1) := by decide +kernel
theorem d_M_mill_1 : decode c_M_mill 1 = .ok (.ifCond .ge 7, 3) := by decide +kernel
theorem d_M_mill_4 : decode c_M_mill 4 = .ok (.iconst (-1), 1) := by decide +kernel
theorem d_M_mill_5 : decode c_M_mill 5 = .ok (.goto 10, 3) := by decide +kernel
theorem d_M_mill_8 : decode c_M_mill 8 = .ok (.aload_n 0, 1) := by decide +kernel
theorem d_M_mill_9 : decode c_M_mill 9 = .ok (.iload_n 1, 1) := by decide +kernel
theorem d_M_mill_10 : decode c_M_mill 10 = .ok (.iconst 4, 1) := by decide +kernel
theorem d_M_mill_11 : decode c_M_mill 11 = .ok (.idiv, 1) := by decide +kernel
theorem d_M_mill_12 : decode c_M_mill 12 = .ok (.invokevirtual 166, 3) := by decide +kernel
theorem d_M_mill_15 : decode c_M_mill 15 = .ok (.istore_n 3, 1) := by decide +kernel
theorem d_M_mill_16 : decode c_M_mill 16 = .ok (.aload_n 0, 1) := by decide +kernel
theorem d_M_mill_17 : decode c_M_mill 17 = .ok (.iload_n 3, 1) := by decide +kernel
theorem d_M_mill_18 : decode c_M_mill 18 = .ok (.iconst (-1), 1) := by decide +kernel
theorem d_M_mill_19 : decode c_M_mill 19 = .ok (.if_icmp .eq 16, 3) := by decide +kernel
theorem d_M_mill_22 : decode c_M_mill 22 = .ok (.iload_n 2, 1) := by decide +kernel
theorem d_M_mill_23 : decode c_M_mill 23 = .ok (.ifCond .eq 8, 3) := by decide +kernel
theorem d_M_mill_26 : decode c_M_mill 26 = .ok (.iload_n 2, 1) := by decide +kernel
theorem d_M_mill_27 : decode c_M_mill 27 = .ok (.iconst 1, 1) := by decide +kernel
theorem d_M_mill_28 : decode c_M_mill 28 = .ok (.if_icmp .ne 7, 3) := by decide +kernel
theorem d_M_mill_31 : decode c_M_mill 31 = .ok (.iconst 0, 1) := by decide +kernel
theorem d_M_mill_32 : decode c_M_mill 32 = .ok (.goto 4, 3) := by decide +kernel
theorem d_M_mill_35 : decode c_M_mill 35 = .ok (.iconst 1, 1) := by decide +kernel
theorem d_M_mill_36 : decode c_M_mill 36 = .ok (.putfield 69, 3) := by decide +kernel
theorem d_M_mill_39 : decode c_M_mill 39 = .ok (.aload_n 0, 1) := by decide +kernel
theorem d_M_mill_40 : decode c_M_mill 40 = .ok (.getfield 69, 3) := by decide +kernel
theorem d_M_mill_43 : decode c_M_mill 43 = .ok (.ifCond .eq 5, 3) := by decide +kernel
theorem d_M_mill_46 : decode c_M_mill 46 = .ok (.lconst 0, 1) := by decide +kernel
theorem d_M_mill_47 : decode c_M_mill 47 = .ok (.lreturn, 1) := by decide +kernel
theorem d_M_mill_48 : decode c_M_mill 48 = .ok (.bipush 6, 2) := by decide +kernel
theorem d_M_mill_50 : decode c_M_mill 50 = .ok (.iload_n 3, 1) := by decide +kernel
theorem d_M_mill_51 : decode c_M_mill 51 = .ok (.imul, 1) := by decide +kernel
theorem d_M_mill_52 : decode c_M_mill 52 = .ok (.istore 4, 2) := by decide +kernel
theorem d_M_mill_54 : decode c_M_mill 54 = .ok (.iload_n 1, 1) := by decide +kernel
theorem d_M_mill_55 : decode c_M_mill 55 = .ok (.iconst 4, 1) := by decide +kernel
theorem d_M_mill_56 : decode c_M_mill 56 = .ok (.irem, 1) := by decide +kernel
theorem d_M_mill_57 : decode c_M_mill 57 = .ok (.istore 5, 2) := by decide +kernel
theorem d_M_mill_59 : decode c_M_mill 59 = .ok (.iload_n 2, 1) := by decide +kernel
theorem d_M_mill_60 : decode c_M_mill 60 = .ok (.ifCond .ne 56, 3) := by decide +kernel
theorem d_M_mill_63 : decode c_M_mill 63 = .ok (.iload 5, 2) := by decide +kernel
theorem d_M_mill_65 : decode c_M_mill 65 = .ok (.ifCond .eq 9, 3) := by decide +kernel
theorem d_M_mill_68 : decode c_M_mill 68 = .ok (.iload 5, 2) := by decide +kernel
theorem d_M_mill_70 : decode c_M_mill 70 = .ok (.iconst 3, 1) := by decide +kernel
theorem d_M_mill_71 : decode c_M_mill 71 = .ok (.if_icmp .ne 20, 3) := by decide +kernel
theorem d_M_mill_74 : decode c_M_mill 74 = .ok (.aload_n 0, 1) := by decide +kernel
theorem d_M_mill_75 : decode c_M_mill 75 = .ok (.getfield 32, 3) := by decide +kernel
theorem d_M_mill_78 : decode c_M_mill 78 = .ok (.iload 4, 2) := by decide +kernel
theorem d_M_mill_80 : decode c_M_mill 80 = .ok (.iconst 1, 1) := by decide +kernel
theorem d_M_mill_81 : decode c_M_mill 81 = .ok (.iadd, 1) := by decide +kernel
theorem d_M_mill_82 : decode c_M_mill 82 = .ok (.laload, 1) := by decide +kernel
theorem d_M_mill_83 : decode c_M_mill 83 = .ok (.aload_n 0, 1) := by decide +kernel
theorem d_M_mill_84 : decode c_M_mill 84 = .ok (.getfield 87, 3) := by decide +kernel
theorem d_M_mill_87 : decode c_M_mill 87 = .ok (.lsub, 1) := by decide +kernel
theorem d_M_mill_88 : decode c_M_mill 88 = .ok (.goto 27, 3) := by decide +kernel
theorem d_M_mill_91 : decode c_M_mill 91 = .ok (.aload_n 0, 1) := by decide +kernel
theorem d_M_mill_92 : decode c_M_mill 92 = .ok (.getfield 32, 3) := by decide +kernel
theorem d_M_mill_95 : decode c_M_mill 95 = .ok (.iload 4, 2) := by decide +kernel
theorem d_M_mill_97 : decode c_M_mill 97 = .ok (.iconst 1, 1) := by decide +kernel
theorem d_M_mill_98 : decode c_M_mill 98 = .ok (.iadd, 1) := by decide +kernel
theorem d_M_mill_99 : decode c_M_mill 99 = .ok (.laload, 1) := by decide +kernel
theorem d_M_mill_100 : decode c_M_mill 100 = .ok (.aload_n 0, 1) := by decide +kernel
theorem d_M_mill_101 : decode c_M_mill 101 = .ok (.getfield 32, 3) := by decide +kernel
theorem d_M_mill_104 : decode c_M_mill 104 = .ok (.iload 4, 2) := by decide +kernel
theorem d_M_mill_106 : decode c_M_mill 106 = .ok (.iconst 4, 1) := by decide +kernel
theorem d_M_mill_107 : decode c_M_mill 107 = .ok (.iadd, 1) := by decide +kernel
theorem d_M_mill_108 : decode c_M_mill 108 = .ok (.laload, 1) := by decide +kernel
theorem d_M_mill_109 : decode c_M_mill 109 = .ok (.ladd, 1) := by decide +kernel
theorem d_M_mill_110 : decode c_M_mill 110 = .ok (.aload_n 0, 1) := by decide +kernel
theorem d_M_mill_111 : decode c_M_mill 111 = .ok (.getfield 87, 3) := by decide +kernel
theorem d_M_mill_114 : decode c_M_mill 114 = .ok (.ladd, 1) := by decide +kernel
theorem d_M_mill_115 : decode c_M_mill 115 = .ok (.lreturn, 1) := by decide +kernel
theorem d_M_mill_116 : decode c_M_mill 116 = .ok (.iload 5, 2) := by decide +kernel
theorem d_M_mill_118 : decode c_M_mill 118 = .ok (.iconst 2, 1) := by decide +kernel
theorem d_M_mill_119 : decode c_M_mill 119 = .ok (.if_icmp .ge 20, 3) := by decide +kernel
theorem d_M_mill_122 : decode c_M_mill 122 = .ok (.aload_n 0, 1) := by decide +kernel
theorem d_M_mill_123 : decode c_M_mill 123 = .ok (.getfield 32, 3) := by decide +kernel
theorem d_M_mill_126 : decode c_M_mill 126 = .ok (.iload 4, 2) := by decide +kernel
theorem d_M_mill_128 : decode c_M_mill 128 = .ok (.iconst 2, 1) := by decide +kernel
theorem d_M_mill_129 : decode c_M_mill 129 = .ok (.iadd, 1) := by decide +kernel
theorem d_M_mill_130 : decode c_M_mill 130 = .ok (.laload, 1) := by decide +kernel
theorem d_M_mill_131 : decode c_M_mill 131 = .ok (.aload_n 0, 1) := by decide +kernel
theorem d_M_mill_132 : decode c_M_mill 132 = .ok (.getfield 87, 3) := by decide +kernel
theorem d_M_mill_135 : decode c_M_mill 135 = .ok (.lsub, 1) := by decide +kernel
theorem d_M_mill_136 : decode c_M_mill 136 = .ok (.goto 27, 3) := by decide +kernel
theorem d_M_mill_139 : decode c_M_mill 139 = .ok (.aload_n 0, 1) := by decide +kernel
theorem d_M_mill_140 : decode c_M_mill 140 = .ok (.getfield 32, 3) := by decide +kernel
theorem d_M_mill_143 : decode c_M_mill 143 = .ok (.iload 4, 2) := by decide +kernel
theorem d_M_mill_145 : decode c_M_mill 145 = .ok (.iconst 2, 1) := by decide +kernel
theorem d_M_mill_146 : decode c_M_mill 146 = .ok (.iadd, 1) := by decide +kernel
theorem d_M_mill_147 : decode c_M_mill 147 = .ok (.laload, 1) := by decide +kernel
theorem d_M_mill_148 : decode c_M_mill 148 = .ok (.aload_n 0, 1) := by decide +kernel
theorem d_M_mill_149 : decode c_M_mill 149 = .ok (.getfield 32, 3) := by decide +kernel
theorem d_M_mill_152 : decode c_M_mill 152 = .ok (.iload 4, 2) := by decide +kernel
theorem d_M_mill_154 : decode c_M_mill 154 = .ok (.iconst 5, 1) := by decide +kernel
theorem d_M_mill_155 : decode c_M_mill 155 = .ok (.iadd, 1) := by decide +kernel
theorem d_M_mill_156 : decode c_M_mill 156 = .ok (.laload, 1) := by decide +kernel
theorem d_M_mill_157 : decode c_M_mill 157 = .ok (.ladd, 1) := by decide +kernel
theorem d_M_mill_158 : decode c_M_mill 158 = .ok (.aload_n 0, 1) := by decide +kernel
theorem d_M_mill_159 : decode c_M_mill 159 = .ok (.getfield 87, 3) := by decide +kernel
theorem d_M_mill_162 : decode c_M_mill 162 = .ok (.ladd, 1) := by decide +kernel
theorem d_M_mill_163 : decode c_M_mill 163 = .ok (.lreturn, 1) := by decide +kernel
theorem d_M_bad_0 : decode c_M_bad 0 = .ok (.aload_n 0, 1) := by decide +kernel
theorem d_M_bad_1 : decode c_M_bad 1 = .ok (.aload_n 0, 1) := by decide +kernel
theorem d_M_bad_2 : decode c_M_bad 2 = .ok (.iload_n 1, 1) := by decide +kernel
theorem d_M_bad_3 : decode c_M_bad 3 = .ok (.invokevirtual 152, 3) := by decide +kernel
theorem d_M_bad_6 : decode c_M_bad 6 = .ok (.ifCond .eq 7, 3) := by decide +kernel
theorem d_M_bad_9 : decode c_M_bad 9 = .ok (.iconst 0, 1) := by decide +kernel
theorem d_M_bad_10 : decode c_M_bad 10 = .ok (.goto 4, 3) := by decide +kernel
theorem d_M_bad_13 : decode c_M_bad 13 = .ok (.iconst 1, 1) := by decide +kernel
theorem d_M_bad_14 : decode c_M_bad 14 = .ok (.putfield 69, 3) := by decide +kernel
theorem d_M_bad_17 : decode c_M_bad 17 = .ok (.aload_n 0, 1) := by decide +kernel
theorem d_M_bad_18 : decode c_M_bad 18 = .ok (.getfield 69, 3) := by decide +kernel
theorem d_M_bad_21 : decode c_M_bad 21 = .ok (.ifCond .ne 13, 3) := by decide +kernel
theorem d_M_bad_24 : decode c_M_bad 24 = .ok (.aload_n 0, 1) := by decide +kernel
theorem d_M_bad_25 : decode c_M_bad 25 = .ok (.getfield 35, 3) := by decide +kernel
theorem d_M_bad_28 : decode c_M_bad 28 = .ok (.iload_n 1, 1) := by decide +kernel
theorem d_M_bad_29 : decode c_M_bad 29 = .ok (.baload, 1) := by decide +kernel
theorem d_M_bad_30 : decode c_M_bad 30 = .ok (.iload_n 2, 1) := by decide +kernel
theorem d_M_bad_31 : decode c_M_bad 31 = .ok (.if_icmp .ne 5, 3) := by decide +kernel
theorem d_M_bad_34 : decode c_M_bad 34 = .ok (.iconst 0, 1) := by decide +kernel
theorem d_M_bad_35 : decode c_M_bad 35 = .ok (.ireturn, 1) := by decide +kernel
theorem d_M_bad_36 : decode c_M_bad 36 = .ok (.aload_n 0, 1) := by decide +kernel
theorem d_M_bad_37 : decode c_M_bad 37 = .ok (.getfield 35, 3) := by decide +kernel
theorem d_M_bad_40 : decode c_M_bad 40 = .ok (.iload_n 1, 1) := by decide +kernel
theorem d_M_bad_41 : decode c_M_bad 41 = .ok (.iload_n 2, 1) := by decide +kernel
theorem d_M_bad_42 : decode c_M_bad 42 = .ok (.bastore, 1) := by decide +kernel
theorem d_M_bad_43 : decode c_M_bad 43 = .ok (.iconst 1, 1) := by decide +kernel
theorem d_M_bad_44 : decode c_M_bad 44 = .ok (.ireturn, 1) := by decide +kernel
theorem d_M_overlaps_0 : decode c_M_overlaps 0 = .ok (.aload_n 0, 1) := by decide +kernel
theorem d_M_overlaps_1 : decode c_M_overlaps 1 = .ok (.iconst 0, 1) := by decide +kernel
theorem d_M_overlaps_2 : decode c_M_overlaps 2 = .ok (.putfield 69, 3) := by decide +kernel
theorem d_M_overlaps_5 : decode c_M_overlaps 5 = .ok (.iconst 0, 1) := by decide +kernel
theorem d_M_overlaps_6 : decode c_M_overlaps 6 = .ok (.ireturn, 1) := by decide +kernel
