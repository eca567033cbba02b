theorem dX12_makes_0 : decode cX12_makes 0 = .ok (.aload_n 0, 1) := by decide +kernel
theorem dX12_makes_1 : decode cX12_makes 1 = .ok (.getfield 23, 3) := by decide +kernel
theorem dX12_makes_4 : decode cX12_makes 4 = .ok (.iconst 3, 1) := by decide +kernel
theorem dX12_makes_5 : decode cX12_makes 5 = .ok (.iload_n 1, 1) := by decide +kernel
theorem dX12_makes_6 : decode cX12_makes 6 = .ok (.imul, 1) := by decide +kernel
theorem dX12_makes_7 : decode cX12_makes 7 = .ok (.iaload, 1) := by decide +kernel
theorem dX12_makes_8 : decode cX12_makes 8 = .ok (.istore_n 2, 1) := by decide +kernel
theorem dX12_makes_9 : decode cX12_makes 9 = .ok (.aload_n 0, 1) := by decide +kernel
theorem dX12_makes_10 : decode cX12_makes 10 = .ok (.getfield 23, 3) := by decide +kernel
theorem dX12_makes_13 : decode cX12_makes 13 = .ok (.iconst 3, 1) := by decide +kernel
theorem dX12_makes_14 : decode cX12_makes 14 = .ok (.iload_n 1, 1) := by decide +kernel
theorem dX12_makes_15 : decode cX12_makes 15 = .ok (.imul, 1) := by decide +kernel
theorem dX12_makes_16 : decode cX12_makes 16 = .ok (.iconst 1, 1) := by decide +kernel
theorem dX12_makes_17 : decode cX12_makes 17 = .ok (.iadd, 1) := by decide +kernel
theorem dX12_makes_18 : decode cX12_makes 18 = .ok (.iaload, 1) := by decide +kernel
theorem dX12_makes_19 : decode cX12_makes 19 = .ok (.istore_n 3, 1) := by decide +kernel
theorem dX12_makes_20 : decode cX12_makes 20 = .ok (.iconst 1, 1) := by decide +kernel
theorem dX12_makes_21 : decode cX12_makes 21 = .ok (.aload_n 0, 1) := by decide +kernel
theorem dX12_makes_22 : decode cX12_makes 22 = .ok (.getfield 23, 3) := by decide +kernel
theorem dX12_makes_25 : decode cX12_makes 25 = .ok (.iconst 3, 1) := by decide +kernel
theorem dX12_makes_26 : decode cX12_makes 26 = .ok (.iload_n 1, 1) := by decide +kernel
theorem dX12_makes_27 : decode cX12_makes 27 = .ok (.imul, 1) := by decide +kernel
theorem dX12_makes_28 : decode cX12_makes 28 = .ok (.iconst 2, 1) := by decide +kernel
theorem dX12_makes_29 : decode cX12_makes 29 = .ok (.iadd, 1) := by decide +kernel
theorem dX12_makes_30 : decode cX12_makes 30 = .ok (.iaload, 1) := by decide +kernel
theorem dX12_makes_31 : decode cX12_makes 31 = .ok (.ishl, 1) := by decide +kernel
theorem dX12_makes_32 : decode cX12_makes 32 = .ok (.istore 4, 2) := by decide +kernel
theorem dX12_makes_34 : decode cX12_makes 34 = .ok (.aload_n 0, 1) := by decide +kernel
theorem dX12_makes_35 : decode cX12_makes 35 = .ok (.getfield 17, 3) := by decide +kernel
theorem dX12_makes_38 : decode cX12_makes 38 = .ok (.bipush 6, 2) := by decide +kernel
theorem dX12_makes_40 : decode cX12_makes 40 = .ok (.iload_n 2, 1) := by decide +kernel
theorem dX12_makes_41 : decode cX12_makes 41 = .ok (.imul, 1) := by decide +kernel
theorem dX12_makes_42 : decode cX12_makes 42 = .ok (.iaload, 1) := by decide +kernel
theorem dX12_makes_43 : decode cX12_makes 43 = .ok (.iload 4, 2) := by decide +kernel
theorem dX12_makes_45 : decode cX12_makes 45 = .ok (.iconst (-1), 1) := by decide +kernel
theorem dX12_makes_46 : decode cX12_makes 46 = .ok (.ixor, 1) := by decide +kernel
theorem dX12_makes_47 : decode cX12_makes 47 = .ok (.iand, 1) := by decide +kernel
theorem dX12_makes_48 : decode cX12_makes 48 = .ok (.aload_n 0, 1) := by decide +kernel
theorem dX12_makes_49 : decode cX12_makes 49 = .ok (.getfield 17, 3) := by decide +kernel
theorem dX12_makes_52 : decode cX12_makes 52 = .ok (.bipush 6, 2) := by decide +kernel
theorem dX12_makes_54 : decode cX12_makes 54 = .ok (.iload_n 3, 1) := by decide +kernel
theorem dX12_makes_55 : decode cX12_makes 55 = .ok (.imul, 1) := by decide +kernel
theorem dX12_makes_56 : decode cX12_makes 56 = .ok (.iaload, 1) := by decide +kernel
theorem dX12_makes_57 : decode cX12_makes 57 = .ok (.ior, 1) := by decide +kernel
theorem dX12_makes_58 : decode cX12_makes 58 = .ok (.istore 5, 2) := by decide +kernel
theorem dX12_makes_60 : decode cX12_makes 60 = .ok (.aload_n 0, 1) := by decide +kernel
theorem dX12_makes_61 : decode cX12_makes 61 = .ok (.getfield 17, 3) := by decide +kernel
theorem dX12_makes_64 : decode cX12_makes 64 = .ok (.bipush 6, 2) := by decide +kernel
theorem dX12_makes_66 : decode cX12_makes 66 = .ok (.iload_n 2, 1) := by decide +kernel
theorem dX12_makes_67 : decode cX12_makes 67 = .ok (.imul, 1) := by decide +kernel
theorem dX12_makes_68 : decode cX12_makes 68 = .ok (.iconst 1, 1) := by decide +kernel
theorem dX12_makes_69 : decode cX12_makes 69 = .ok (.iadd, 1) := by decide +kernel
theorem dX12_makes_70 : decode cX12_makes 70 = .ok (.iaload, 1) := by decide +kernel
theorem dX12_makes_71 : decode cX12_makes 71 = .ok (.aload_n 0, 1) := by decide +kernel
theorem dX12_makes_72 : decode cX12_makes 72 = .ok (.getfield 17, 3) := by decide +kernel
theorem dX12_makes_75 : decode cX12_makes 75 = .ok (.bipush 6, 2) := by decide +kernel
theorem dX12_makes_77 : decode cX12_makes 77 = .ok (.iload_n 3, 1) := by decide +kernel
theorem dX12_makes_78 : decode cX12_makes 78 = .ok (.imul, 1) := by decide +kernel
theorem dX12_makes_79 : decode cX12_makes 79 = .ok (.iconst 1, 1) := by decide +kernel
theorem dX12_makes_80 : decode cX12_makes 80 = .ok (.iadd, 1) := by decide +kernel
theorem dX12_makes_81 : decode cX12_makes 81 = .ok (.iaload, 1) := by decide +kernel
theorem dX12_makes_82 : decode cX12_makes 82 = .ok (.iload 4, 2) := by decide +kernel
theorem dX12_makes_84 : decode cX12_makes 84 = .ok (.iconst (-1), 1) := by decide +kernel
theorem dX12_makes_85 : decode cX12_makes 85 = .ok (.ixor, 1) := by decide +kernel
theorem dX12_makes_86 : decode cX12_makes 86 = .ok (.iand, 1) := by decide +kernel
theorem dX12_makes_87 : decode cX12_makes 87 = .ok (.ior, 1) := by decide +kernel
theorem dX12_makes_88 : decode cX12_makes 88 = .ok (.istore 6, 2) := by decide +kernel
theorem dX12_makes_90 : decode cX12_makes 90 = .ok (.aload_n 0, 1) := by decide +kernel
theorem dX12_makes_91 : decode cX12_makes 91 = .ok (.getfield 17, 3) := by decide +kernel
theorem dX12_makes_94 : decode cX12_makes 94 = .ok (.bipush 6, 2) := by decide +kernel
theorem dX12_makes_96 : decode cX12_makes 96 = .ok (.iload_n 2, 1) := by decide +kernel
theorem dX12_makes_97 : decode cX12_makes 97 = .ok (.imul, 1) := by decide +kernel
theorem dX12_makes_98 : decode cX12_makes 98 = .ok (.iaload, 1) := by decide +kernel
theorem dX12_makes_99 : decode cX12_makes 99 = .ok (.iload 4, 2) := by decide +kernel
theorem dX12_makes_101 : decode cX12_makes 101 = .ok (.iand, 1) := by decide +kernel
theorem dX12_makes_102 : decode cX12_makes 102 = .ok (.ifCond .eq 28, 3) := by decide +kernel
theorem dX12_makes_105 : decode cX12_makes 105 = .ok (.aload_n 0, 1) := by decide +kernel
theorem dX12_makes_106 : decode cX12_makes 106 = .ok (.getfield 17, 3) := by decide +kernel
theorem dX12_makes_109 : decode cX12_makes 109 = .ok (.bipush 6, 2) := by decide +kernel
theorem dX12_makes_111 : decode cX12_makes 111 = .ok (.iload_n 3, 1) := by decide +kernel
theorem dX12_makes_112 : decode cX12_makes 112 = .ok (.imul, 1) := by decide +kernel
theorem dX12_makes_113 : decode cX12_makes 113 = .ok (.iconst 1, 1) := by decide +kernel
theorem dX12_makes_114 : decode cX12_makes 114 = .ok (.iadd, 1) := by decide +kernel
theorem dX12_makes_115 : decode cX12_makes 115 = .ok (.iaload, 1) := by decide +kernel
theorem dX12_makes_116 : decode cX12_makes 116 = .ok (.iload 4, 2) := by decide +kernel
theorem dX12_makes_118 : decode cX12_makes 118 = .ok (.iand, 1) := by decide +kernel
theorem dX12_makes_119 : decode cX12_makes 119 = .ok (.ifCond .eq 11, 3) := by decide +kernel
theorem dX12_makes_122 : decode cX12_makes 122 = .ok (.iload 5, 2) := by decide +kernel
theorem dX12_makes_124 : decode cX12_makes 124 = .ok (.iload 6, 2) := by decide +kernel
theorem dX12_makes_126 : decode cX12_makes 126 = .ok (.iand, 1) := by decide +kernel
theorem dX12_makes_127 : decode cX12_makes 127 = .ok (.ifCond .eq 5, 3) := by decide +kernel
theorem dX12_makes_130 : decode cX12_makes 130 = .ok (.iconst 0, 1) := by decide +kernel
theorem dX12_makes_131 : decode cX12_makes 131 = .ok (.ireturn, 1) := by decide +kernel
theorem dX12_makes_132 : decode cX12_makes 132 = .ok (.aload_n 0, 1) := by decide +kernel
theorem dX12_makes_133 : decode cX12_makes 133 = .ok (.getfield 112, 3) := by decide +kernel
theorem dX12_makes_136 : decode cX12_makes 136 = .ok (.aload_n 0, 1) := by decide +kernel
theorem dX12_makes_137 : decode cX12_makes 137 = .ok (.getfield 115, 3) := by decide +kernel
theorem dX12_makes_140 : decode cX12_makes 140 = .ok (.iadd, 1) := by decide +kernel
theorem dX12_makes_141 : decode cX12_makes 141 = .ok (.istore 7, 2) := by decide +kernel
theorem dX12_makes_143 : decode cX12_makes 143 = .ok (.aload_n 0, 1) := by decide +kernel
theorem dX12_makes_144 : decode cX12_makes 144 = .ok (.getfield 17, 3) := by decide +kernel
theorem dX12_makes_147 : decode cX12_makes 147 = .ok (.bipush 6, 2) := by decide +kernel
theorem dX12_makes_149 : decode cX12_makes 149 = .ok (.iload 7, 2) := by decide +kernel
theorem dX12_makes_151 : decode cX12_makes 151 = .ok (.imul, 1) := by decide +kernel
theorem dX12_makes_152 : decode cX12_makes 152 = .ok (.iload 5, 2) := by decide +kernel
theorem dX12_makes_154 : decode cX12_makes 154 = .ok (.iastore, 1) := by decide +kernel
theorem dX12_makes_155 : decode cX12_makes 155 = .ok (.aload_n 0, 1) := by decide +kernel
theorem dX12_makes_156 : decode cX12_makes 156 = .ok (.getfield 17, 3) := by decide +kernel
theorem dX12_makes_159 : decode cX12_makes 159 = .ok (.bipush 6, 2) := by decide +kernel
theorem dX12_makes_161 : decode cX12_makes 161 = .ok (.iload 7, 2) := by decide +kernel
theorem dX12_makes_163 : decode cX12_makes 163 = .ok (.imul, 1) := by decide +kernel
theorem dX12_makes_164 : decode cX12_makes 164 = .ok (.iconst 1, 1) := by decide +kernel
theorem dX12_makes_165 : decode cX12_makes 165 = .ok (.iadd, 1) := by decide +kernel
theorem dX12_makes_166 : decode cX12_makes 166 = .ok (.iload 6, 2) := by decide +kernel
theorem dX12_makes_168 : decode cX12_makes 168 = .ok (.iastore, 1) := by decide +kernel
theorem dX12_makes_169 : decode cX12_makes 169 = .ok (.aload_n 0, 1) := by decide +kernel
theorem dX12_makes_170 : decode cX12_makes 170 = .ok (.getfield 17, 3) := by decide +kernel
theorem dX12_makes_173 : decode cX12_makes 173 = .ok (.bipush 6, 2) := by decide +kernel
theorem dX12_makes_175 : decode cX12_makes 175 = .ok (.iload 7, 2) := by decide +kernel
theorem dX12_makes_177 : decode cX12_makes 177 = .ok (.imul, 1) := by decide +kernel
theorem dX12_makes_178 : decode cX12_makes 178 = .ok (.iconst 2, 1) := by decide +kernel
theorem dX12_makes_179 : decode cX12_makes 179 = .ok (.iadd, 1) := by decide +kernel
theorem dX12_makes_180 : decode cX12_makes 180 = .ok (.iconst 0, 1) := by decide +kernel
theorem dX12_makes_181 : decode cX12_makes 181 = .ok (.iastore, 1) := by decide +kernel
theorem dX12_makes_182 : decode cX12_makes 182 = .ok (.aload_n 0, 1) := by decide +kernel
theorem dX12_makes_183 : decode cX12_makes 183 = .ok (.getfield 17, 3) := by decide +kernel
theorem dX12_makes_186 : decode cX12_makes 186 = .ok (.bipush 6, 2) := by decide +kernel
theorem dX12_makes_188 : decode cX12_makes 188 = .ok (.iload 7, 2) := by decide +kernel
theorem dX12_makes_190 : decode cX12_makes 190 = .ok (.imul, 1) := by decide +kernel
theorem dX12_makes_191 : decode cX12_makes 191 = .ok (.iconst 3, 1) := by decide +kernel
theorem dX12_makes_192 : decode cX12_makes 192 = .ok (.iadd, 1) := by decide +kernel
theorem dX12_makes_193 : decode cX12_makes 193 = .ok (.iload_n 2, 1) := by decide +kernel
theorem dX12_makes_194 : decode cX12_makes 194 = .ok (.iastore, 1) := by decide +kernel
theorem dX12_makes_195 : decode cX12_makes 195 = .ok (.aload_n 0, 1) := by decide +kernel
theorem dX12_makes_196 : decode cX12_makes 196 = .ok (.getfield 17, 3) := by decide +kernel
theorem dX12_makes_199 : decode cX12_makes 199 = .ok (.bipush 6, 2) := by decide +kernel
theorem dX12_makes_201 : decode cX12_makes 201 = .ok (.iload 7, 2) := by decide +kernel
theorem dX12_makes_203 : decode cX12_makes 203 = .ok (.imul, 1) := by decide +kernel
theorem dX12_makes_204 : decode cX12_makes 204 = .ok (.iconst 4, 1) := by decide +kernel
theorem dX12_makes_205 : decode cX12_makes 205 = .ok (.iadd, 1) := by decide +kernel
theorem dX12_makes_206 : decode cX12_makes 206 = .ok (.iload_n 3, 1) := by decide +kernel
theorem dX12_makes_207 : decode cX12_makes 207 = .ok (.iastore, 1) := by decide +kernel
theorem dX12_makes_208 : decode cX12_makes 208 = .ok (.aload_n 0, 1) := by decide +kernel
theorem dX12_makes_209 : decode cX12_makes 209 = .ok (.getfield 17, 3) := by decide +kernel
theorem dX12_makes_212 : decode cX12_makes 212 = .ok (.bipush 6, 2) := by decide +kernel
theorem dX12_makes_214 : decode cX12_makes 214 = .ok (.iload 7, 2) := by decide +kernel
theorem dX12_makes_216 : decode cX12_makes 216 = .ok (.imul, 1) := by decide +kernel
theorem dX12_makes_217 : decode cX12_makes 217 = .ok (.iconst 5, 1) := by decide +kernel
theorem dX12_makes_218 : decode cX12_makes 218 = .ok (.iadd, 1) := by decide +kernel
theorem dX12_makes_219 : decode cX12_makes 219 = .ok (.aload_n 0, 1) := by decide +kernel
theorem dX12_makes_220 : decode cX12_makes 220 = .ok (.getfield 23, 3) := by decide +kernel
theorem dX12_makes_223 : decode cX12_makes 223 = .ok (.iconst 3, 1) := by decide +kernel
theorem dX12_makes_224 : decode cX12_makes 224 = .ok (.iload_n 1, 1) := by decide +kernel
theorem dX12_makes_225 : decode cX12_makes 225 = .ok (.imul, 1) := by decide +kernel
theorem dX12_makes_226 : decode cX12_makes 226 = .ok (.iconst 2, 1) := by decide +kernel
theorem dX12_makes_227 : decode cX12_makes 227 = .ok (.iadd, 1) := by decide +kernel
theorem dX12_makes_228 : decode cX12_makes 228 = .ok (.iaload, 1) := by decide +kernel
theorem dX12_makes_229 : decode cX12_makes 229 = .ok (.iastore, 1) := by decide +kernel
theorem dX12_makes_230 : decode cX12_makes 230 = .ok (.aload_n 0, 1) := by decide +kernel
theorem dX12_makes_231 : decode cX12_makes 231 = .ok (.iload 7, 2) := by decide +kernel
theorem dX12_makes_233 : decode cX12_makes 233 = .ok (.invokevirtual 121, 3) := by decide +kernel
theorem dX12_makes_236 : decode cX12_makes 236 = .ok (.aload_n 0, 1) := by decide +kernel
theorem dX12_makes_237 : decode cX12_makes 237 = .ok (.iconst 1, 1) := by decide +kernel
theorem dX12_makes_238 : decode cX12_makes 238 = .ok (.invokevirtual 130, 3) := by decide +kernel
theorem dX12_makes_241 : decode cX12_makes 241 = .ok (.iload 4, 2) := by decide +kernel
theorem dX12_makes_243 : decode cX12_makes 243 = .ok (.iand, 1) := by decide +kernel
theorem dX12_makes_244 : decode cX12_makes 244 = .ok (.ifCond .eq 7, 3) := by decide +kernel
theorem dX12_makes_247 : decode cX12_makes 247 = .ok (.iconst 1, 1) := by decide +kernel
theorem dX12_makes_248 : decode cX12_makes 248 = .ok (.goto 4, 3) := by decide +kernel
theorem dX12_makes_251 : decode cX12_makes 251 = .ok (.iconst 0, 1) := by decide +kernel
theorem dX12_makes_252 : decode cX12_makes 252 = .ok (.istore 8, 2) := by decide +kernel
theorem dX12_makes_254 : decode cX12_makes 254 = .ok (.aload_n 0, 1) := by decide +kernel
theorem dX12_makes_255 : decode cX12_makes 255 = .ok (.iconst 2, 1) := by decide +kernel
theorem dX12_makes_256 : decode cX12_makes 256 = .ok (.invokevirtual 130, 3) := by decide +kernel
theorem dX12_makes_259 : decode cX12_makes 259 = .ok (.iload 4, 2) := by decide +kernel
theorem dX12_makes_261 : decode cX12_makes 261 = .ok (.iand, 1) := by decide +kernel
theorem dX12_makes_262 : decode cX12_makes 262 = .ok (.ifCond .eq 7, 3) := by decide +kernel
theorem dX12_makes_265 : decode cX12_makes 265 = .ok (.iconst 1, 1) := by decide +kernel
theorem dX12_makes_266 : decode cX12_makes 266 = .ok (.goto 4, 3) := by decide +kernel
theorem dX12_makes_269 : decode cX12_makes 269 = .ok (.iconst 0, 1) := by decide +kernel
theorem dX12_makes_270 : decode cX12_makes 270 = .ok (.istore 9, 2) := by decide +kernel
theorem dX12_makes_272 : decode cX12_makes 272 = .ok (.iconst 0, 1) := by decide +kernel
theorem dX12_makes_273 : decode cX12_makes 273 = .ok (.istore 10, 2) := by decide +kernel
theorem dX12_makes_275 : decode cX12_makes 275 = .ok (.iload 10, 2) := by decide +kernel
theorem dX12_makes_277 : decode cX12_makes 277 = .ok (.iconst 3, 1) := by decide +kernel
theorem dX12_makes_278 : decode cX12_makes 278 = .ok (.if_icmp .ge 212, 3) := by decide +kernel
theorem dX12_makes_281 : decode cX12_makes 281 = .ok (.iconst 0, 1) := by decide +kernel
theorem dX12_makes_282 : decode cX12_makes 282 = .ok (.istore 11, 2) := by decide +kernel
theorem dX12_makes_284 : decode cX12_makes 284 = .ok (.iload 11, 2) := by decide +kernel
theorem dX12_makes_286 : decode cX12_makes 286 = .ok (.iconst 4, 1) := by decide +kernel
theorem dX12_makes_287 : decode cX12_makes 287 = .ok (.if_icmp .ge 197, 3) := by decide +kernel
theorem dX12_makes_290 : decode cX12_makes 290 = .ok (.aload_n 0, 1) := by decide +kernel
theorem dX12_makes_291 : decode cX12_makes 291 = .ok (.getfield 30, 3) := by decide +kernel
theorem dX12_makes_294 : decode cX12_makes 294 = .ok (.sipush 160, 3) := by decide +kernel
theorem dX12_makes_297 : decode cX12_makes 297 = .ok (.iload 10, 2) := by decide +kernel
theorem dX12_makes_299 : decode cX12_makes 299 = .ok (.imul, 1) := by decide +kernel
theorem dX12_makes_300 : decode cX12_makes 300 = .ok (.iconst 4, 1) := by decide +kernel
theorem dX12_makes_301 : decode cX12_makes 301 = .ok (.iload_n 2, 1) := by decide +kernel
theorem dX12_makes_302 : decode cX12_makes 302 = .ok (.imul, 1) := by decide +kernel
theorem dX12_makes_303 : decode cX12_makes 303 = .ok (.iadd, 1) := by decide +kernel
theorem dX12_makes_304 : decode cX12_makes 304 = .ok (.iload 11, 2) := by decide +kernel
theorem dX12_makes_306 : decode cX12_makes 306 = .ok (.iadd, 1) := by decide +kernel
theorem dX12_makes_307 : decode cX12_makes 307 = .ok (.laload, 1) := by decide +kernel
theorem dX12_makes_308 : decode cX12_makes 308 = .ok (.lstore 12, 2) := by decide +kernel
theorem dX12_makes_310 : decode cX12_makes 310 = .ok (.aload_n 0, 1) := by decide +kernel
theorem dX12_makes_311 : decode cX12_makes 311 = .ok (.getfield 30, 3) := by decide +kernel
theorem dX12_makes_314 : decode cX12_makes 314 = .ok (.sipush 160, 3) := by decide +kernel
theorem dX12_makes_317 : decode cX12_makes 317 = .ok (.iload 10, 2) := by decide +kernel
theorem dX12_makes_319 : decode cX12_makes 319 = .ok (.imul, 1) := by decide +kernel
theorem dX12_makes_320 : decode cX12_makes 320 = .ok (.iconst 4, 1) := by decide +kernel
theorem dX12_makes_321 : decode cX12_makes 321 = .ok (.iload_n 3, 1) := by decide +kernel
theorem dX12_makes_322 : decode cX12_makes 322 = .ok (.imul, 1) := by decide +kernel
theorem dX12_makes_323 : decode cX12_makes 323 = .ok (.iadd, 1) := by decide +kernel
theorem dX12_makes_324 : decode cX12_makes 324 = .ok (.iload 11, 2) := by decide +kernel
theorem dX12_makes_326 : decode cX12_makes 326 = .ok (.iadd, 1) := by decide +kernel
theorem dX12_makes_327 : decode cX12_makes 327 = .ok (.laload, 1) := by decide +kernel
theorem dX12_makes_328 : decode cX12_makes 328 = .ok (.lstore 14, 2) := by decide +kernel
theorem dX12_makes_330 : decode cX12_makes 330 = .ok (.iload 10, 2) := by decide +kernel
theorem dX12_makes_332 : decode cX12_makes 332 = .ok (.iconst 1, 1) := by decide +kernel
theorem dX12_makes_333 : decode cX12_makes 333 = .ok (.if_icmp .ne 8, 3) := by decide +kernel
theorem dX12_makes_336 : decode cX12_makes 336 = .ok (.iload 8, 2) := by decide +kernel
theorem dX12_makes_338 : decode cX12_makes 338 = .ok (.goto 18, 3) := by decide +kernel
theorem dX12_makes_341 : decode cX12_makes 341 = .ok (.iload 8, 2) := by decide +kernel
theorem dX12_makes_343 : decode cX12_makes 343 = .ok (.ifCond .eq 12, 3) := by decide +kernel
theorem dX12_makes_346 : decode cX12_makes 346 = .ok (.iload 9, 2) := by decide +kernel
theorem dX12_makes_348 : decode cX12_makes 348 = .ok (.ifCond .ne 7, 3) := by decide +kernel
theorem dX12_makes_351 : decode cX12_makes 351 = .ok (.iconst 1, 1) := by decide +kernel
theorem dX12_makes_352 : decode cX12_makes 352 = .ok (.goto 4, 3) := by decide +kernel
theorem dX12_makes_355 : decode cX12_makes 355 = .ok (.iconst 0, 1) := by decide +kernel
theorem dX12_makes_356 : decode cX12_makes 356 = .ok (.istore 16, 2) := by decide +kernel
theorem dX12_makes_358 : decode cX12_makes 358 = .ok (.iload 16, 2) := by decide +kernel
theorem dX12_makes_360 : decode cX12_makes 360 = .ok (.ifCond .eq 11, 3) := by decide +kernel
theorem dX12_makes_363 : decode cX12_makes 363 = .ok (.lload 12, 2) := by decide +kernel
theorem dX12_makes_365 : decode cX12_makes 365 = .ok (.lload 14, 2) := by decide +kernel
theorem dX12_makes_367 : decode cX12_makes 367 = .ok (.lor, 1) := by decide +kernel
theorem dX12_makes_368 : decode cX12_makes 368 = .ok (.goto 8, 3) := by decide +kernel
theorem dX12_makes_371 : decode cX12_makes 371 = .ok (.lload 12, 2) := by decide +kernel
theorem dX12_makes_373 : decode cX12_makes 373 = .ok (.lload 14, 2) := by decide +kernel
theorem dX12_makes_375 : decode cX12_makes 375 = .ok (.land, 1) := by decide +kernel
theorem dX12_makes_376 : decode cX12_makes 376 = .ok (.lstore 17, 2) := by decide +kernel
theorem dX12_makes_378 : decode cX12_makes 378 = .ok (.iload 10, 2) := by decide +kernel
theorem dX12_makes_380 : decode cX12_makes 380 = .ok (.iconst 2, 1) := by decide +kernel
theorem dX12_makes_381 : decode cX12_makes 381 = .ok (.if_icmp .ne 76, 3) := by decide +kernel
theorem dX12_makes_384 : decode cX12_makes 384 = .ok (.iload 8, 2) := by decide +kernel
theorem dX12_makes_386 : decode cX12_makes 386 = .ok (.ifCond .eq 71, 3) := by decide +kernel
theorem dX12_makes_389 : decode cX12_makes 389 = .ok (.iload 9, 2) := by decide +kernel
theorem dX12_makes_391 : decode cX12_makes 391 = .ok (.ifCond .eq 66, 3) := by decide +kernel
theorem dX12_makes_394 : decode cX12_makes 394 = .ok (.lconst 0, 1) := by decide +kernel
theorem dX12_makes_395 : decode cX12_makes 395 = .ok (.lstore 19, 2) := by decide +kernel
theorem dX12_makes_397 : decode cX12_makes 397 = .ok (.iconst 0, 1) := by decide +kernel
theorem dX12_makes_398 : decode cX12_makes 398 = .ok (.istore 21, 2) := by decide +kernel
theorem dX12_makes_400 : decode cX12_makes 400 = .ok (.iload 21, 2) := by decide +kernel
theorem dX12_makes_402 : decode cX12_makes 402 = .ok (.bipush 64, 2) := by decide +kernel
theorem dX12_makes_404 : decode cX12_makes 404 = .ok (.if_icmp .ge 36, 3) := by decide +kernel
theorem dX12_makes_407 : decode cX12_makes 407 = .ok (.lload 19, 2) := by decide +kernel
theorem dX12_makes_409 : decode cX12_makes 409 = .ok (.bipush 64, 2) := by decide +kernel
theorem dX12_makes_411 : decode cX12_makes 411 = .ok (.iload 11, 2) := by decide +kernel
theorem dX12_makes_413 : decode cX12_makes 413 = .ok (.imul, 1) := by decide +kernel
theorem dX12_makes_414 : decode cX12_makes 414 = .ok (.iload 21, 2) := by decide +kernel
theorem dX12_makes_416 : decode cX12_makes 416 = .ok (.iadd, 1) := by decide +kernel
theorem dX12_makes_417 : decode cX12_makes 417 = .ok (.iload 4, 2) := by decide +kernel
theorem dX12_makes_419 : decode cX12_makes 419 = .ok (.iand, 1) := by decide +kernel
theorem dX12_makes_420 : decode cX12_makes 420 = .ok (.ifCond .eq 10, 3) := by decide +kernel
theorem dX12_makes_423 : decode cX12_makes 423 = .ok (.lconst 1, 1) := by decide +kernel
theorem dX12_makes_424 : decode cX12_makes 424 = .ok (.iload 21, 2) := by decide +kernel
theorem dX12_makes_426 : decode cX12_makes 426 = .ok (.lshl, 1) := by decide +kernel
theorem dX12_makes_427 : decode cX12_makes 427 = .ok (.goto 4, 3) := by decide +kernel
theorem dX12_makes_430 : decode cX12_makes 430 = .ok (.lconst 0, 1) := by decide +kernel
theorem dX12_makes_431 : decode cX12_makes 431 = .ok (.lor, 1) := by decide +kernel
theorem dX12_makes_432 : decode cX12_makes 432 = .ok (.lstore 19, 2) := by decide +kernel
theorem dX12_makes_434 : decode cX12_makes 434 = .ok (.iinc 21 1, 3) := by decide +kernel
theorem dX12_makes_437 : decode cX12_makes 437 = .ok (.goto (-37), 3) := by decide +kernel
theorem dX12_makes_440 : decode cX12_makes 440 = .ok (.lload 19, 2) := by decide +kernel
theorem dX12_makes_442 : decode cX12_makes 442 = .ok (.lload 14, 2) := by decide +kernel
theorem dX12_makes_444 : decode cX12_makes 444 = .ok (.land, 1) := by decide +kernel
theorem dX12_makes_445 : decode cX12_makes 445 = .ok (.lload 19, 2) := by decide +kernel
theorem dX12_makes_447 : decode cX12_makes 447 = .ok (.ldc2_w 137, 3) := by decide +kernel
theorem dX12_makes_450 : decode cX12_makes 450 = .ok (.lxor, 1) := by decide +kernel
theorem dX12_makes_451 : decode cX12_makes 451 = .ok (.lload 12, 2) := by decide +kernel
theorem dX12_makes_453 : decode cX12_makes 453 = .ok (.land, 1) := by decide +kernel
theorem dX12_makes_454 : decode cX12_makes 454 = .ok (.lor, 1) := by decide +kernel
theorem dX12_makes_455 : decode cX12_makes 455 = .ok (.lstore 17, 2) := by decide +kernel
theorem dX12_makes_457 : decode cX12_makes 457 = .ok (.aload_n 0, 1) := by decide +kernel
theorem dX12_makes_458 : decode cX12_makes 458 = .ok (.getfield 30, 3) := by decide +kernel
theorem dX12_makes_461 : decode cX12_makes 461 = .ok (.sipush 160, 3) := by decide +kernel
theorem dX12_makes_464 : decode cX12_makes 464 = .ok (.iload 10, 2) := by decide +kernel
theorem dX12_makes_466 : decode cX12_makes 466 = .ok (.imul, 1) := by decide +kernel
theorem dX12_makes_467 : decode cX12_makes 467 = .ok (.iconst 4, 1) := by decide +kernel
theorem dX12_makes_468 : decode cX12_makes 468 = .ok (.iload 7, 2) := by decide +kernel
theorem dX12_makes_470 : decode cX12_makes 470 = .ok (.imul, 1) := by decide +kernel
theorem dX12_makes_471 : decode cX12_makes 471 = .ok (.iadd, 1) := by decide +kernel
theorem dX12_makes_472 : decode cX12_makes 472 = .ok (.iload 11, 2) := by decide +kernel
theorem dX12_makes_474 : decode cX12_makes 474 = .ok (.iadd, 1) := by decide +kernel
theorem dX12_makes_475 : decode cX12_makes 475 = .ok (.lload 17, 2) := by decide +kernel
theorem dX12_makes_477 : decode cX12_makes 477 = .ok (.lastore, 1) := by decide +kernel
theorem dX12_makes_478 : decode cX12_makes 478 = .ok (.iinc 11 1, 3) := by decide +kernel
theorem dX12_makes_481 : decode cX12_makes 481 = .ok (.goto (-197), 3) := by decide +kernel
theorem dX12_makes_484 : decode cX12_makes 484 = .ok (.iinc 10 1, 3) := by decide +kernel
theorem dX12_makes_487 : decode cX12_makes 487 = .ok (.goto (-212), 3) := by decide +kernel
theorem dX12_makes_490 : decode cX12_makes 490 = .ok (.aload_n 0, 1) := by decide +kernel
theorem dX12_makes_491 : decode cX12_makes 491 = .ok (.dup, 1) := by decide +kernel
theorem dX12_makes_492 : decode cX12_makes 492 = .ok (.getfield 115, 3) := by decide +kernel
theorem dX12_makes_495 : decode cX12_makes 495 = .ok (.iconst 1, 1) := by decide +kernel
theorem dX12_makes_496 : decode cX12_makes 496 = .ok (.iadd, 1) := by decide +kernel
theorem dX12_makes_497 : decode cX12_makes 497 = .ok (.putfield 115, 3) := by decide +kernel
theorem dX12_makes_500 : decode cX12_makes 500 = .ok (.iconst 1, 1) := by decide +kernel
theorem dX12_makes_501 : decode cX12_makes 501 = .ok (.ireturn, 1) := by decide +kernel
set_option maxRecDepth 20000 in
set_option maxHeartbeats 1000000 in
theorem lp_X12_makes_400 {xs : Nat → Int32} {L d : Nat} {Q : ev_Q} {th : Int32} {tr : Int64} {ty nx tk pl va fa ss wg : Int32} {c m : Nat} {s i j : Nat} {xf4 : Int32} {xf5 : Int32} {xf6 : Int32} {xf8 : Int32} {xf9 : Int32} {k : Nat} {ka : Nat} {xf12 : Int64} {xf14 : Int64} {xf16 : Int32} {xf17 : Int64} {h0 : ev_H} (h5 : h0 420 = c420 th tr ty nx tk pl va fa (nI c) (nI m) ss wg) (hc : c ≤ 16) (hm : m ≤ 24) (hs : s < 24) (hms : m ≤ s) (hi : i < c + s) (hj : j < c + s) (hb_k : k < 3) (hb_ka : ka < 4) : ∀ (n kb : Nat), kb + n = 64 → ∀ (h : ev_H) (hS : SH h) (hF : KM [422, 425, 426] h0 h) (y19 : Int64) (hK : ∀ (h : ev_H) (hS : SH h) (hF : KM [422, 425, 426] h0 h) (kx : Int32) (y19 : Int64), EV xs L (d + 2) 0 0 M_X12_makes 434 h 440 [some (.ref 420), some (.int (nI s)), some (.int (nI i)), some (.int (nI j)), some (.int xf4), some (.int xf5), some (.int xf6), some (.int (nI (c + m))), some (.int xf8), some (.int xf9), some (.int (nI k)), some (.int (nI ka)), some (.long xf12), none, some (.long xf14), none, some (.int xf16), some (.long xf17), none, some (.long y19), none, some (.int kx)] [] Q), EV xs L (d + 2) 0 0 M_X12_makes 434 h 400 [some (.ref 420), some (.int (nI s)), some (.int (nI i)), some (.int (nI j)), some (.int xf4), some (.int xf5), some (.int xf6), some (.int (nI (c + m))), some (.int xf8), some (.int xf9), some (.int (nI k)), some (.int (nI ka)), some (.long xf12), none, some (.long xf14), none, some (.int xf16), some (.long xf17), none, some (.long y19), none, some (.int (nI kb))] [] Q := by
  intro n
  induction n with
  | zero =>
    intro kb hk h hS hF y19 hK
    refine r_iload rfl dX12_makes_400 rfl ?_
    refine r_bipush (v := 64) rfl dX12_makes_402 (by decide) ?_
    refine r_icmp_ge (tgt := 440) rfl rfl dX12_makes_404 (fun _ => ?_) (fun zc => absurd (show 64 ≤ nI kb from nI_le (a := 64) (b := kb) (by omega) (by omega)) zc)
    exact hK h hS hF (nI kb) y19
  | succ n ih =>
    intro kb hk h hS hF y19 hK
    refine r_iload rfl dX12_makes_400 rfl ?_
    refine r_bipush (v := 64) rfl dX12_makes_402 (by decide) ?_
    refine r_icmp_ge (tgt := 440) rfl rfl dX12_makes_404 (fun zc => absurd zc (show ¬ 64 ≤ nI kb from nI_ge (a := kb) (b := 64) (by omega) (by omega))) (fun _ => ?_)
    refine r_lload rfl dX12_makes_407 rfl ?_
    refine r_bipush (v := 64) rfl dX12_makes_409 (by decide) ?_
    refine r_iload rfl dX12_makes_411 rfl ?_
    refine r_imul rfl dX12_makes_413 ?_
    refine r_eqi (y := nI (64 * ka)) (show 64 * (nI ka) = nI (64 * ka) from pk_mul 64 ka) ?_
    refine r_iload rfl dX12_makes_414 rfl ?_
    refine r_iadd rfl dX12_makes_416 ?_
    refine r_eqi (y := nI ((64 * ka) + kb)) (show (nI (64 * ka)) + (nI kb) = nI ((64 * ka) + kb) from nI_add (64 * ka) kb) ?_
    refine r_iload rfl dX12_makes_417 rfl ?_
    refine r_iand rfl dX12_makes_419 ?_
    have J468 : ∀ v469 : Int64, EV xs L (d + 2) 0 0 M_X12_makes 434 h 431 [some (.ref 420), some (.int (nI s)), some (.int (nI i)), some (.int (nI j)), some (.int xf4), some (.int xf5), some (.int xf6), some (.int (nI (c + m))), some (.int xf8), some (.int xf9), some (.int (nI k)), some (.int (nI ka)), some (.long xf12), none, some (.long xf14), none, some (.int xf16), some (.long xf17), none, some (.long y19), none, some (.int (nI kb))] (.long v469 :: .long y19 :: []) Q := by
      intro v469
      refine r_lor rfl dX12_makes_431 ?_
      refine r_topl (fun x470 e471 => ?_)
      refine r_lstore (ls' := [some (.ref 420), some (.int (nI s)), some (.int (nI i)), some (.int (nI j)), some (.int xf4), some (.int xf5), some (.int xf6), some (.int (nI (c + m))), some (.int xf8), some (.int xf9), some (.int (nI k)), some (.int (nI ka)), some (.long xf12), none, some (.long xf14), none, some (.int xf16), some (.long xf17), none, some (.long x470), none, some (.int (nI kb))]) rfl dX12_makes_432 (Nat.le_of_ble_eq_true rfl) rfl ?_
      refine r_iinc (y := nI (kb + 1)) (ls' := [some (.ref 420), some (.int (nI s)), some (.int (nI i)), some (.int (nI j)), some (.int xf4), some (.int xf5), some (.int xf6), some (.int (nI (c + m))), some (.int xf8), some (.int xf9), some (.int (nI k)), some (.int (nI ka)), some (.long xf12), none, some (.long xf14), none, some (.int xf16), some (.long xf17), none, some (.long x470), none, some (.int (nI (kb + 1)))]) rfl dX12_makes_434 rfl (nI_1 kb) (Nat.le_of_ble_eq_true rfl) rfl ?_
      refine r_goto (pc' := 400) rfl dX12_makes_437 ?_
      exact ih (kb + 1) (by omega) h hS hF x470 hK
    refine r_if_eq (tgt := 430) rfl rfl dX12_makes_420 (fun c472 => ?_) (fun c472 => ?_)
    · refine r_lconst (v := 0) rfl dX12_makes_430 (by decide) ?_
      exact J468 _
    · refine r_lconst (v := 1) rfl dX12_makes_423 (by decide) ?_
      refine r_iload rfl dX12_makes_424 rfl ?_
      refine r_lshl rfl dX12_makes_426 ?_
      refine r_goto (pc' := 431) rfl dX12_makes_427 ?_
      exact J468 _
set_option maxRecDepth 20000 in
set_option maxHeartbeats 1000000 in
theorem lp_X12_makes_284 {xs : Nat → Int32} {L d : Nat} {Q : ev_Q} {th : Int32} {tr : Int64} {ty nx tk pl va fa ss wg : Int32} {c m : Nat} {s i j : Nat} {xf4 : Int32} {xf5 : Int32} {xf6 : Int32} {xf8 : Int32} {xf9 : Int32} {k : Nat} {h0 : ev_H} (h5 : h0 420 = c420 th tr ty nx tk pl va fa (nI c) (nI m) ss wg) (hc : c ≤ 16) (hm : m ≤ 24) (hs : s < 24) (hms : m ≤ s) (hi : i < c + s) (hj : j < c + s) (hb_k : k < 3) : ∀ (n ka : Nat), ka + n = 4 → ∀ (h : ev_H) (hS : SH h) (hF : KM [422, 425, 426] h0 h) (u12 : Option Value) (u12b : Option Value) (u14 : Option Value) (u14b : Option Value) (u16 : Option Value) (u17 : Option Value) (u17b : Option Value) (u19 : Option Value) (u19b : Option Value) (u21 : Option Value) (hK : ∀ (h : ev_H) (hS : SH h) (hF : KM [422, 425, 426] h0 h) (kx : Int32) (u12 : Option Value) (u12b : Option Value) (u14 : Option Value) (u14b : Option Value) (u16 : Option Value) (u17 : Option Value) (u17b : Option Value) (u19 : Option Value) (u19b : Option Value) (u21 : Option Value), EV xs L (d + 2) 0 0 M_X12_makes 434 h 484 [some (.ref 420), some (.int (nI s)), some (.int (nI i)), some (.int (nI j)), some (.int xf4), some (.int xf5), some (.int xf6), some (.int (nI (c + m))), some (.int xf8), some (.int xf9), some (.int (nI k)), some (.int kx), u12, u12b, u14, u14b, u16, u17, u17b, u19, u19b, u21] [] Q), EV xs L (d + 2) 0 0 M_X12_makes 434 h 284 [some (.ref 420), some (.int (nI s)), some (.int (nI i)), some (.int (nI j)), some (.int xf4), some (.int xf5), some (.int xf6), some (.int (nI (c + m))), some (.int xf8), some (.int xf9), some (.int (nI k)), some (.int (nI ka)), u12, u12b, u14, u14b, u16, u17, u17b, u19, u19b, u21] [] Q := by
  intro n
  induction n with
  | zero =>
    intro ka hk h hS hF u12 u12b u14 u14b u16 u17 u17b u19 u19b u21 hK
    refine r_iload rfl dX12_makes_284 rfl ?_
    refine r_iconst (v := 4) rfl dX12_makes_286 (by decide) ?_
    refine r_icmp_ge (tgt := 484) rfl rfl dX12_makes_287 (fun _ => ?_) (fun zc => absurd (show 4 ≤ nI ka from nI_le (a := 4) (b := ka) (by omega) (by omega)) zc)
    exact hK h hS hF (nI ka) u12 u12b u14 u14b u16 u17 u17b u19 u19b u21
  | succ n ih =>
    intro ka hk h hS hF u12 u12b u14 u14b u16 u17 u17b u19 u19b u21 hK
    refine r_iload rfl dX12_makes_284 rfl ?_
    refine r_iconst (v := 4) rfl dX12_makes_286 (by decide) ?_
    refine r_icmp_ge (tgt := 484) rfl rfl dX12_makes_287 (fun zc => absurd zc (show ¬ 4 ≤ nI ka from nI_ge (a := ka) (b := 4) (by omega) (by omega))) (fun _ => ?_)
    refine r_aload_n rfl dX12_makes_290 rfl ?_
    refine r_getv 17 rfl dX12_makes_291 (show 2 ≤ 420 ∧ 420 < 434 by decide) ((hF 420 (by decide)).trans h5) fl_X12_30 rfl ?_
    refine r_sipush (v := 160) rfl dX12_makes_294 (by decide) ?_
    refine r_iload rfl dX12_makes_297 rfl ?_
    refine r_imul rfl dX12_makes_299 ?_
    refine r_eqi (y := nI (160 * k)) (show 160 * (nI k) = nI (160 * k) from pk_mul 160 k) ?_
    refine r_iconst (v := 4) rfl dX12_makes_300 (by decide) ?_
    refine r_iload_n rfl dX12_makes_301 rfl ?_
    refine r_imul rfl dX12_makes_302 ?_
    refine r_eqi (y := nI (4 * i)) (show 4 * (nI i) = nI (4 * i) from pk_mul 4 i) ?_
    refine r_iadd rfl dX12_makes_303 ?_
    refine r_eqi (y := nI ((160 * k) + (4 * i))) (show (nI (160 * k)) + (nI (4 * i)) = nI ((160 * k) + (4 * i)) from nI_add (160 * k) (4 * i)) ?_
    refine r_iload rfl dX12_makes_304 rfl ?_
    refine r_iadd rfl dX12_makes_306 ?_
    refine r_eqi (y := nI (((160 * k) + (4 * i)) + ka)) (show (nI ((160 * k) + (4 * i))) + (nI ka) = nI (((160 * k) + (4 * i)) + ka) from nI_add ((160 * k) + (4 * i)) ka) ?_
    obtain ⟨g333, f334⟩ := hS.la LA_426
    refine r_laldv (jn := ((160 * k) + (4 * i)) + ka) (v := g333 (((160 * k) + (4 * i)) + ka)) rfl dX12_makes_307 (show 2 ≤ 426 ∧ 426 < 434 by decide) f334 (vp_in_nI (n := ((160 * k) + (4 * i)) + ka) (by omega) (by omega)) (nI_clamp (n := ((160 * k) + (4 * i)) + ka) (by omega)) rfl ?_
    refine r_topl (fun x335 e336 => ?_)
    refine r_lstore (ls' := [some (.ref 420), some (.int (nI s)), some (.int (nI i)), some (.int (nI j)), some (.int xf4), some (.int xf5), some (.int xf6), some (.int (nI (c + m))), some (.int xf8), some (.int xf9), some (.int (nI k)), some (.int (nI ka)), some (.long x335), none, u14, u14b, u16, u17, u17b, u19, u19b, u21]) rfl dX12_makes_308 (Nat.le_of_ble_eq_true rfl) rfl ?_
    refine r_aload_n rfl dX12_makes_310 rfl ?_
    refine r_getv 17 rfl dX12_makes_311 (show 2 ≤ 420 ∧ 420 < 434 by decide) ((hF 420 (by decide)).trans h5) fl_X12_30 rfl ?_
    refine r_sipush (v := 160) rfl dX12_makes_314 (by decide) ?_
    refine r_iload rfl dX12_makes_317 rfl ?_
    refine r_imul rfl dX12_makes_319 ?_
    refine r_eqi (y := nI (160 * k)) (show 160 * (nI k) = nI (160 * k) from pk_mul 160 k) ?_
    refine r_iconst (v := 4) rfl dX12_makes_320 (by decide) ?_
    refine r_iload_n rfl dX12_makes_321 rfl ?_
    refine r_imul rfl dX12_makes_322 ?_
    refine r_eqi (y := nI (4 * j)) (show 4 * (nI j) = nI (4 * j) from pk_mul 4 j) ?_
    refine r_iadd rfl dX12_makes_323 ?_
    refine r_eqi (y := nI ((160 * k) + (4 * j))) (show (nI (160 * k)) + (nI (4 * j)) = nI ((160 * k) + (4 * j)) from nI_add (160 * k) (4 * j)) ?_
    refine r_iload rfl dX12_makes_324 rfl ?_
    refine r_iadd rfl dX12_makes_326 ?_
    refine r_eqi (y := nI (((160 * k) + (4 * j)) + ka)) (show (nI ((160 * k) + (4 * j))) + (nI ka) = nI (((160 * k) + (4 * j)) + ka) from nI_add ((160 * k) + (4 * j)) ka) ?_
    obtain ⟨g337, f338⟩ := hS.la LA_426
    refine r_laldv (jn := ((160 * k) + (4 * j)) + ka) (v := g337 (((160 * k) + (4 * j)) + ka)) rfl dX12_makes_327 (show 2 ≤ 426 ∧ 426 < 434 by decide) f338 (vp_in_nI (n := ((160 * k) + (4 * j)) + ka) (by omega) (by omega)) (nI_clamp (n := ((160 * k) + (4 * j)) + ka) (by omega)) rfl ?_
    refine r_topl (fun x339 e340 => ?_)
    refine r_lstore (ls' := [some (.ref 420), some (.int (nI s)), some (.int (nI i)), some (.int (nI j)), some (.int xf4), some (.int xf5), some (.int xf6), some (.int (nI (c + m))), some (.int xf8), some (.int xf9), some (.int (nI k)), some (.int (nI ka)), some (.long x335), none, some (.long x339), none, u16, u17, u17b, u19, u19b, u21]) rfl dX12_makes_328 (Nat.le_of_ble_eq_true rfl) rfl ?_
    refine r_iload rfl dX12_makes_330 rfl ?_
    refine r_iconst (v := 1) rfl dX12_makes_332 (by decide) ?_
    have J341 : ∀ v342 : Int32, EV xs L (d + 2) 0 0 M_X12_makes 434 h 356 [some (.ref 420), some (.int (nI s)), some (.int (nI i)), some (.int (nI j)), some (.int xf4), some (.int xf5), some (.int xf6), some (.int (nI (c + m))), some (.int xf8), some (.int xf9), some (.int (nI k)), some (.int (nI ka)), some (.long x335), none, some (.long x339), none, u16, u17, u17b, u19, u19b, u21] (.int v342 :: []) Q := by
      intro v342
      refine r_istore (ls' := [some (.ref 420), some (.int (nI s)), some (.int (nI i)), some (.int (nI j)), some (.int xf4), some (.int xf5), some (.int xf6), some (.int (nI (c + m))), some (.int xf8), some (.int xf9), some (.int (nI k)), some (.int (nI ka)), some (.long x335), none, some (.long x339), none, some (.int v342), u17, u17b, u19, u19b, u21]) rfl dX12_makes_356 (Nat.le_of_ble_eq_true rfl) rfl ?_
      refine r_iload rfl dX12_makes_358 rfl ?_
      have J343 : ∀ v344 : Int64, EV xs L (d + 2) 0 0 M_X12_makes 434 h 376 [some (.ref 420), some (.int (nI s)), some (.int (nI i)), some (.int (nI j)), some (.int xf4), some (.int xf5), some (.int xf6), some (.int (nI (c + m))), some (.int xf8), some (.int xf9), some (.int (nI k)), some (.int (nI ka)), some (.long x335), none, some (.long x339), none, some (.int v342), u17, u17b, u19, u19b, u21] (.long v344 :: []) Q := by
        intro v344
        refine r_lstore (ls' := [some (.ref 420), some (.int (nI s)), some (.int (nI i)), some (.int (nI j)), some (.int xf4), some (.int xf5), some (.int xf6), some (.int (nI (c + m))), some (.int xf8), some (.int xf9), some (.int (nI k)), some (.int (nI ka)), some (.long x335), none, some (.long x339), none, some (.int v342), some (.long v344), none, u19, u19b, u21]) rfl dX12_makes_376 (Nat.le_of_ble_eq_true rfl) rfl ?_
        refine r_iload rfl dX12_makes_378 rfl ?_
        refine r_iconst (v := 2) rfl dX12_makes_380 (by decide) ?_
        refine r_icmp_ne (tgt := 457) rfl rfl dX12_makes_381 (fun c345 => ?_) (fun c345 => ?_)
        · have q346 : ¬ k = 2 := (not_congr (nI_eq (a := k) (b := 2)  (by omega) (by omega))).mp c345
          refine r_aload_n rfl dX12_makes_457 rfl ?_
          refine r_getv 17 rfl dX12_makes_458 (show 2 ≤ 420 ∧ 420 < 434 by decide) ((hF 420 (by decide)).trans h5) fl_X12_30 rfl ?_
          refine r_sipush (v := 160) rfl dX12_makes_461 (by decide) ?_
          refine r_iload rfl dX12_makes_464 rfl ?_
          refine r_imul rfl dX12_makes_466 ?_
          refine r_eqi (y := nI (160 * k)) (show 160 * (nI k) = nI (160 * k) from pk_mul 160 k) ?_
          refine r_iconst (v := 4) rfl dX12_makes_467 (by decide) ?_
          refine r_iload rfl dX12_makes_468 rfl ?_
          refine r_imul rfl dX12_makes_470 ?_
          refine r_eqi (y := nI (4 * (c + m))) (show 4 * (nI (c + m)) = nI (4 * (c + m)) from pk_mul 4 (c + m)) ?_
          refine r_iadd rfl dX12_makes_471 ?_
          refine r_eqi (y := nI ((160 * k) + (4 * (c + m)))) (show (nI (160 * k)) + (nI (4 * (c + m))) = nI ((160 * k) + (4 * (c + m))) from nI_add (160 * k) (4 * (c + m))) ?_
          refine r_iload rfl dX12_makes_472 rfl ?_
          refine r_iadd rfl dX12_makes_474 ?_
          refine r_eqi (y := nI (((160 * k) + (4 * (c + m))) + ka)) (show (nI ((160 * k) + (4 * (c + m)))) + (nI ka) = nI (((160 * k) + (4 * (c + m))) + ka) from nI_add ((160 * k) + (4 * (c + m))) ka) ?_
          refine r_lload rfl dX12_makes_475 rfl ?_
          obtain ⟨g347, f348⟩ := hS.la LA_426
          refine m_last rfl dX12_makes_477 (show 2 ≤ 426 ∧ 426 < 434 by decide) hS hF (by decide) f348 (vp_in_nI (n := ((160 * k) + (4 * (c + m))) + ka) (by omega) (by omega)) (fun h349 hS350 hF351 hN352 => ?_)
          refine r_iinc (y := nI (ka + 1)) (ls' := [some (.ref 420), some (.int (nI s)), some (.int (nI i)), some (.int (nI j)), some (.int xf4), some (.int xf5), some (.int xf6), some (.int (nI (c + m))), some (.int xf8), some (.int xf9), some (.int (nI k)), some (.int (nI (ka + 1))), some (.long x335), none, some (.long x339), none, some (.int v342), some (.long v344), none, u19, u19b, u21]) rfl dX12_makes_478 rfl (nI_1 ka) (Nat.le_of_ble_eq_true rfl) rfl ?_
          refine r_goto (pc' := 284) rfl dX12_makes_481 ?_
          exact ih (ka + 1) (by omega) h349 hS350 hF351 (some (.long x335)) none (some (.long x339)) none (some (.int v342)) (some (.long v344)) none u19 u19b u21 hK
        · have q353 : k = 2 := (nI_eq (a := k) (b := 2) (by omega) (by omega)).mp c345
          refine r_iload rfl dX12_makes_384 rfl ?_
          refine r_if_eq (tgt := 457) rfl rfl dX12_makes_386 (fun c354 => ?_) (fun c354 => ?_)
          · refine r_aload_n rfl dX12_makes_457 rfl ?_
            refine r_getv 17 rfl dX12_makes_458 (show 2 ≤ 420 ∧ 420 < 434 by decide) ((hF 420 (by decide)).trans h5) fl_X12_30 rfl ?_
            refine r_sipush (v := 160) rfl dX12_makes_461 (by decide) ?_
            refine r_iload rfl dX12_makes_464 rfl ?_
            refine r_imul rfl dX12_makes_466 ?_
            refine r_eqi (y := nI (160 * k)) (show 160 * (nI k) = nI (160 * k) from pk_mul 160 k) ?_
            refine r_iconst (v := 4) rfl dX12_makes_467 (by decide) ?_
            refine r_iload rfl dX12_makes_468 rfl ?_
            refine r_imul rfl dX12_makes_470 ?_
            refine r_eqi (y := nI (4 * (c + m))) (show 4 * (nI (c + m)) = nI (4 * (c + m)) from pk_mul 4 (c + m)) ?_
            refine r_iadd rfl dX12_makes_471 ?_
            refine r_eqi (y := nI ((160 * k) + (4 * (c + m)))) (show (nI (160 * k)) + (nI (4 * (c + m))) = nI ((160 * k) + (4 * (c + m))) from nI_add (160 * k) (4 * (c + m))) ?_
            refine r_iload rfl dX12_makes_472 rfl ?_
            refine r_iadd rfl dX12_makes_474 ?_
            refine r_eqi (y := nI (((160 * k) + (4 * (c + m))) + ka)) (show (nI ((160 * k) + (4 * (c + m)))) + (nI ka) = nI (((160 * k) + (4 * (c + m))) + ka) from nI_add ((160 * k) + (4 * (c + m))) ka) ?_
            refine r_lload rfl dX12_makes_475 rfl ?_
            obtain ⟨g355, f356⟩ := hS.la LA_426
            refine m_last rfl dX12_makes_477 (show 2 ≤ 426 ∧ 426 < 434 by decide) hS hF (by decide) f356 (vp_in_nI (n := ((160 * k) + (4 * (c + m))) + ka) (by omega) (by omega)) (fun h357 hS358 hF359 hN360 => ?_)
            refine r_iinc (y := nI (ka + 1)) (ls' := [some (.ref 420), some (.int (nI s)), some (.int (nI i)), some (.int (nI j)), some (.int xf4), some (.int xf5), some (.int xf6), some (.int (nI (c + m))), some (.int xf8), some (.int xf9), some (.int (nI k)), some (.int (nI (ka + 1))), some (.long x335), none, some (.long x339), none, some (.int v342), some (.long v344), none, u19, u19b, u21]) rfl dX12_makes_478 rfl (nI_1 ka) (Nat.le_of_ble_eq_true rfl) rfl ?_
            refine r_goto (pc' := 284) rfl dX12_makes_481 ?_
            exact ih (ka + 1) (by omega) h357 hS358 hF359 (some (.long x335)) none (some (.long x339)) none (some (.int v342)) (some (.long v344)) none u19 u19b u21 hK
          · refine r_iload rfl dX12_makes_389 rfl ?_
            refine r_if_eq (tgt := 457) rfl rfl dX12_makes_391 (fun c361 => ?_) (fun c361 => ?_)
            · refine r_aload_n rfl dX12_makes_457 rfl ?_
              refine r_getv 17 rfl dX12_makes_458 (show 2 ≤ 420 ∧ 420 < 434 by decide) ((hF 420 (by decide)).trans h5) fl_X12_30 rfl ?_
              refine r_sipush (v := 160) rfl dX12_makes_461 (by decide) ?_
              refine r_iload rfl dX12_makes_464 rfl ?_
              refine r_imul rfl dX12_makes_466 ?_
              refine r_eqi (y := nI (160 * k)) (show 160 * (nI k) = nI (160 * k) from pk_mul 160 k) ?_
              refine r_iconst (v := 4) rfl dX12_makes_467 (by decide) ?_
              refine r_iload rfl dX12_makes_468 rfl ?_
              refine r_imul rfl dX12_makes_470 ?_
              refine r_eqi (y := nI (4 * (c + m))) (show 4 * (nI (c + m)) = nI (4 * (c + m)) from pk_mul 4 (c + m)) ?_
              refine r_iadd rfl dX12_makes_471 ?_
              refine r_eqi (y := nI ((160 * k) + (4 * (c + m)))) (show (nI (160 * k)) + (nI (4 * (c + m))) = nI ((160 * k) + (4 * (c + m))) from nI_add (160 * k) (4 * (c + m))) ?_
              refine r_iload rfl dX12_makes_472 rfl ?_
              refine r_iadd rfl dX12_makes_474 ?_
              refine r_eqi (y := nI (((160 * k) + (4 * (c + m))) + ka)) (show (nI ((160 * k) + (4 * (c + m)))) + (nI ka) = nI (((160 * k) + (4 * (c + m))) + ka) from nI_add ((160 * k) + (4 * (c + m))) ka) ?_
              refine r_lload rfl dX12_makes_475 rfl ?_
              obtain ⟨g362, f363⟩ := hS.la LA_426
              refine m_last rfl dX12_makes_477 (show 2 ≤ 426 ∧ 426 < 434 by decide) hS hF (by decide) f363 (vp_in_nI (n := ((160 * k) + (4 * (c + m))) + ka) (by omega) (by omega)) (fun h364 hS365 hF366 hN367 => ?_)
              refine r_iinc (y := nI (ka + 1)) (ls' := [some (.ref 420), some (.int (nI s)), some (.int (nI i)), some (.int (nI j)), some (.int xf4), some (.int xf5), some (.int xf6), some (.int (nI (c + m))), some (.int xf8), some (.int xf9), some (.int (nI k)), some (.int (nI (ka + 1))), some (.long x335), none, some (.long x339), none, some (.int v342), some (.long v344), none, u19, u19b, u21]) rfl dX12_makes_478 rfl (nI_1 ka) (Nat.le_of_ble_eq_true rfl) rfl ?_
              refine r_goto (pc' := 284) rfl dX12_makes_481 ?_
              exact ih (ka + 1) (by omega) h364 hS365 hF366 (some (.long x335)) none (some (.long x339)) none (some (.int v342)) (some (.long v344)) none u19 u19b u21 hK
            · refine r_lconst (v := 0) rfl dX12_makes_394 (by decide) ?_
              refine r_lstore (ls' := [some (.ref 420), some (.int (nI s)), some (.int (nI i)), some (.int (nI j)), some (.int xf4), some (.int xf5), some (.int xf6), some (.int (nI (c + m))), some (.int xf8), some (.int xf9), some (.int (nI k)), some (.int (nI ka)), some (.long x335), none, some (.long x339), none, some (.int v342), some (.long v344), none, some (.long 0), none, u21]) rfl dX12_makes_395 (Nat.le_of_ble_eq_true rfl) rfl ?_
              refine r_iconst (v := 0) rfl dX12_makes_397 (by decide) ?_
              refine r_istore (ls' := [some (.ref 420), some (.int (nI s)), some (.int (nI i)), some (.int (nI j)), some (.int xf4), some (.int xf5), some (.int xf6), some (.int (nI (c + m))), some (.int xf8), some (.int xf9), some (.int (nI k)), some (.int (nI ka)), some (.long x335), none, some (.long x339), none, some (.int v342), some (.long v344), none, some (.long 0), none, some (.int 0)]) rfl dX12_makes_398 (Nat.le_of_ble_eq_true rfl) rfl ?_
              refine lp_X12_makes_400 ((hF 420 (by decide)).trans h5) hc hm hs hms hi hj hb_k (by omega) (64 - 0) 0 (by omega) h hS (KM_rf _) 0 ?_
              intro h370 hS371 hK372 kx368 w369
              have hF373 := KM_tr hF (KM_sb (by decide) hK372)
              refine r_lload rfl dX12_makes_440 rfl ?_
              refine r_lload rfl dX12_makes_442 rfl ?_
              refine r_land rfl dX12_makes_444 ?_
              refine r_lload rfl dX12_makes_445 rfl ?_
              refine r_ldc2 (v := (-1)) rfl dX12_makes_447 lc_X12_137 ?_
              refine r_lxor rfl dX12_makes_450 ?_
              refine r_lload rfl dX12_makes_451 rfl ?_
              refine r_land rfl dX12_makes_453 ?_
              refine r_lor rfl dX12_makes_454 ?_
              refine r_topl (fun x374 e375 => ?_)
              refine r_lstore (ls' := [some (.ref 420), some (.int (nI s)), some (.int (nI i)), some (.int (nI j)), some (.int xf4), some (.int xf5), some (.int xf6), some (.int (nI (c + m))), some (.int xf8), some (.int xf9), some (.int (nI k)), some (.int (nI ka)), some (.long x335), none, some (.long x339), none, some (.int v342), some (.long x374), none, some (.long w369), none, some (.int kx368)]) rfl dX12_makes_455 (Nat.le_of_ble_eq_true rfl) rfl ?_
              refine r_aload_n rfl dX12_makes_457 rfl ?_
              refine r_getv 17 rfl dX12_makes_458 (show 2 ≤ 420 ∧ 420 < 434 by decide) ((hF373 420 (by decide)).trans h5) fl_X12_30 rfl ?_
              refine r_sipush (v := 160) rfl dX12_makes_461 (by decide) ?_
              refine r_iload rfl dX12_makes_464 rfl ?_
              refine r_imul rfl dX12_makes_466 ?_
              refine r_eqi (y := nI (160 * k)) (show 160 * (nI k) = nI (160 * k) from pk_mul 160 k) ?_
              refine r_iconst (v := 4) rfl dX12_makes_467 (by decide) ?_
              refine r_iload rfl dX12_makes_468 rfl ?_
              refine r_imul rfl dX12_makes_470 ?_
              refine r_eqi (y := nI (4 * (c + m))) (show 4 * (nI (c + m)) = nI (4 * (c + m)) from pk_mul 4 (c + m)) ?_
              refine r_iadd rfl dX12_makes_471 ?_
              refine r_eqi (y := nI ((160 * k) + (4 * (c + m)))) (show (nI (160 * k)) + (nI (4 * (c + m))) = nI ((160 * k) + (4 * (c + m))) from nI_add (160 * k) (4 * (c + m))) ?_
              refine r_iload rfl dX12_makes_472 rfl ?_
              refine r_iadd rfl dX12_makes_474 ?_
              refine r_eqi (y := nI (((160 * k) + (4 * (c + m))) + ka)) (show (nI ((160 * k) + (4 * (c + m)))) + (nI ka) = nI (((160 * k) + (4 * (c + m))) + ka) from nI_add ((160 * k) + (4 * (c + m))) ka) ?_
              refine r_lload rfl dX12_makes_475 rfl ?_
              obtain ⟨g376, f377⟩ := hS371.la LA_426
              refine m_last rfl dX12_makes_477 (show 2 ≤ 426 ∧ 426 < 434 by decide) hS371 hF373 (by decide) f377 (vp_in_nI (n := ((160 * k) + (4 * (c + m))) + ka) (by omega) (by omega)) (fun h378 hS379 hF380 hN381 => ?_)
              refine r_iinc (y := nI (ka + 1)) (ls' := [some (.ref 420), some (.int (nI s)), some (.int (nI i)), some (.int (nI j)), some (.int xf4), some (.int xf5), some (.int xf6), some (.int (nI (c + m))), some (.int xf8), some (.int xf9), some (.int (nI k)), some (.int (nI (ka + 1))), some (.long x335), none, some (.long x339), none, some (.int v342), some (.long x374), none, some (.long w369), none, some (.int kx368)]) rfl dX12_makes_478 rfl (nI_1 ka) (Nat.le_of_ble_eq_true rfl) rfl ?_
              refine r_goto (pc' := 284) rfl dX12_makes_481 ?_
              exact ih (ka + 1) (by omega) h378 hS379 hF380 (some (.long x335)) none (some (.long x339)) none (some (.int v342)) (some (.long x374)) none (some (.long w369)) none (some (.int kx368)) hK
      refine r_if_eq (tgt := 371) rfl rfl dX12_makes_360 (fun c382 => ?_) (fun c382 => ?_)
      · refine r_lload rfl dX12_makes_371 rfl ?_
        refine r_lload rfl dX12_makes_373 rfl ?_
        refine r_land rfl dX12_makes_375 ?_
        exact J343 _
      · refine r_lload rfl dX12_makes_363 rfl ?_
        refine r_lload rfl dX12_makes_365 rfl ?_
        refine r_lor rfl dX12_makes_367 ?_
        refine r_goto (pc' := 376) rfl dX12_makes_368 ?_
        exact J343 _
    refine r_icmp_ne (tgt := 341) rfl rfl dX12_makes_333 (fun c383 => ?_) (fun c383 => ?_)
    · have q384 : ¬ k = 1 := (not_congr (nI_eq (a := k) (b := 1)  (by omega) (by omega))).mp c383
      refine r_iload rfl dX12_makes_341 rfl ?_
      refine r_if_eq (tgt := 355) rfl rfl dX12_makes_343 (fun c385 => ?_) (fun c385 => ?_)
      · refine r_iconst (v := 0) rfl dX12_makes_355 (by decide) ?_
        exact J341 _
      · refine r_iload rfl dX12_makes_346 rfl ?_
        refine r_if_ne (tgt := 355) rfl rfl dX12_makes_348 (fun c386 => ?_) (fun c386 => ?_)
        · refine r_iconst (v := 0) rfl dX12_makes_355 (by decide) ?_
          exact J341 _
        · refine r_iconst (v := 1) rfl dX12_makes_351 (by decide) ?_
          refine r_goto (pc' := 356) rfl dX12_makes_352 ?_
          exact J341 _
    · have q387 : k = 1 := (nI_eq (a := k) (b := 1) (by omega) (by omega)).mp c383
      refine r_iload rfl dX12_makes_336 rfl ?_
      refine r_goto (pc' := 356) rfl dX12_makes_338 ?_
      exact J341 _
set_option maxRecDepth 20000 in
set_option maxHeartbeats 1000000 in
theorem lp_X12_makes_275 {xs : Nat → Int32} {L d : Nat} {Q : ev_Q} {th : Int32} {tr : Int64} {ty nx tk pl va fa ss wg : Int32} {c m : Nat} {s i j : Nat} {xf4 : Int32} {xf5 : Int32} {xf6 : Int32} {xf8 : Int32} {xf9 : Int32} {h0 : ev_H} (h5 : h0 420 = c420 th tr ty nx tk pl va fa (nI c) (nI m) ss wg) (hc : c ≤ 16) (hm : m ≤ 24) (hs : s < 24) (hms : m ≤ s) (hi : i < c + s) (hj : j < c + s) : ∀ (n k : Nat), k + n = 3 → ∀ (h : ev_H) (hS : SH h) (hF : KM [422, 425, 426] h0 h) (u11 : Option Value) (u12 : Option Value) (u12b : Option Value) (u14 : Option Value) (u14b : Option Value) (u16 : Option Value) (u17 : Option Value) (u17b : Option Value) (u19 : Option Value) (u19b : Option Value) (u21 : Option Value) (hK : ∀ (h : ev_H) (hS : SH h) (hF : KM [422, 425, 426] h0 h) (kx : Int32) (u11 : Option Value) (u12 : Option Value) (u12b : Option Value) (u14 : Option Value) (u14b : Option Value) (u16 : Option Value) (u17 : Option Value) (u17b : Option Value) (u19 : Option Value) (u19b : Option Value) (u21 : Option Value), EV xs L (d + 2) 0 0 M_X12_makes 434 h 490 [some (.ref 420), some (.int (nI s)), some (.int (nI i)), some (.int (nI j)), some (.int xf4), some (.int xf5), some (.int xf6), some (.int (nI (c + m))), some (.int xf8), some (.int xf9), some (.int kx), u11, u12, u12b, u14, u14b, u16, u17, u17b, u19, u19b, u21] [] Q), EV xs L (d + 2) 0 0 M_X12_makes 434 h 275 [some (.ref 420), some (.int (nI s)), some (.int (nI i)), some (.int (nI j)), some (.int xf4), some (.int xf5), some (.int xf6), some (.int (nI (c + m))), some (.int xf8), some (.int xf9), some (.int (nI k)), u11, u12, u12b, u14, u14b, u16, u17, u17b, u19, u19b, u21] [] Q := by
  intro n
  induction n with
  | zero =>
    intro k hk h hS hF u11 u12 u12b u14 u14b u16 u17 u17b u19 u19b u21 hK
    refine r_iload rfl dX12_makes_275 rfl ?_
    refine r_iconst (v := 3) rfl dX12_makes_277 (by decide) ?_
    refine r_icmp_ge (tgt := 490) rfl rfl dX12_makes_278 (fun _ => ?_) (fun zc => absurd (show 3 ≤ nI k from nI_le (a := 3) (b := k) (by omega) (by omega)) zc)
    exact hK h hS hF (nI k) u11 u12 u12b u14 u14b u16 u17 u17b u19 u19b u21
  | succ n ih =>
    intro k hk h hS hF u11 u12 u12b u14 u14b u16 u17 u17b u19 u19b u21 hK
    refine r_iload rfl dX12_makes_275 rfl ?_
    refine r_iconst (v := 3) rfl dX12_makes_277 (by decide) ?_
    refine r_icmp_ge (tgt := 490) rfl rfl dX12_makes_278 (fun zc => absurd zc (show ¬ 3 ≤ nI k from nI_ge (a := k) (b := 3) (by omega) (by omega))) (fun _ => ?_)
    refine r_iconst (v := 0) rfl dX12_makes_281 (by decide) ?_
    refine r_istore (ls' := [some (.ref 420), some (.int (nI s)), some (.int (nI i)), some (.int (nI j)), some (.int xf4), some (.int xf5), some (.int xf6), some (.int (nI (c + m))), some (.int xf8), some (.int xf9), some (.int (nI k)), some (.int 0), u12, u12b, u14, u14b, u16, u17, u17b, u19, u19b, u21]) rfl dX12_makes_282 (Nat.le_of_ble_eq_true rfl) rfl ?_
    refine lp_X12_makes_284 ((hF 420 (by decide)).trans h5) hc hm hs hms hi hj (by omega) (4 - 0) 0 (by omega) h hS (KM_rf _) u12 u12b u14 u14b u16 u17 u17b u19 u19b u21 ?_
    intro h244 hS245 hK246 kx233 w234 w235 w236 w237 w238 w239 w240 w241 w242 w243
    have hF247 := KM_tr hF (KM_sb (by decide) hK246)
    refine r_iinc (y := nI (k + 1)) (ls' := [some (.ref 420), some (.int (nI s)), some (.int (nI i)), some (.int (nI j)), some (.int xf4), some (.int xf5), some (.int xf6), some (.int (nI (c + m))), some (.int xf8), some (.int xf9), some (.int (nI (k + 1))), some (.int kx233), w234, w235, w236, w237, w238, w239, w240, w241, w242, w243]) rfl dX12_makes_484 rfl (nI_1 k) (Nat.le_of_ble_eq_true rfl) rfl ?_
    refine r_goto (pc' := 275) rfl dX12_makes_487 ?_
    exact ih (k + 1) (by omega) h244 hS245 hF247 (some (.int kx233)) w234 w235 w236 w237 w238 w239 w240 w241 w242 w243 hK
set_option maxRecDepth 20000 in
set_option maxHeartbeats 1000000 in
theorem s_X12_makes {xs : Nat → Int32} {L d : Nat} {h : ev_H} {th : Int32} {tr : Int64} {ty nx tk pl va fa ss wg : Int32} {c m : Nat} {s i j : Nat} {E : Nat → Int32} (hS : SH h) (h5 : h 420 = c420 th tr ty nx tk pl va fa (nI c) (nI m) ss wg) (hc : c ≤ 16) (hm : m ≤ 24) (hs : s < 24) (hms : m ≤ s) (hi : i < c + s) (hj : j < c + s) (h24 : h 424 = cI 72 E) (hE1 : E (3 * s) = nI i) (hE2 : E (3 * s + 1) = nI j) : EV xs L (d + 2) 0 0 M_X12_makes 434 h 0 [some (.ref 420), some (.int (nI s)), none, none, none, none, none, none, none, none, none, none, none, none, none, none, none, none, none, none, none, none] [] (fun sz' h' r => sz' = 434 ∧ SH h' ∧ KM [420, 422, 425, 426] h h' ∧ ((r = [.int 1] ∧ h' 420 = c420 th tr ty nx tk pl va fa (nI c) (nI (m + 1)) ss wg) ∨ (r = [.int 0] ∧ h' 420 = c420 th tr ty nx tk pl va fa (nI c) (nI m) ss wg))) := by
  refine r_aload_n rfl dX12_makes_0 rfl ?_
  refine r_getv 15 rfl dX12_makes_1 (show 2 ≤ 420 ∧ 420 < 434 by decide) h5 fl_X12_23 rfl ?_
  refine r_iconst (v := 3) rfl dX12_makes_4 (by decide) ?_
  refine r_iload_n rfl dX12_makes_5 rfl ?_
  refine r_imul rfl dX12_makes_6 ?_
  refine r_eqi (y := nI (3 * s)) (show 3 * (nI s) = nI (3 * s) from pk_mul 3 s) ?_
  refine r_ialdv (jn := 3 * s) (v := nI i) rfl dX12_makes_7 (show 2 ≤ 424 ∧ 424 < 434 by decide) h24 (vp_in_nI (n := 3 * s) (by omega) (by omega)) (nI_clamp (n := 3 * s) (by omega)) hE1 ?_
  refine r_istore_n (ls' := [some (.ref 420), some (.int (nI s)), some (.int (nI i)), none, none, none, none, none, none, none, none, none, none, none, none, none, none, none, none, none, none, none]) rfl dX12_makes_8 (Nat.le_of_ble_eq_true rfl) rfl ?_
  refine r_aload_n rfl dX12_makes_9 rfl ?_
  refine r_getv 15 rfl dX12_makes_10 (show 2 ≤ 420 ∧ 420 < 434 by decide) h5 fl_X12_23 rfl ?_
  refine r_iconst (v := 3) rfl dX12_makes_13 (by decide) ?_
  refine r_iload_n rfl dX12_makes_14 rfl ?_
  refine r_imul rfl dX12_makes_15 ?_
  refine r_eqi (y := nI (3 * s)) (show 3 * (nI s) = nI (3 * s) from pk_mul 3 s) ?_
  refine r_iconst (v := 1) rfl dX12_makes_16 (by decide) ?_
  refine r_iadd rfl dX12_makes_17 ?_
  refine r_eqi (y := nI ((3 * s) + 1)) (show (nI (3 * s)) + 1 = nI ((3 * s) + 1) from nI_add (3 * s) 1) ?_
  refine r_ialdv (jn := (3 * s) + 1) (v := nI j) rfl dX12_makes_18 (show 2 ≤ 424 ∧ 424 < 434 by decide) h24 (vp_in_nI (n := (3 * s) + 1) (by omega) (by omega)) (nI_clamp (n := (3 * s) + 1) (by omega)) hE2 ?_
  refine r_istore_n (ls' := [some (.ref 420), some (.int (nI s)), some (.int (nI i)), some (.int (nI j)), none, none, none, none, none, none, none, none, none, none, none, none, none, none, none, none, none, none]) rfl dX12_makes_19 (Nat.le_of_ble_eq_true rfl) rfl ?_
  refine r_iconst (v := 1) rfl dX12_makes_20 (by decide) ?_
  refine r_aload_n rfl dX12_makes_21 rfl ?_
  refine r_getv 15 rfl dX12_makes_22 (show 2 ≤ 420 ∧ 420 < 434 by decide) h5 fl_X12_23 rfl ?_
  refine r_iconst (v := 3) rfl dX12_makes_25 (by decide) ?_
  refine r_iload_n rfl dX12_makes_26 rfl ?_
  refine r_imul rfl dX12_makes_27 ?_
  refine r_eqi (y := nI (3 * s)) (show 3 * (nI s) = nI (3 * s) from pk_mul 3 s) ?_
  refine r_iconst (v := 2) rfl dX12_makes_28 (by decide) ?_
  refine r_iadd rfl dX12_makes_29 ?_
  refine r_eqi (y := nI ((3 * s) + 2)) (show (nI (3 * s)) + 2 = nI ((3 * s) + 2) from nI_add (3 * s) 2) ?_
  obtain ⟨g51, f52⟩ := hS.li LI_424
  refine r_ialdv (jn := (3 * s) + 2) (v := g51 ((3 * s) + 2)) rfl dX12_makes_30 (show 2 ≤ 424 ∧ 424 < 434 by decide) f52 (vp_in_nI (n := (3 * s) + 2) (by omega) (by omega)) (nI_clamp (n := (3 * s) + 2) (by omega)) rfl ?_
  refine r_ishl rfl dX12_makes_31 ?_
  refine r_topi (fun x53 e54 => ?_)
  refine r_istore (ls' := [some (.ref 420), some (.int (nI s)), some (.int (nI i)), some (.int (nI j)), some (.int x53), none, none, none, none, none, none, none, none, none, none, none, none, none, none, none, none, none]) rfl dX12_makes_32 (Nat.le_of_ble_eq_true rfl) rfl ?_
  refine r_aload_n rfl dX12_makes_34 rfl ?_
  refine r_getv 13 rfl dX12_makes_35 (show 2 ≤ 420 ∧ 420 < 434 by decide) h5 fl_X12_17 rfl ?_
  refine r_bipush (v := 6) rfl dX12_makes_38 (by decide) ?_
  refine r_iload_n rfl dX12_makes_40 rfl ?_
  refine r_imul rfl dX12_makes_41 ?_
  refine r_eqi (y := nI (6 * i)) (show 6 * (nI i) = nI (6 * i) from pk_mul 6 i) ?_
  obtain ⟨g55, f56⟩ := hS.li LI_422
  refine r_ialdv (jn := 6 * i) (v := g55 (6 * i)) rfl dX12_makes_42 (show 2 ≤ 422 ∧ 422 < 434 by decide) f56 (vp_in_nI (n := 6 * i) (by omega) (by omega)) (nI_clamp (n := 6 * i) (by omega)) rfl ?_
  refine r_iload rfl dX12_makes_43 rfl ?_
  refine r_iconst (v := (-1)) rfl dX12_makes_45 (by decide) ?_
  refine r_ixor rfl dX12_makes_46 ?_
  refine r_iand rfl dX12_makes_47 ?_
  refine r_aload_n rfl dX12_makes_48 rfl ?_
  refine r_getv 13 rfl dX12_makes_49 (show 2 ≤ 420 ∧ 420 < 434 by decide) h5 fl_X12_17 rfl ?_
  refine r_bipush (v := 6) rfl dX12_makes_52 (by decide) ?_
  refine r_iload_n rfl dX12_makes_54 rfl ?_
  refine r_imul rfl dX12_makes_55 ?_
  refine r_eqi (y := nI (6 * j)) (show 6 * (nI j) = nI (6 * j) from pk_mul 6 j) ?_
  obtain ⟨g57, f58⟩ := hS.li LI_422
  refine r_ialdv (jn := 6 * j) (v := g57 (6 * j)) rfl dX12_makes_56 (show 2 ≤ 422 ∧ 422 < 434 by decide) f58 (vp_in_nI (n := 6 * j) (by omega) (by omega)) (nI_clamp (n := 6 * j) (by omega)) rfl ?_
  refine r_ior rfl dX12_makes_57 ?_
  refine r_topi (fun x59 e60 => ?_)
  refine r_istore (ls' := [some (.ref 420), some (.int (nI s)), some (.int (nI i)), some (.int (nI j)), some (.int x53), some (.int x59), none, none, none, none, none, none, none, none, none, none, none, none, none, none, none, none]) rfl dX12_makes_58 (Nat.le_of_ble_eq_true rfl) rfl ?_
  refine r_aload_n rfl dX12_makes_60 rfl ?_
  refine r_getv 13 rfl dX12_makes_61 (show 2 ≤ 420 ∧ 420 < 434 by decide) h5 fl_X12_17 rfl ?_
  refine r_bipush (v := 6) rfl dX12_makes_64 (by decide) ?_
  refine r_iload_n rfl dX12_makes_66 rfl ?_
  refine r_imul rfl dX12_makes_67 ?_
  refine r_eqi (y := nI (6 * i)) (show 6 * (nI i) = nI (6 * i) from pk_mul 6 i) ?_
  refine r_iconst (v := 1) rfl dX12_makes_68 (by decide) ?_
  refine r_iadd rfl dX12_makes_69 ?_
  refine r_eqi (y := nI ((6 * i) + 1)) (show (nI (6 * i)) + 1 = nI ((6 * i) + 1) from nI_add (6 * i) 1) ?_
  obtain ⟨g61, f62⟩ := hS.li LI_422
  refine r_ialdv (jn := (6 * i) + 1) (v := g61 ((6 * i) + 1)) rfl dX12_makes_70 (show 2 ≤ 422 ∧ 422 < 434 by decide) f62 (vp_in_nI (n := (6 * i) + 1) (by omega) (by omega)) (nI_clamp (n := (6 * i) + 1) (by omega)) rfl ?_
  refine r_aload_n rfl dX12_makes_71 rfl ?_
  refine r_getv 13 rfl dX12_makes_72 (show 2 ≤ 420 ∧ 420 < 434 by decide) h5 fl_X12_17 rfl ?_
  refine r_bipush (v := 6) rfl dX12_makes_75 (by decide) ?_
  refine r_iload_n rfl dX12_makes_77 rfl ?_
  refine r_imul rfl dX12_makes_78 ?_
  refine r_eqi (y := nI (6 * j)) (show 6 * (nI j) = nI (6 * j) from pk_mul 6 j) ?_
  refine r_iconst (v := 1) rfl dX12_makes_79 (by decide) ?_
  refine r_iadd rfl dX12_makes_80 ?_
  refine r_eqi (y := nI ((6 * j) + 1)) (show (nI (6 * j)) + 1 = nI ((6 * j) + 1) from nI_add (6 * j) 1) ?_
  obtain ⟨g63, f64⟩ := hS.li LI_422
  refine r_ialdv (jn := (6 * j) + 1) (v := g63 ((6 * j) + 1)) rfl dX12_makes_81 (show 2 ≤ 422 ∧ 422 < 434 by decide) f64 (vp_in_nI (n := (6 * j) + 1) (by omega) (by omega)) (nI_clamp (n := (6 * j) + 1) (by omega)) rfl ?_
  refine r_iload rfl dX12_makes_82 rfl ?_
  refine r_iconst (v := (-1)) rfl dX12_makes_84 (by decide) ?_
  refine r_ixor rfl dX12_makes_85 ?_
  refine r_iand rfl dX12_makes_86 ?_
  refine r_ior rfl dX12_makes_87 ?_
  refine r_topi (fun x65 e66 => ?_)
  refine r_istore (ls' := [some (.ref 420), some (.int (nI s)), some (.int (nI i)), some (.int (nI j)), some (.int x53), some (.int x59), some (.int x65), none, none, none, none, none, none, none, none, none, none, none, none, none, none, none]) rfl dX12_makes_88 (Nat.le_of_ble_eq_true rfl) rfl ?_
  refine r_aload_n rfl dX12_makes_90 rfl ?_
  refine r_getv 13 rfl dX12_makes_91 (show 2 ≤ 420 ∧ 420 < 434 by decide) h5 fl_X12_17 rfl ?_
  refine r_bipush (v := 6) rfl dX12_makes_94 (by decide) ?_
  refine r_iload_n rfl dX12_makes_96 rfl ?_
  refine r_imul rfl dX12_makes_97 ?_
  refine r_eqi (y := nI (6 * i)) (show 6 * (nI i) = nI (6 * i) from pk_mul 6 i) ?_
  obtain ⟨g67, f68⟩ := hS.li LI_422
  refine r_ialdv (jn := 6 * i) (v := g67 (6 * i)) rfl dX12_makes_98 (show 2 ≤ 422 ∧ 422 < 434 by decide) f68 (vp_in_nI (n := 6 * i) (by omega) (by omega)) (nI_clamp (n := 6 * i) (by omega)) rfl ?_
  refine r_iload rfl dX12_makes_99 rfl ?_
  refine r_iand rfl dX12_makes_101 ?_
  refine r_if_eq (tgt := 130) rfl rfl dX12_makes_102 (fun c69 => ?_) (fun c69 => ?_)
  · refine r_iconst (v := 0) rfl dX12_makes_130 (by decide) ?_
    exact r_ret dX12_makes_131 (rt_z rfl (Or.inl rfl)) ⟨rfl, hS, (KM_rf (Mod := [420, 422, 425, 426]) h), Or.inr ⟨rfl, h5⟩⟩
  · refine r_aload_n rfl dX12_makes_105 rfl ?_
    refine r_getv 13 rfl dX12_makes_106 (show 2 ≤ 420 ∧ 420 < 434 by decide) h5 fl_X12_17 rfl ?_
    refine r_bipush (v := 6) rfl dX12_makes_109 (by decide) ?_
    refine r_iload_n rfl dX12_makes_111 rfl ?_
    refine r_imul rfl dX12_makes_112 ?_
    refine r_eqi (y := nI (6 * j)) (show 6 * (nI j) = nI (6 * j) from pk_mul 6 j) ?_
    refine r_iconst (v := 1) rfl dX12_makes_113 (by decide) ?_
    refine r_iadd rfl dX12_makes_114 ?_
    refine r_eqi (y := nI ((6 * j) + 1)) (show (nI (6 * j)) + 1 = nI ((6 * j) + 1) from nI_add (6 * j) 1) ?_
    obtain ⟨g70, f71⟩ := hS.li LI_422
    refine r_ialdv (jn := (6 * j) + 1) (v := g70 ((6 * j) + 1)) rfl dX12_makes_115 (show 2 ≤ 422 ∧ 422 < 434 by decide) f71 (vp_in_nI (n := (6 * j) + 1) (by omega) (by omega)) (nI_clamp (n := (6 * j) + 1) (by omega)) rfl ?_
    refine r_iload rfl dX12_makes_116 rfl ?_
    refine r_iand rfl dX12_makes_118 ?_
    refine r_if_eq (tgt := 130) rfl rfl dX12_makes_119 (fun c72 => ?_) (fun c72 => ?_)
    · refine r_iconst (v := 0) rfl dX12_makes_130 (by decide) ?_
      exact r_ret dX12_makes_131 (rt_z rfl (Or.inl rfl)) ⟨rfl, hS, (KM_rf (Mod := [420, 422, 425, 426]) h), Or.inr ⟨rfl, h5⟩⟩
    · refine r_iload rfl dX12_makes_122 rfl ?_
      refine r_iload rfl dX12_makes_124 rfl ?_
      refine r_iand rfl dX12_makes_126 ?_
      refine r_if_eq (tgt := 132) rfl rfl dX12_makes_127 (fun c73 => ?_) (fun c73 => ?_)
      · refine r_aload_n rfl dX12_makes_132 rfl ?_
        refine r_getv 9 rfl dX12_makes_133 (show 2 ≤ 420 ∧ 420 < 434 by decide) h5 fl_X12_112 rfl ?_
        refine r_aload_n rfl dX12_makes_136 rfl ?_
        refine r_getv 10 rfl dX12_makes_137 (show 2 ≤ 420 ∧ 420 < 434 by decide) h5 fl_X12_115 rfl ?_
        refine r_iadd rfl dX12_makes_140 ?_
        refine r_eqi (y := nI (c + m)) (show (nI c) + (nI m) = nI (c + m) from nI_add c m) ?_
        refine r_istore (ls' := [some (.ref 420), some (.int (nI s)), some (.int (nI i)), some (.int (nI j)), some (.int x53), some (.int x59), some (.int x65), some (.int (nI (c + m))), none, none, none, none, none, none, none, none, none, none, none, none, none, none]) rfl dX12_makes_141 (Nat.le_of_ble_eq_true rfl) rfl ?_
        refine r_aload_n rfl dX12_makes_143 rfl ?_
        refine r_getv 13 rfl dX12_makes_144 (show 2 ≤ 420 ∧ 420 < 434 by decide) h5 fl_X12_17 rfl ?_
        refine r_bipush (v := 6) rfl dX12_makes_147 (by decide) ?_
        refine r_iload rfl dX12_makes_149 rfl ?_
        refine r_imul rfl dX12_makes_151 ?_
        refine r_eqi (y := nI (6 * (c + m))) (show 6 * (nI (c + m)) = nI (6 * (c + m)) from pk_mul 6 (c + m)) ?_
        refine r_iload rfl dX12_makes_152 rfl ?_
        obtain ⟨g74, f75⟩ := hS.li LI_422
        refine m_iast rfl dX12_makes_154 (show 2 ≤ 422 ∧ 422 < 434 by decide) hS (KM_rf (Mod := [420, 422, 425, 426]) h) (by decide) f75 (vp_in_nI (n := 6 * (c + m)) (by omega) (by omega)) (fun h76 hS77 hF78 hN79 => ?_)
        have f80 : h76 420 = c420 th tr ty nx tk pl va fa (nI c) (nI m) ss wg := (hN79 420 (by decide)).trans h5
        refine r_aload_n rfl dX12_makes_155 rfl ?_
        refine r_getv 13 rfl dX12_makes_156 (show 2 ≤ 420 ∧ 420 < 434 by decide) f80 fl_X12_17 rfl ?_
        refine r_bipush (v := 6) rfl dX12_makes_159 (by decide) ?_
        refine r_iload rfl dX12_makes_161 rfl ?_
        refine r_imul rfl dX12_makes_163 ?_
        refine r_eqi (y := nI (6 * (c + m))) (show 6 * (nI (c + m)) = nI (6 * (c + m)) from pk_mul 6 (c + m)) ?_
        refine r_iconst (v := 1) rfl dX12_makes_164 (by decide) ?_
        refine r_iadd rfl dX12_makes_165 ?_
        refine r_eqi (y := nI ((6 * (c + m)) + 1)) (show (nI (6 * (c + m))) + 1 = nI ((6 * (c + m)) + 1) from nI_add (6 * (c + m)) 1) ?_
        refine r_iload rfl dX12_makes_166 rfl ?_
        obtain ⟨g81, f82⟩ := hS77.li LI_422
        refine m_iast rfl dX12_makes_168 (show 2 ≤ 422 ∧ 422 < 434 by decide) hS77 hF78 (by decide) f82 (vp_in_nI (n := (6 * (c + m)) + 1) (by omega) (by omega)) (fun h83 hS84 hF85 hN86 => ?_)
        have f87 : h83 420 = c420 th tr ty nx tk pl va fa (nI c) (nI m) ss wg := (hN86 420 (by decide)).trans f80
        refine r_aload_n rfl dX12_makes_169 rfl ?_
        refine r_getv 13 rfl dX12_makes_170 (show 2 ≤ 420 ∧ 420 < 434 by decide) f87 fl_X12_17 rfl ?_
        refine r_bipush (v := 6) rfl dX12_makes_173 (by decide) ?_
        refine r_iload rfl dX12_makes_175 rfl ?_
        refine r_imul rfl dX12_makes_177 ?_
        refine r_eqi (y := nI (6 * (c + m))) (show 6 * (nI (c + m)) = nI (6 * (c + m)) from pk_mul 6 (c + m)) ?_
        refine r_iconst (v := 2) rfl dX12_makes_178 (by decide) ?_
        refine r_iadd rfl dX12_makes_179 ?_
        refine r_eqi (y := nI ((6 * (c + m)) + 2)) (show (nI (6 * (c + m))) + 2 = nI ((6 * (c + m)) + 2) from nI_add (6 * (c + m)) 2) ?_
        refine r_iconst (v := 0) rfl dX12_makes_180 (by decide) ?_
        obtain ⟨g88, f89⟩ := hS84.li LI_422
        refine m_iast rfl dX12_makes_181 (show 2 ≤ 422 ∧ 422 < 434 by decide) hS84 hF85 (by decide) f89 (vp_in_nI (n := (6 * (c + m)) + 2) (by omega) (by omega)) (fun h90 hS91 hF92 hN93 => ?_)
        have f94 : h90 420 = c420 th tr ty nx tk pl va fa (nI c) (nI m) ss wg := (hN93 420 (by decide)).trans f87
        refine r_aload_n rfl dX12_makes_182 rfl ?_
        refine r_getv 13 rfl dX12_makes_183 (show 2 ≤ 420 ∧ 420 < 434 by decide) f94 fl_X12_17 rfl ?_
        refine r_bipush (v := 6) rfl dX12_makes_186 (by decide) ?_
        refine r_iload rfl dX12_makes_188 rfl ?_
        refine r_imul rfl dX12_makes_190 ?_
        refine r_eqi (y := nI (6 * (c + m))) (show 6 * (nI (c + m)) = nI (6 * (c + m)) from pk_mul 6 (c + m)) ?_
        refine r_iconst (v := 3) rfl dX12_makes_191 (by decide) ?_
        refine r_iadd rfl dX12_makes_192 ?_
        refine r_eqi (y := nI ((6 * (c + m)) + 3)) (show (nI (6 * (c + m))) + 3 = nI ((6 * (c + m)) + 3) from nI_add (6 * (c + m)) 3) ?_
        refine r_iload_n rfl dX12_makes_193 rfl ?_
        obtain ⟨g95, f96⟩ := hS91.li LI_422
        refine m_iast rfl dX12_makes_194 (show 2 ≤ 422 ∧ 422 < 434 by decide) hS91 hF92 (by decide) f96 (vp_in_nI (n := (6 * (c + m)) + 3) (by omega) (by omega)) (fun h97 hS98 hF99 hN100 => ?_)
        have f101 : h97 420 = c420 th tr ty nx tk pl va fa (nI c) (nI m) ss wg := (hN100 420 (by decide)).trans f94
        refine r_aload_n rfl dX12_makes_195 rfl ?_
        refine r_getv 13 rfl dX12_makes_196 (show 2 ≤ 420 ∧ 420 < 434 by decide) f101 fl_X12_17 rfl ?_
        refine r_bipush (v := 6) rfl dX12_makes_199 (by decide) ?_
        refine r_iload rfl dX12_makes_201 rfl ?_
        refine r_imul rfl dX12_makes_203 ?_
        refine r_eqi (y := nI (6 * (c + m))) (show 6 * (nI (c + m)) = nI (6 * (c + m)) from pk_mul 6 (c + m)) ?_
        refine r_iconst (v := 4) rfl dX12_makes_204 (by decide) ?_
        refine r_iadd rfl dX12_makes_205 ?_
        refine r_eqi (y := nI ((6 * (c + m)) + 4)) (show (nI (6 * (c + m))) + 4 = nI ((6 * (c + m)) + 4) from nI_add (6 * (c + m)) 4) ?_
        refine r_iload_n rfl dX12_makes_206 rfl ?_
        obtain ⟨g102, f103⟩ := hS98.li LI_422
        refine m_iast rfl dX12_makes_207 (show 2 ≤ 422 ∧ 422 < 434 by decide) hS98 hF99 (by decide) f103 (vp_in_nI (n := (6 * (c + m)) + 4) (by omega) (by omega)) (fun h104 hS105 hF106 hN107 => ?_)
        have f108 : h104 420 = c420 th tr ty nx tk pl va fa (nI c) (nI m) ss wg := (hN107 420 (by decide)).trans f101
        refine r_aload_n rfl dX12_makes_208 rfl ?_
        refine r_getv 13 rfl dX12_makes_209 (show 2 ≤ 420 ∧ 420 < 434 by decide) f108 fl_X12_17 rfl ?_
        refine r_bipush (v := 6) rfl dX12_makes_212 (by decide) ?_
        refine r_iload rfl dX12_makes_214 rfl ?_
        refine r_imul rfl dX12_makes_216 ?_
        refine r_eqi (y := nI (6 * (c + m))) (show 6 * (nI (c + m)) = nI (6 * (c + m)) from pk_mul 6 (c + m)) ?_
        refine r_iconst (v := 5) rfl dX12_makes_217 (by decide) ?_
        refine r_iadd rfl dX12_makes_218 ?_
        refine r_eqi (y := nI ((6 * (c + m)) + 5)) (show (nI (6 * (c + m))) + 5 = nI ((6 * (c + m)) + 5) from nI_add (6 * (c + m)) 5) ?_
        refine r_aload_n rfl dX12_makes_219 rfl ?_
        refine r_getv 15 rfl dX12_makes_220 (show 2 ≤ 420 ∧ 420 < 434 by decide) f108 fl_X12_23 rfl ?_
        refine r_iconst (v := 3) rfl dX12_makes_223 (by decide) ?_
        refine r_iload_n rfl dX12_makes_224 rfl ?_
        refine r_imul rfl dX12_makes_225 ?_
        refine r_eqi (y := nI (3 * s)) (show 3 * (nI s) = nI (3 * s) from pk_mul 3 s) ?_
        refine r_iconst (v := 2) rfl dX12_makes_226 (by decide) ?_
        refine r_iadd rfl dX12_makes_227 ?_
        refine r_eqi (y := nI ((3 * s) + 2)) (show (nI (3 * s)) + 2 = nI ((3 * s) + 2) from nI_add (3 * s) 2) ?_
        obtain ⟨g109, f110⟩ := hS105.li LI_424
        refine r_ialdv (jn := (3 * s) + 2) (v := g109 ((3 * s) + 2)) rfl dX12_makes_228 (show 2 ≤ 424 ∧ 424 < 434 by decide) f110 (vp_in_nI (n := (3 * s) + 2) (by omega) (by omega)) (nI_clamp (n := (3 * s) + 2) (by omega)) rfl ?_
        obtain ⟨g111, f112⟩ := hS105.li LI_422
        refine m_iast rfl dX12_makes_229 (show 2 ≤ 422 ∧ 422 < 434 by decide) hS105 hF106 (by decide) f112 (vp_in_nI (n := (6 * (c + m)) + 5) (by omega) (by omega)) (fun h113 hS114 hF115 hN116 => ?_)
        have f117 : h113 420 = c420 th tr ty nx tk pl va fa (nI c) (nI m) ss wg := (hN116 420 (by decide)).trans f108
        refine r_aload_n rfl dX12_makes_230 rfl ?_
        refine r_iload rfl dX12_makes_231 rfl ?_
        refine cl_X12_121 rfl rfl dX12_makes_233 (show 2 ≤ 420 ∧ 420 < 434 by decide).1 (show 2 ≤ 420 ∧ 420 < 434 by decide).2 f117 (Nat.le_of_ble_eq_true rfl) (s_X12_holding (i := c + m) hS114 f117 hc hm (by omega)) ?_
        rintro _ h118 _ ⟨rfl, hS119, hK120, rfl⟩
        have hF121 := KM_tr hF115 (KM_sb (by decide) hK120)
        have f122 : h118 420 = c420 th tr ty nx tk pl va fa (nI c) (nI m) ss wg := (hK120 420 (by decide)).trans f117
        refine r_aload_n rfl dX12_makes_236 rfl ?_
        refine r_iconst (v := 1) rfl dX12_makes_237 (by decide) ?_
        refine cl_X12_130 rfl rfl dX12_makes_238 (show 2 ≤ 420 ∧ 420 < 434 by decide).1 (show 2 ≤ 420 ∧ 420 < 434 by decide).2 f122 (Nat.le_of_ble_eq_true rfl) (s_X12_lettersOf hS119 f122 hc hm) ?_
        rintro _ h123 _ ⟨rfl, e124, x125, rfl⟩
        replace e124 := e124.symm
        subst e124
        refine r_iload rfl dX12_makes_241 rfl ?_
        refine r_iand rfl dX12_makes_243 ?_
        have J126 : ∀ v127 : Int32, EV xs L (d + 2) 0 0 M_X12_makes 434 h118 252 [some (.ref 420), some (.int (nI s)), some (.int (nI i)), some (.int (nI j)), some (.int x53), some (.int x59), some (.int x65), some (.int (nI (c + m))), none, none, none, none, none, none, none, none, none, none, none, none, none, none] (.int v127 :: []) (fun sz' h' r => sz' = 434 ∧ SH h' ∧ KM [420, 422, 425, 426] h h' ∧ ((r = [.int 1] ∧ h' 420 = c420 th tr ty nx tk pl va fa (nI c) (nI (m + 1)) ss wg) ∨ (r = [.int 0] ∧ h' 420 = c420 th tr ty nx tk pl va fa (nI c) (nI m) ss wg))) := by
          intro v127
          refine r_istore (ls' := [some (.ref 420), some (.int (nI s)), some (.int (nI i)), some (.int (nI j)), some (.int x53), some (.int x59), some (.int x65), some (.int (nI (c + m))), some (.int v127), none, none, none, none, none, none, none, none, none, none, none, none, none]) rfl dX12_makes_252 (Nat.le_of_ble_eq_true rfl) rfl ?_
          refine r_aload_n rfl dX12_makes_254 rfl ?_
          refine r_iconst (v := 2) rfl dX12_makes_255 (by decide) ?_
          refine cl_X12_130 rfl rfl dX12_makes_256 (show 2 ≤ 420 ∧ 420 < 434 by decide).1 (show 2 ≤ 420 ∧ 420 < 434 by decide).2 f122 (Nat.le_of_ble_eq_true rfl) (s_X12_lettersOf hS119 f122 hc hm) ?_
          rintro _ h128 _ ⟨rfl, e129, x130, rfl⟩
          replace e129 := e129.symm
          subst e129
          refine r_iload rfl dX12_makes_259 rfl ?_
          refine r_iand rfl dX12_makes_261 ?_
          have J131 : ∀ v132 : Int32, EV xs L (d + 2) 0 0 M_X12_makes 434 h118 270 [some (.ref 420), some (.int (nI s)), some (.int (nI i)), some (.int (nI j)), some (.int x53), some (.int x59), some (.int x65), some (.int (nI (c + m))), some (.int v127), none, none, none, none, none, none, none, none, none, none, none, none, none] (.int v132 :: []) (fun sz' h' r => sz' = 434 ∧ SH h' ∧ KM [420, 422, 425, 426] h h' ∧ ((r = [.int 1] ∧ h' 420 = c420 th tr ty nx tk pl va fa (nI c) (nI (m + 1)) ss wg) ∨ (r = [.int 0] ∧ h' 420 = c420 th tr ty nx tk pl va fa (nI c) (nI m) ss wg))) := by
            intro v132
            refine r_istore (ls' := [some (.ref 420), some (.int (nI s)), some (.int (nI i)), some (.int (nI j)), some (.int x53), some (.int x59), some (.int x65), some (.int (nI (c + m))), some (.int v127), some (.int v132), none, none, none, none, none, none, none, none, none, none, none, none]) rfl dX12_makes_270 (Nat.le_of_ble_eq_true rfl) rfl ?_
            refine r_iconst (v := 0) rfl dX12_makes_272 (by decide) ?_
            refine r_istore (ls' := [some (.ref 420), some (.int (nI s)), some (.int (nI i)), some (.int (nI j)), some (.int x53), some (.int x59), some (.int x65), some (.int (nI (c + m))), some (.int v127), some (.int v132), some (.int 0), none, none, none, none, none, none, none, none, none, none, none]) rfl dX12_makes_273 (Nat.le_of_ble_eq_true rfl) rfl ?_
            refine lp_X12_makes_275 f122 hc hm hs hms hi hj (3 - 0) 0 (by omega) h118 hS119 (KM_rf _) none none none none none none none none none none none ?_
            intro h145 hS146 hK147 kx133 w134 w135 w136 w137 w138 w139 w140 w141 w142 w143 w144
            have hF148 := KM_tr hF121 (KM_sb (by decide) hK147)
            have f149 : h145 420 = c420 th tr ty nx tk pl va fa (nI c) (nI m) ss wg := (hK147 420 (by decide)).trans f122
            refine r_aload_n rfl dX12_makes_490 rfl ?_
            refine r_dup rfl dX12_makes_491 rfl ?_
            refine r_getv 10 rfl dX12_makes_492 (show 2 ≤ 420 ∧ 420 < 434 by decide) f149 fl_X12_115 rfl ?_
            refine r_iconst (v := 1) rfl dX12_makes_495 (by decide) ?_
            refine r_iadd rfl dX12_makes_496 ?_
            refine r_eqi (y := nI (m + 1)) (show (nI m) + 1 = nI (m + 1) from nI_add m 1) ?_
            refine m_put 10 (fs' := [.int th, .long tr, .ref 421, .int ty, .int nx, .int tk, .int pl, .int va, .int fa, .int (nI c), .int (nI (m + 1)), .int ss, .int wg, .ref 422, .ref 423, .ref 424, .ref 425, .ref 426, .ref 427, .ref 428, .ref 429, .ref 430, .ref 431, .ref 432, .ref 433]) rfl dX12_makes_497 hS146 hF148 (by decide) f149 (fp_X12_115 rfl _) (Nat.le_of_ble_eq_true rfl) rfl (fun h150 hS151 hF152 f153 => ?_)
            refine r_iconst (v := 1) rfl dX12_makes_500 (by decide) ?_
            exact r_ret dX12_makes_501 (rt_z rfl (Or.inr rfl)) ⟨rfl, hS151, hF152, Or.inl ⟨rfl, f153⟩⟩
          refine r_if_eq (tgt := 269) rfl rfl dX12_makes_262 (fun c154 => ?_) (fun c154 => ?_)
          · refine r_iconst (v := 0) rfl dX12_makes_269 (by decide) ?_
            exact J131 _
          · refine r_iconst (v := 1) rfl dX12_makes_265 (by decide) ?_
            refine r_goto (pc' := 270) rfl dX12_makes_266 ?_
            exact J131 _
        refine r_if_eq (tgt := 251) rfl rfl dX12_makes_244 (fun c155 => ?_) (fun c155 => ?_)
        · refine r_iconst (v := 0) rfl dX12_makes_251 (by decide) ?_
          exact J126 _
        · refine r_iconst (v := 1) rfl dX12_makes_247 (by decide) ?_
          refine r_goto (pc' := 252) rfl dX12_makes_248 ?_
          exact J126 _
      · refine r_iconst (v := 0) rfl dX12_makes_130 (by decide) ?_
        exact r_ret dX12_makes_131 (rt_z rfl (Or.inl rfl)) ⟨rfl, hS, (KM_rf (Mod := [420, 422, 425, 426]) h), Or.inr ⟨rfl, h5⟩⟩
set_option maxRecDepth 20000 in
set_option maxHeartbeats 1000000 in
theorem lp_X12_clauses_77 {xs : Nat → Int32} {L d : Nat} {Q : ev_Q} {th : Int32} {tr : Int64} {ty nx tk pl va cl md ss wg : Int32} {c : Nat} {h0 : ev_H} (h5 : h0 420 = c420 th tr ty nx tk pl va (-1) cl md ss wg) (hc : c ≤ 16) : ∀ (n k : Nat), k + n = c → ∀ (h : ev_H) (hS : SH h) (hF : KM [422, 425, 426, 427, 428, 429, 430, 431] h0 h)  (hK : ∀ (h : ev_H) (hS : SH h) (hF : KM [422, 425, 426, 427, 428, 429, 430, 431] h0 h) (kx : Int32) , EV xs L (d + 3) 0 0 M_X12_clauses 434 h 186 [some (.ref 420), some (.int (nI c)), some (.int kx)] [] Q), EV xs L (d + 3) 0 0 M_X12_clauses 434 h 77 [some (.ref 420), some (.int (nI c)), some (.int (nI k))] [] Q := by
  intro n
  induction n with
  | zero =>
    intro k hk h hS hF  hK
    refine r_iload_n rfl dX12_clauses_77 rfl ?_
    refine r_iload_n rfl dX12_clauses_78 rfl ?_
    refine r_icmp_ge (tgt := 186) rfl rfl dX12_clauses_79 (fun _ => ?_) (fun zc => absurd (show (nI c) ≤ nI k from nI_le (a := c) (b := k) (by omega) (by omega)) zc)
    exact hK h hS hF (nI k) 
  | succ n ih =>
    intro k hk h hS hF  hK
    refine r_iload_n rfl dX12_clauses_77 rfl ?_
    refine r_iload_n rfl dX12_clauses_78 rfl ?_
    refine r_icmp_ge (tgt := 186) rfl rfl dX12_clauses_79 (fun zc => absurd zc (show ¬ (nI c) ≤ nI k from nI_ge (a := k) (b := c) (by omega) (by omega))) (fun _ => ?_)
    refine r_aload_n rfl dX12_clauses_82 rfl ?_
    refine r_getv 13 rfl dX12_clauses_83 (show 2 ≤ 420 ∧ 420 < 434 by decide) ((hF 420 (by decide)).trans h5) fl_X12_17 rfl ?_
    refine r_bipush (v := 6) rfl dX12_clauses_86 (by decide) ?_
    refine r_iload_n rfl dX12_clauses_88 rfl ?_
    refine r_imul rfl dX12_clauses_89 ?_
    refine r_eqi (y := nI (6 * k)) (show 6 * (nI k) = nI (6 * k) from pk_mul 6 k) ?_
    refine r_aload_n rfl dX12_clauses_90 rfl ?_
    refine r_getv 14 rfl dX12_clauses_91 (show 2 ≤ 420 ∧ 420 < 434 by decide) ((hF 420 (by decide)).trans h5) fl_X12_20 rfl ?_
    refine r_iconst (v := 3) rfl dX12_clauses_94 (by decide) ?_
    refine r_iload_n rfl dX12_clauses_95 rfl ?_
    refine r_imul rfl dX12_clauses_96 ?_
    refine r_eqi (y := nI (3 * k)) (show 3 * (nI k) = nI (3 * k) from pk_mul 3 k) ?_
    obtain ⟨g153, f154⟩ := hS.li LI_423
    refine r_ialdv (jn := 3 * k) (v := g153 (3 * k)) rfl dX12_clauses_97 (show 2 ≤ 423 ∧ 423 < 434 by decide) f154 (vp_in_nI (n := 3 * k) (by omega) (by omega)) (nI_clamp (n := 3 * k) (by omega)) rfl ?_
    obtain ⟨g155, f156⟩ := hS.li LI_422
    refine m_iast rfl dX12_clauses_98 (show 2 ≤ 422 ∧ 422 < 434 by decide) hS hF (by decide) f156 (vp_in_nI (n := 6 * k) (by omega) (by omega)) (fun h157 hS158 hF159 hN160 => ?_)
    refine r_aload_n rfl dX12_clauses_99 rfl ?_
    refine r_getv 13 rfl dX12_clauses_100 (show 2 ≤ 420 ∧ 420 < 434 by decide) ((hF159 420 (by decide)).trans h5) fl_X12_17 rfl ?_
    refine r_bipush (v := 6) rfl dX12_clauses_103 (by decide) ?_
    refine r_iload_n rfl dX12_clauses_105 rfl ?_
    refine r_imul rfl dX12_clauses_106 ?_
    refine r_eqi (y := nI (6 * k)) (show 6 * (nI k) = nI (6 * k) from pk_mul 6 k) ?_
    refine r_iconst (v := 1) rfl dX12_clauses_107 (by decide) ?_
    refine r_iadd rfl dX12_clauses_108 ?_
    refine r_eqi (y := nI ((6 * k) + 1)) (show (nI (6 * k)) + 1 = nI ((6 * k) + 1) from nI_add (6 * k) 1) ?_
    refine r_aload_n rfl dX12_clauses_109 rfl ?_
    refine r_getv 14 rfl dX12_clauses_110 (show 2 ≤ 420 ∧ 420 < 434 by decide) ((hF159 420 (by decide)).trans h5) fl_X12_20 rfl ?_
    refine r_iconst (v := 3) rfl dX12_clauses_113 (by decide) ?_
    refine r_iload_n rfl dX12_clauses_114 rfl ?_
    refine r_imul rfl dX12_clauses_115 ?_
    refine r_eqi (y := nI (3 * k)) (show 3 * (nI k) = nI (3 * k) from pk_mul 3 k) ?_
    refine r_iconst (v := 1) rfl dX12_clauses_116 (by decide) ?_
    refine r_iadd rfl dX12_clauses_117 ?_
    refine r_eqi (y := nI ((3 * k) + 1)) (show (nI (3 * k)) + 1 = nI ((3 * k) + 1) from nI_add (3 * k) 1) ?_
    obtain ⟨g161, f162⟩ := hS158.li LI_423
    refine r_ialdv (jn := (3 * k) + 1) (v := g161 ((3 * k) + 1)) rfl dX12_clauses_118 (show 2 ≤ 423 ∧ 423 < 434 by decide) f162 (vp_in_nI (n := (3 * k) + 1) (by omega) (by omega)) (nI_clamp (n := (3 * k) + 1) (by omega)) rfl ?_
    obtain ⟨g163, f164⟩ := hS158.li LI_422
    refine m_iast rfl dX12_clauses_119 (show 2 ≤ 422 ∧ 422 < 434 by decide) hS158 hF159 (by decide) f164 (vp_in_nI (n := (6 * k) + 1) (by omega) (by omega)) (fun h165 hS166 hF167 hN168 => ?_)
    refine r_aload_n rfl dX12_clauses_120 rfl ?_
    refine r_getv 13 rfl dX12_clauses_121 (show 2 ≤ 420 ∧ 420 < 434 by decide) ((hF167 420 (by decide)).trans h5) fl_X12_17 rfl ?_
    refine r_bipush (v := 6) rfl dX12_clauses_124 (by decide) ?_
    refine r_iload_n rfl dX12_clauses_126 rfl ?_
    refine r_imul rfl dX12_clauses_127 ?_
    refine r_eqi (y := nI (6 * k)) (show 6 * (nI k) = nI (6 * k) from pk_mul 6 k) ?_
    refine r_iconst (v := 2) rfl dX12_clauses_128 (by decide) ?_
    refine r_iadd rfl dX12_clauses_129 ?_
    refine r_eqi (y := nI ((6 * k) + 2)) (show (nI (6 * k)) + 2 = nI ((6 * k) + 2) from nI_add (6 * k) 2) ?_
    refine r_aload_n rfl dX12_clauses_130 rfl ?_
    refine r_getv 14 rfl dX12_clauses_131 (show 2 ≤ 420 ∧ 420 < 434 by decide) ((hF167 420 (by decide)).trans h5) fl_X12_20 rfl ?_
    refine r_iconst (v := 3) rfl dX12_clauses_134 (by decide) ?_
    refine r_iload_n rfl dX12_clauses_135 rfl ?_
    refine r_imul rfl dX12_clauses_136 ?_
    refine r_eqi (y := nI (3 * k)) (show 3 * (nI k) = nI (3 * k) from pk_mul 3 k) ?_
    refine r_iconst (v := 2) rfl dX12_clauses_137 (by decide) ?_
    refine r_iadd rfl dX12_clauses_138 ?_
    refine r_eqi (y := nI ((3 * k) + 2)) (show (nI (3 * k)) + 2 = nI ((3 * k) + 2) from nI_add (3 * k) 2) ?_
    obtain ⟨g169, f170⟩ := hS166.li LI_423
    refine r_ialdv (jn := (3 * k) + 2) (v := g169 ((3 * k) + 2)) rfl dX12_clauses_139 (show 2 ≤ 423 ∧ 423 < 434 by decide) f170 (vp_in_nI (n := (3 * k) + 2) (by omega) (by omega)) (nI_clamp (n := (3 * k) + 2) (by omega)) rfl ?_
    obtain ⟨g171, f172⟩ := hS166.li LI_422
    refine m_iast rfl dX12_clauses_140 (show 2 ≤ 422 ∧ 422 < 434 by decide) hS166 hF167 (by decide) f172 (vp_in_nI (n := (6 * k) + 2) (by omega) (by omega)) (fun h173 hS174 hF175 hN176 => ?_)
    refine r_aload_n rfl dX12_clauses_141 rfl ?_
    refine r_getv 13 rfl dX12_clauses_142 (show 2 ≤ 420 ∧ 420 < 434 by decide) ((hF175 420 (by decide)).trans h5) fl_X12_17 rfl ?_
    refine r_bipush (v := 6) rfl dX12_clauses_145 (by decide) ?_
    refine r_iload_n rfl dX12_clauses_147 rfl ?_
    refine r_imul rfl dX12_clauses_148 ?_
    refine r_eqi (y := nI (6 * k)) (show 6 * (nI k) = nI (6 * k) from pk_mul 6 k) ?_
    refine r_iconst (v := 3) rfl dX12_clauses_149 (by decide) ?_
    refine r_iadd rfl dX12_clauses_150 ?_
    refine r_eqi (y := nI ((6 * k) + 3)) (show (nI (6 * k)) + 3 = nI ((6 * k) + 3) from nI_add (6 * k) 3) ?_
    refine r_bipush (v := (-9)) rfl dX12_clauses_151 (by decide) ?_
    obtain ⟨g177, f178⟩ := hS174.li LI_422
    refine m_iast rfl dX12_clauses_153 (show 2 ≤ 422 ∧ 422 < 434 by decide) hS174 hF175 (by decide) f178 (vp_in_nI (n := (6 * k) + 3) (by omega) (by omega)) (fun h179 hS180 hF181 hN182 => ?_)
    refine r_aload_n rfl dX12_clauses_154 rfl ?_
    refine r_getv 13 rfl dX12_clauses_155 (show 2 ≤ 420 ∧ 420 < 434 by decide) ((hF181 420 (by decide)).trans h5) fl_X12_17 rfl ?_
    refine r_bipush (v := 6) rfl dX12_clauses_158 (by decide) ?_
    refine r_iload_n rfl dX12_clauses_160 rfl ?_
    refine r_imul rfl dX12_clauses_161 ?_
    refine r_eqi (y := nI (6 * k)) (show 6 * (nI k) = nI (6 * k) from pk_mul 6 k) ?_
    refine r_iconst (v := 4) rfl dX12_clauses_162 (by decide) ?_
    refine r_iadd rfl dX12_clauses_163 ?_
    refine r_eqi (y := nI ((6 * k) + 4)) (show (nI (6 * k)) + 4 = nI ((6 * k) + 4) from nI_add (6 * k) 4) ?_
    refine r_bipush (v := (-9)) rfl dX12_clauses_164 (by decide) ?_
    obtain ⟨g183, f184⟩ := hS180.li LI_422
    refine m_iast rfl dX12_clauses_166 (show 2 ≤ 422 ∧ 422 < 434 by decide) hS180 hF181 (by decide) f184 (vp_in_nI (n := (6 * k) + 4) (by omega) (by omega)) (fun h185 hS186 hF187 hN188 => ?_)
    refine r_aload_n rfl dX12_clauses_167 rfl ?_
    refine r_getv 13 rfl dX12_clauses_168 (show 2 ≤ 420 ∧ 420 < 434 by decide) ((hF187 420 (by decide)).trans h5) fl_X12_17 rfl ?_
    refine r_bipush (v := 6) rfl dX12_clauses_171 (by decide) ?_
    refine r_iload_n rfl dX12_clauses_173 rfl ?_
    refine r_imul rfl dX12_clauses_174 ?_
    refine r_eqi (y := nI (6 * k)) (show 6 * (nI k) = nI (6 * k) from pk_mul 6 k) ?_
    refine r_iconst (v := 5) rfl dX12_clauses_175 (by decide) ?_
    refine r_iadd rfl dX12_clauses_176 ?_
    refine r_eqi (y := nI ((6 * k) + 5)) (show (nI (6 * k)) + 5 = nI ((6 * k) + 5) from nI_add (6 * k) 5) ?_
    refine r_bipush (v := (-9)) rfl dX12_clauses_177 (by decide) ?_
    obtain ⟨g189, f190⟩ := hS186.li LI_422
    refine m_iast rfl dX12_clauses_179 (show 2 ≤ 422 ∧ 422 < 434 by decide) hS186 hF187 (by decide) f190 (vp_in_nI (n := (6 * k) + 5) (by omega) (by omega)) (fun h191 hS192 hF193 hN194 => ?_)
    refine r_iinc (y := nI (k + 1)) (ls' := [some (.ref 420), some (.int (nI c)), some (.int (nI (k + 1)))]) rfl dX12_clauses_180 rfl (nI_1 k) (Nat.le_of_ble_eq_true rfl) rfl ?_
    refine r_goto (pc' := 77) rfl dX12_clauses_183 ?_
    exact ih (k + 1) (by omega) h191 hS192 hF193  hK
set_option maxRecDepth 20000 in
set_option maxHeartbeats 1000000 in
theorem lp_X12_clauses_214 {xs : Nat → Int32} {L d : Nat} {Q : ev_Q} {th : Int32} {tr : Int64} {nx tk pl va : Int32} {c : Nat} {h0 : ev_H} (h5 : h0 420 = c420 th tr 0 nx tk pl va (-1) (nI c) 0 0 (-9)) (hc : c ≤ 16) : ∀ (n k : Nat), k + n = 4 → ∀ (h : ev_H) (hS : SH h) (hF : KM [422, 425, 426, 427, 428, 429, 430, 431] h0 h)  (hK : ∀ (h : ev_H) (hS : SH h) (hF : KM [422, 425, 426, 427, 428, 429, 430, 431] h0 h) (kx : Int32) , EV xs L (d + 3) 0 0 M_X12_clauses 434 h 232 [some (.ref 420), some (.int (nI c)), some (.int kx)] [] Q), EV xs L (d + 3) 0 0 M_X12_clauses 434 h 214 [some (.ref 420), some (.int (nI c)), some (.int (nI k))] [] Q := by
  intro n
  induction n with
  | zero =>
    intro k hk h hS hF  hK
    refine r_iload_n rfl dX12_clauses_214 rfl ?_
    refine r_iconst (v := 4) rfl dX12_clauses_215 (by decide) ?_
    refine r_icmp_ge (tgt := 232) rfl rfl dX12_clauses_216 (fun _ => ?_) (fun zc => absurd (show 4 ≤ nI k from nI_le (a := 4) (b := k) (by omega) (by omega)) zc)
    exact hK h hS hF (nI k) 
  | succ n ih =>
    intro k hk h hS hF  hK
    refine r_iload_n rfl dX12_clauses_214 rfl ?_
    refine r_iconst (v := 4) rfl dX12_clauses_215 (by decide) ?_
    refine r_icmp_ge (tgt := 232) rfl rfl dX12_clauses_216 (fun zc => absurd zc (show ¬ 4 ≤ nI k from nI_ge (a := k) (b := 4) (by omega) (by omega))) (fun _ => ?_)
    refine r_aload_n rfl dX12_clauses_219 rfl ?_
    refine r_getv 22 rfl dX12_clauses_220 (show 2 ≤ 420 ∧ 420 < 434 by decide) ((hF 420 (by decide)).trans h5) fl_X12_45 rfl ?_
    refine r_iload_n rfl dX12_clauses_223 rfl ?_
    refine r_lconst (v := 0) rfl dX12_clauses_224 (by decide) ?_
    obtain ⟨g179, f180⟩ := hS.la LA_431
    refine m_last rfl dX12_clauses_225 (show 2 ≤ 431 ∧ 431 < 434 by decide) hS hF (by decide) f180 (vp_in_nI (n := k) (by omega) (by omega)) (fun h181 hS182 hF183 hN184 => ?_)
    refine r_iinc (y := nI (k + 1)) (ls' := [some (.ref 420), some (.int (nI c)), some (.int (nI (k + 1)))]) rfl dX12_clauses_226 rfl (nI_1 k) (Nat.le_of_ble_eq_true rfl) rfl ?_
    refine r_goto (pc' := 214) rfl dX12_clauses_229 ?_
    exact ih (k + 1) (by omega) h181 hS182 hF183  hK
set_option maxRecDepth 20000 in
set_option maxHeartbeats 1000000 in
theorem lp_X12_clauses_234 {xs : Nat → Int32} {L d : Nat} {Q : ev_Q} {th : Int32} {tr : Int64} {nx tk pl va : Int32} {c : Nat} {h0 : ev_H} (h5 : h0 420 = c420 th tr 0 nx tk pl va (-1) (nI c) 0 0 (-9)) (hc : c ≤ 16) : ∀ (n k : Nat), k + n = c → ∀ (h : ev_H) (hS : SH h) (hF : KM [422, 425, 426, 427, 428, 429, 430, 431] h0 h)  (hK : ∀ (h : ev_H) (hS : SH h) (hF : KM [422, 425, 426, 427, 428, 429, 430, 431] h0 h) (kx : Int32) , EV xs L (d + 3) 0 0 M_X12_clauses 434 h 258 [some (.ref 420), some (.int (nI c)), some (.int kx)] [] Q), EV xs L (d + 3) 0 0 M_X12_clauses 434 h 234 [some (.ref 420), some (.int (nI c)), some (.int (nI k))] [] Q := by
  intro n
  induction n with
  | zero =>
    intro k hk h hS hF  hK
    refine r_iload_n rfl dX12_clauses_234 rfl ?_
    refine r_aload_n rfl dX12_clauses_235 rfl ?_
    refine r_getv 9 rfl dX12_clauses_236 (show 2 ≤ 420 ∧ 420 < 434 by decide) ((hF 420 (by decide)).trans h5) fl_X12_112 rfl ?_
    refine r_icmp_ge (tgt := 258) rfl rfl dX12_clauses_239 (fun _ => ?_) (fun zc => absurd (show (nI c) ≤ nI k from nI_le (a := c) (b := k) (by omega) (by omega)) zc)
    exact hK h hS hF (nI k) 
  | succ n ih =>
    intro k hk h hS hF  hK
    refine r_iload_n rfl dX12_clauses_234 rfl ?_
    refine r_aload_n rfl dX12_clauses_235 rfl ?_
    refine r_getv 9 rfl dX12_clauses_236 (show 2 ≤ 420 ∧ 420 < 434 by decide) ((hF 420 (by decide)).trans h5) fl_X12_112 rfl ?_
    refine r_icmp_ge (tgt := 258) rfl rfl dX12_clauses_239 (fun zc => absurd zc (show ¬ (nI c) ≤ nI k from nI_ge (a := k) (b := c) (by omega) (by omega))) (fun _ => ?_)
    refine r_aload_n rfl dX12_clauses_242 rfl ?_
    refine r_iload_n rfl dX12_clauses_243 rfl ?_
    refine cl_X12_121 rfl rfl dX12_clauses_244 (show 2 ≤ 420 ∧ 420 < 434 by decide).1 (show 2 ≤ 420 ∧ 420 < 434 by decide).2 ((hF 420 (by decide)).trans h5) (Nat.le_of_ble_eq_true rfl) (s_X12_holding (i := k) (m := 0) hS ((hF 420 (by decide)).trans h5) hc (by omega) (by omega)) ?_
    rintro _ h185 _ ⟨rfl, hS186, hK187, rfl⟩
    have hF188 := KM_tr hF (KM_sb (by decide) hK187)
    refine r_aload_n rfl dX12_clauses_247 rfl ?_
    refine r_iload_n rfl dX12_clauses_248 rfl ?_
    refine cl_X12_124 rfl rfl dX12_clauses_249 (show 2 ≤ 420 ∧ 420 < 434 by decide).1 (show 2 ≤ 420 ∧ 420 < 434 by decide).2 ((hF188 420 (by decide)).trans h5) (Nat.le_of_ble_eq_true rfl) (s_X12_beginning (i := k) (m := 0) hS186 ((hF188 420 (by decide)).trans h5) hc (by omega) (by omega)) ?_
    rintro _ h189 _ ⟨rfl, hS190, hK191, rfl⟩
    have hF192 := KM_tr hF188 (KM_sb (by decide) hK191)
    refine r_iinc (y := nI (k + 1)) (ls' := [some (.ref 420), some (.int (nI c)), some (.int (nI (k + 1)))]) rfl dX12_clauses_252 rfl (nI_1 k) (Nat.le_of_ble_eq_true rfl) rfl ?_
    refine r_goto (pc' := 234) rfl dX12_clauses_255 ?_
    exact ih (k + 1) (by omega) h189 hS190 hF192  hK
set_option maxRecDepth 20000 in
set_option maxHeartbeats 1000000 in
theorem s_X12_clauses_tail {xs : Nat → Int32} {L d : Nat} {h : ev_H} {th : Int32} {tr : Int64} {ty nx tk pl va cl md ss wg : Int32} {c : Nat} (hS : SH h) (h5 : h 420 = c420 th tr ty nx tk pl va (-1) cl md ss wg) (hc : c ≤ 16) : EV xs L (d + 3) 0 0 M_X12_clauses 434 h 60 [some (.ref 420), some (.int (nI c)), none] [] (fun sz' h' r => sz' = 434 ∧ SH h' ∧ KM [420, 422, 425, 426, 427, 428, 429, 430, 431] h h' ∧ r = [.int (nI c)] ∧ h' 420 = c420 th tr 0 nx tk pl va (-1) (nI c) 0 0 (-9)) := by
  refine r_aload_n rfl dX12_clauses_60 rfl ?_
  refine cl_X12_92 rfl rfl dX12_clauses_61 (show 2 ≤ 420 ∧ 420 < 434 by decide).1 (show 2 ≤ 420 ∧ 420 < 434 by decide).2 h5 (Nat.le_of_ble_eq_true rfl) (s_X12_isWell1 hS h5) ?_
  rintro _ h51 _ ⟨rfl, e52, rfl⟩
  replace e52 := e52.symm
  subst e52
  refine r_if_ne (tgt := 75) rfl rfl dX12_clauses_64 (fun _ => ?_) (fun zc => absurd zc (by decide))
  refine r_iconst (v := 0) rfl dX12_clauses_75 (by decide) ?_
  refine r_istore_n (ls' := [some (.ref 420), some (.int (nI c)), some (.int 0)]) rfl dX12_clauses_76 (Nat.le_of_ble_eq_true rfl) rfl ?_
  refine lp_X12_clauses_77 h5 hc (c - 0) 0 (by omega) h hS (KM_rf _)  ?_
  intro h54 hS55 hK56 kx53 
  have hF57 := KM_tr (KM_rf (Mod := [420, 422, 425, 426, 427, 428, 429, 430, 431]) h) (KM_sb (by decide) hK56)
  have f58 : h54 420 = c420 th tr ty nx tk pl va (-1) cl md ss wg := (hK56 420 (by decide)).trans h5
  refine r_aload_n rfl dX12_clauses_186 rfl ?_
  refine r_iload_n rfl dX12_clauses_187 rfl ?_
  refine m_put 9 (fs' := [.int th, .long tr, .ref 421, .int ty, .int nx, .int tk, .int pl, .int va, .int (-1), .int (nI c), .int md, .int ss, .int wg, .ref 422, .ref 423, .ref 424, .ref 425, .ref 426, .ref 427, .ref 428, .ref 429, .ref 430, .ref 431, .ref 432, .ref 433]) rfl dX12_clauses_188 hS55 hF57 (by decide) f58 (fp_X12_112 rfl _) (Nat.le_of_ble_eq_true rfl) rfl (fun h59 hS60 hF61 f62 => ?_)
  refine r_aload_n rfl dX12_clauses_191 rfl ?_
  refine r_iconst (v := 0) rfl dX12_clauses_192 (by decide) ?_
  refine m_put 10 (fs' := [.int th, .long tr, .ref 421, .int ty, .int nx, .int tk, .int pl, .int va, .int (-1), .int (nI c), .int 0, .int ss, .int wg, .ref 422, .ref 423, .ref 424, .ref 425, .ref 426, .ref 427, .ref 428, .ref 429, .ref 430, .ref 431, .ref 432, .ref 433]) rfl dX12_clauses_193 hS60 hF61 (by decide) f62 (fp_X12_115 rfl _) (Nat.le_of_ble_eq_true rfl) rfl (fun h63 hS64 hF65 f66 => ?_)
  refine r_aload_n rfl dX12_clauses_196 rfl ?_
  refine r_iconst (v := 0) rfl dX12_clauses_197 (by decide) ?_
  refine m_put 11 (fs' := [.int th, .long tr, .ref 421, .int ty, .int nx, .int tk, .int pl, .int va, .int (-1), .int (nI c), .int 0, .int 0, .int wg, .ref 422, .ref 423, .ref 424, .ref 425, .ref 426, .ref 427, .ref 428, .ref 429, .ref 430, .ref 431, .ref 432, .ref 433]) rfl dX12_clauses_198 hS64 hF65 (by decide) f66 (fp_X12_118 rfl _) (Nat.le_of_ble_eq_true rfl) rfl (fun h67 hS68 hF69 f70 => ?_)
  refine r_aload_n rfl dX12_clauses_201 rfl ?_
  refine r_bipush (v := (-9)) rfl dX12_clauses_202 (by decide) ?_
  refine m_put 12 (fs' := [.int th, .long tr, .ref 421, .int ty, .int nx, .int tk, .int pl, .int va, .int (-1), .int (nI c), .int 0, .int 0, .int (-9), .ref 422, .ref 423, .ref 424, .ref 425, .ref 426, .ref 427, .ref 428, .ref 429, .ref 430, .ref 431, .ref 432, .ref 433]) rfl dX12_clauses_204 hS68 hF69 (by decide) f70 (fp_X12_13 rfl _) (Nat.le_of_ble_eq_true rfl) rfl (fun h71 hS72 hF73 f74 => ?_)
  refine r_aload_n rfl dX12_clauses_207 rfl ?_
  refine r_iconst (v := 0) rfl dX12_clauses_208 (by decide) ?_
  refine m_put 3 (fs' := [.int th, .long tr, .ref 421, .int 0, .int nx, .int tk, .int pl, .int va, .int (-1), .int (nI c), .int 0, .int 0, .int (-9), .ref 422, .ref 423, .ref 424, .ref 425, .ref 426, .ref 427, .ref 428, .ref 429, .ref 430, .ref 431, .ref 432, .ref 433]) rfl dX12_clauses_209 hS72 hF73 (by decide) f74 (fp_X12_64 rfl _) (Nat.le_of_ble_eq_true rfl) rfl (fun h75 hS76 hF77 f78 => ?_)
  refine r_iconst (v := 0) rfl dX12_clauses_212 (by decide) ?_
  refine r_istore_n (ls' := [some (.ref 420), some (.int (nI c)), some (.int 0)]) rfl dX12_clauses_213 (Nat.le_of_ble_eq_true rfl) rfl ?_
  refine lp_X12_clauses_214 f78 hc (4 - 0) 0 (by omega) h75 hS76 (KM_rf _)  ?_
  intro h80 hS81 hK82 kx79 
  have hF83 := KM_tr hF77 (KM_sb (by decide) hK82)
  have f84 : h80 420 = c420 th tr 0 nx tk pl va (-1) (nI c) 0 0 (-9) := (hK82 420 (by decide)).trans f78
  refine r_iconst (v := 0) rfl dX12_clauses_232 (by decide) ?_
  refine r_istore_n (ls' := [some (.ref 420), some (.int (nI c)), some (.int 0)]) rfl dX12_clauses_233 (Nat.le_of_ble_eq_true rfl) rfl ?_
  refine lp_X12_clauses_234 f84 hc (c - 0) 0 (by omega) h80 hS81 (KM_rf _)  ?_
  intro h86 hS87 hK88 kx85 
  have hF89 := KM_tr hF83 (KM_sb (by decide) hK88)
  have f90 : h86 420 = c420 th tr 0 nx tk pl va (-1) (nI c) 0 0 (-9) := (hK88 420 (by decide)).trans f84
  refine r_aload_n rfl dX12_clauses_258 rfl ?_
  refine cl_X12_54 rfl rfl dX12_clauses_259 (show 2 ≤ 420 ∧ 420 < 434 by decide).1 (show 2 ≤ 420 ∧ 420 < 434 by decide).2 f90 (Nat.le_of_ble_eq_true rfl) (s_X12_bounds (m := 0) hS87 f90 hc (by omega)) ?_
  rintro _ h91 _ ⟨rfl, hS92, hK93, rfl⟩
  have hF94 := KM_tr hF89 (KM_sb (by decide) hK93)
  have f95 : h91 420 = c420 th tr 0 nx tk pl va (-1) (nI c) 0 0 (-9) := (hK93 420 (by decide)).trans f90
  refine r_aload_n rfl dX12_clauses_262 rfl ?_
  refine r_getv 9 rfl dX12_clauses_263 (show 2 ≤ 420 ∧ 420 < 434 by decide) f95 fl_X12_112 rfl ?_
  exact r_ret dX12_clauses_266 (rt_i rfl) ⟨rfl, hS92, hF94, rfl, f95⟩
