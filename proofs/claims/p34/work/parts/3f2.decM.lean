theorem dL_town_0 : decode cL_town 0 = .ok (.aload_n 1, 1) := by decide +kernel
theorem dL_town_1 : decode cL_town 1 = .ok (.arraylength, 1) := by decide +kernel
theorem dL_town_2 : decode cL_town 2 = .ok (.ifCond .ne 7, 3) := by decide +kernel
theorem dL_town_5 : decode cL_town 5 = .ok (.iconst 0, 1) := by decide +kernel
theorem dL_town_6 : decode cL_town 6 = .ok (.goto 6, 3) := by decide +kernel
theorem dL_town_9 : decode cL_town 9 = .ok (.aload_n 1, 1) := by decide +kernel
theorem dL_town_10 : decode cL_town 10 = .ok (.iconst 0, 1) := by decide +kernel
theorem dL_town_11 : decode cL_town 11 = .ok (.iaload, 1) := by decide +kernel
theorem dL_town_12 : decode cL_town 12 = .ok (.istore_n 3, 1) := by decide +kernel
theorem dL_town_13 : decode cL_town 13 = .ok (.iconst 0, 1) := by decide +kernel
theorem dL_town_14 : decode cL_town 14 = .ok (.istore 4, 2) := by decide +kernel
theorem dL_town_16 : decode cL_town 16 = .ok (.iload 4, 2) := by decide +kernel
theorem dL_town_18 : decode cL_town 18 = .ok (.iconst 4, 1) := by decide +kernel
theorem dL_town_19 : decode cL_town 19 = .ok (.if_icmp .ge 87, 3) := by decide +kernel
theorem dL_town_22 : decode cL_town 22 = .ok (.iconst 0, 1) := by decide +kernel
theorem dL_town_23 : decode cL_town 23 = .ok (.istore 5, 2) := by decide +kernel
theorem dL_town_25 : decode cL_town 25 = .ok (.iload 5, 2) := by decide +kernel
theorem dL_town_27 : decode cL_town 27 = .ok (.bipush 16, 2) := by decide +kernel
theorem dL_town_29 : decode cL_town 29 = .ok (.if_icmp .ge 35, 3) := by decide +kernel
theorem dL_town_32 : decode cL_town 32 = .ok (.aload_n 0, 1) := by decide +kernel
theorem dL_town_33 : decode cL_town 33 = .ok (.iload 4, 2) := by decide +kernel
theorem dL_town_35 : decode cL_town 35 = .ok (.iload 5, 2) := by decide +kernel
theorem dL_town_37 : decode cL_town 37 = .ok (.bipush 16, 2) := by decide +kernel
theorem dL_town_39 : decode cL_town 39 = .ok (.iload 5, 2) := by decide +kernel
theorem dL_town_41 : decode cL_town 41 = .ok (.iload 4, 2) := by decide +kernel
theorem dL_town_43 : decode cL_town 43 = .ok (.iconst 2, 1) := by decide +kernel
theorem dL_town_44 : decode cL_town 44 = .ok (.if_icmp .ge 7, 3) := by decide +kernel
theorem dL_town_47 : decode cL_town 47 = .ok (.iconst 2, 1) := by decide +kernel
theorem dL_town_48 : decode cL_town 48 = .ok (.goto 4, 3) := by decide +kernel
theorem dL_town_51 : decode cL_town 51 = .ok (.iconst 4, 1) := by decide +kernel
theorem dL_town_52 : decode cL_town 52 = .ok (.idiv, 1) := by decide +kernel
theorem dL_town_53 : decode cL_town 53 = .ok (.iadd, 1) := by decide +kernel
theorem dL_town_54 : decode cL_town 54 = .ok (.invokevirtual 7, 3) := by decide +kernel
theorem dL_town_57 : decode cL_town 57 = .ok (.pop, 1) := by decide +kernel
theorem dL_town_58 : decode cL_town 58 = .ok (.iinc 5 1, 3) := by decide +kernel
theorem dL_town_61 : decode cL_town 61 = .ok (.goto (-36), 3) := by decide +kernel
theorem dL_town_64 : decode cL_town 64 = .ok (.bipush 16, 2) := by decide +kernel
theorem dL_town_66 : decode cL_town 66 = .ok (.istore 5, 2) := by decide +kernel
theorem dL_town_68 : decode cL_town 68 = .ok (.iload 5, 2) := by decide +kernel
theorem dL_town_70 : decode cL_town 70 = .ok (.bipush 24, 2) := by decide +kernel
theorem dL_town_72 : decode cL_town 72 = .ok (.if_icmp .ge 28, 3) := by decide +kernel
theorem dL_town_75 : decode cL_town 75 = .ok (.aload_n 0, 1) := by decide +kernel
theorem dL_town_76 : decode cL_town 76 = .ok (.iload 4, 2) := by decide +kernel
theorem dL_town_78 : decode cL_town 78 = .ok (.iload 5, 2) := by decide +kernel
theorem dL_town_80 : decode cL_town 80 = .ok (.bipush 24, 2) := by decide +kernel
theorem dL_town_82 : decode cL_town 82 = .ok (.iload 5, 2) := by decide +kernel
theorem dL_town_84 : decode cL_town 84 = .ok (.bipush 16, 2) := by decide +kernel
theorem dL_town_86 : decode cL_town 86 = .ok (.isub, 1) := by decide +kernel
theorem dL_town_87 : decode cL_town 87 = .ok (.iconst 4, 1) := by decide +kernel
theorem dL_town_88 : decode cL_town 88 = .ok (.idiv, 1) := by decide +kernel
theorem dL_town_89 : decode cL_town 89 = .ok (.iadd, 1) := by decide +kernel
theorem dL_town_90 : decode cL_town 90 = .ok (.invokevirtual 7, 3) := by decide +kernel
theorem dL_town_93 : decode cL_town 93 = .ok (.pop, 1) := by decide +kernel
theorem dL_town_94 : decode cL_town 94 = .ok (.iinc 5 1, 3) := by decide +kernel
theorem dL_town_97 : decode cL_town 97 = .ok (.goto (-29), 3) := by decide +kernel
theorem dL_town_100 : decode cL_town 100 = .ok (.iinc 4 1, 3) := by decide +kernel
theorem dL_town_103 : decode cL_town 103 = .ok (.goto (-87), 3) := by decide +kernel
theorem dL_town_106 : decode cL_town 106 = .ok (.iconst 0, 1) := by decide +kernel
theorem dL_town_107 : decode cL_town 107 = .ok (.istore 4, 2) := by decide +kernel
theorem dL_town_109 : decode cL_town 109 = .ok (.iload 4, 2) := by decide +kernel
theorem dL_town_111 : decode cL_town 111 = .ok (.bipush 7, 2) := by decide +kernel
theorem dL_town_113 : decode cL_town 113 = .ok (.if_icmp .ge 125, 3) := by decide +kernel
theorem dL_town_116 : decode cL_town 116 = .ok (.iload 4, 2) := by decide +kernel
theorem dL_town_118 : decode cL_town 118 = .ok (.iconst 1, 1) := by decide +kernel
theorem dL_town_119 : decode cL_town 119 = .ok (.iadd, 1) := by decide +kernel
theorem dL_town_120 : decode cL_town 120 = .ok (.aload_n 1, 1) := by decide +kernel
theorem dL_town_121 : decode cL_town 121 = .ok (.arraylength, 1) := by decide +kernel
theorem dL_town_122 : decode cL_town 122 = .ok (.if_icmp .ge 12, 3) := by decide +kernel
theorem dL_town_125 : decode cL_town 125 = .ok (.aload_n 1, 1) := by decide +kernel
theorem dL_town_126 : decode cL_town 126 = .ok (.iload 4, 2) := by decide +kernel
theorem dL_town_128 : decode cL_town 128 = .ok (.iconst 1, 1) := by decide +kernel
theorem dL_town_129 : decode cL_town 129 = .ok (.iadd, 1) := by decide +kernel
theorem dL_town_130 : decode cL_town 130 = .ok (.iaload, 1) := by decide +kernel
theorem dL_town_131 : decode cL_town 131 = .ok (.goto 10, 3) := by decide +kernel
theorem dL_town_134 : decode cL_town 134 = .ok (.bipush 91, 2) := by decide +kernel
theorem dL_town_136 : decode cL_town 136 = .ok (.iload 4, 2) := by decide +kernel
theorem dL_town_138 : decode cL_town 138 = .ok (.imul, 1) := by decide +kernel
theorem dL_town_139 : decode cL_town 139 = .ok (.iload_n 3, 1) := by decide +kernel
theorem dL_town_140 : decode cL_town 140 = .ok (.iadd, 1) := by decide +kernel
theorem dL_town_141 : decode cL_town 141 = .ok (.istore 5, 2) := by decide +kernel
theorem dL_town_143 : decode cL_town 143 = .ok (.iconst 0, 1) := by decide +kernel
theorem dL_town_144 : decode cL_town 144 = .ok (.istore 6, 2) := by decide +kernel
theorem dL_town_146 : decode cL_town 146 = .ok (.iload 6, 2) := by decide +kernel
theorem dL_town_148 : decode cL_town 148 = .ok (.iconst 4, 1) := by decide +kernel
theorem dL_town_149 : decode cL_town 149 = .ok (.if_icmp .ge 48, 3) := by decide +kernel
theorem dL_town_152 : decode cL_town 152 = .ok (.aload_n 2, 1) := by decide +kernel
theorem dL_town_153 : decode cL_town 153 = .ok (.iconst 4, 1) := by decide +kernel
theorem dL_town_154 : decode cL_town 154 = .ok (.iload 4, 2) := by decide +kernel
theorem dL_town_156 : decode cL_town 156 = .ok (.imul, 1) := by decide +kernel
theorem dL_town_157 : decode cL_town 157 = .ok (.iload 6, 2) := by decide +kernel
theorem dL_town_159 : decode cL_town 159 = .ok (.iadd, 1) := by decide +kernel
theorem dL_town_160 : decode cL_town 160 = .ok (.iload 5, 2) := by decide +kernel
theorem dL_town_162 : decode cL_town 162 = .ok (.iconst 4, 1) := by decide +kernel
theorem dL_town_163 : decode cL_town 163 = .ok (.iload 6, 2) := by decide +kernel
theorem dL_town_165 : decode cL_town 165 = .ok (.imul, 1) := by decide +kernel
theorem dL_town_166 : decode cL_town 166 = .ok (.ishr, 1) := by decide +kernel
theorem dL_town_167 : decode cL_town 167 = .ok (.iload 6, 2) := by decide +kernel
theorem dL_town_169 : decode cL_town 169 = .ok (.ifCond .ne 8, 3) := by decide +kernel
theorem dL_town_172 : decode cL_town 172 = .ok (.bipush 15, 2) := by decide +kernel
theorem dL_town_174 : decode cL_town 174 = .ok (.goto 15, 3) := by decide +kernel
theorem dL_town_177 : decode cL_town 177 = .ok (.iload 6, 2) := by decide +kernel
theorem dL_town_179 : decode cL_town 179 = .ok (.iconst 1, 1) := by decide +kernel
theorem dL_town_180 : decode cL_town 180 = .ok (.if_icmp .ne 8, 3) := by decide +kernel
theorem dL_town_183 : decode cL_town 183 = .ok (.bipush 7, 2) := by decide +kernel
theorem dL_town_185 : decode cL_town 185 = .ok (.goto 4, 3) := by decide +kernel
theorem dL_town_188 : decode cL_town 188 = .ok (.iconst 3, 1) := by decide +kernel
theorem dL_town_189 : decode cL_town 189 = .ok (.iand, 1) := by decide +kernel
theorem dL_town_190 : decode cL_town 190 = .ok (.iastore, 1) := by decide +kernel
theorem dL_town_191 : decode cL_town 191 = .ok (.iinc 6 1, 3) := by decide +kernel
theorem dL_town_194 : decode cL_town 194 = .ok (.goto (-48), 3) := by decide +kernel
theorem dL_town_197 : decode cL_town 197 = .ok (.aload_n 0, 1) := by decide +kernel
theorem dL_town_198 : decode cL_town 198 = .ok (.aload_n 2, 1) := by decide +kernel
theorem dL_town_199 : decode cL_town 199 = .ok (.iconst 4, 1) := by decide +kernel
theorem dL_town_200 : decode cL_town 200 = .ok (.iload 4, 2) := by decide +kernel
theorem dL_town_202 : decode cL_town 202 = .ok (.imul, 1) := by decide +kernel
theorem dL_town_203 : decode cL_town 203 = .ok (.iaload, 1) := by decide +kernel
theorem dL_town_204 : decode cL_town 204 = .ok (.aload_n 2, 1) := by decide +kernel
theorem dL_town_205 : decode cL_town 205 = .ok (.iconst 4, 1) := by decide +kernel
theorem dL_town_206 : decode cL_town 206 = .ok (.iload 4, 2) := by decide +kernel
theorem dL_town_208 : decode cL_town 208 = .ok (.imul, 1) := by decide +kernel
theorem dL_town_209 : decode cL_town 209 = .ok (.iconst 1, 1) := by decide +kernel
theorem dL_town_210 : decode cL_town 210 = .ok (.iadd, 1) := by decide +kernel
theorem dL_town_211 : decode cL_town 211 = .ok (.iaload, 1) := by decide +kernel
theorem dL_town_212 : decode cL_town 212 = .ok (.aload_n 2, 1) := by decide +kernel
theorem dL_town_213 : decode cL_town 213 = .ok (.iconst 4, 1) := by decide +kernel
theorem dL_town_214 : decode cL_town 214 = .ok (.iload 4, 2) := by decide +kernel
theorem dL_town_216 : decode cL_town 216 = .ok (.imul, 1) := by decide +kernel
theorem dL_town_217 : decode cL_town 217 = .ok (.iconst 2, 1) := by decide +kernel
theorem dL_town_218 : decode cL_town 218 = .ok (.iadd, 1) := by decide +kernel
theorem dL_town_219 : decode cL_town 219 = .ok (.iaload, 1) := by decide +kernel
theorem dL_town_220 : decode cL_town 220 = .ok (.aload_n 2, 1) := by decide +kernel
theorem dL_town_221 : decode cL_town 221 = .ok (.iconst 4, 1) := by decide +kernel
theorem dL_town_222 : decode cL_town 222 = .ok (.iload 4, 2) := by decide +kernel
theorem dL_town_224 : decode cL_town 224 = .ok (.imul, 1) := by decide +kernel
theorem dL_town_225 : decode cL_town 225 = .ok (.iconst 3, 1) := by decide +kernel
theorem dL_town_226 : decode cL_town 226 = .ok (.iadd, 1) := by decide +kernel
theorem dL_town_227 : decode cL_town 227 = .ok (.iaload, 1) := by decide +kernel
theorem dL_town_228 : decode cL_town 228 = .ok (.invokevirtual 13, 3) := by decide +kernel
theorem dL_town_231 : decode cL_town 231 = .ok (.pop, 1) := by decide +kernel
theorem dL_town_232 : decode cL_town 232 = .ok (.iinc 4 1, 3) := by decide +kernel
theorem dL_town_235 : decode cL_town 235 = .ok (.goto (-126), 3) := by decide +kernel
theorem dL_town_238 : decode cL_town 238 = .ok (.iconst 2, 1) := by decide +kernel
theorem dL_town_239 : decode cL_town 239 = .ok (.iload_n 3, 1) := by decide +kernel
theorem dL_town_240 : decode cL_town 240 = .ok (.iconst 3, 1) := by decide +kernel
theorem dL_town_241 : decode cL_town 241 = .ok (.iand, 1) := by decide +kernel
theorem dL_town_242 : decode cL_town 242 = .ok (.iadd, 1) := by decide +kernel
theorem dL_town_243 : decode cL_town 243 = .ok (.istore 4, 2) := by decide +kernel
theorem dL_town_245 : decode cL_town 245 = .ok (.iconst 4, 1) := by decide +kernel
theorem dL_town_246 : decode cL_town 246 = .ok (.newarray .int, 2) := by decide +kernel
theorem dL_town_248 : decode cL_town 248 = .ok (.dup, 1) := by decide +kernel
theorem dL_town_249 : decode cL_town 249 = .ok (.iconst 0, 1) := by decide +kernel
theorem dL_town_250 : decode cL_town 250 = .ok (.iconst 1, 1) := by decide +kernel
theorem dL_town_251 : decode cL_town 251 = .ok (.iload_n 3, 1) := by decide +kernel
theorem dL_town_252 : decode cL_town 252 = .ok (.iconst 2, 1) := by decide +kernel
theorem dL_town_253 : decode cL_town 253 = .ok (.ishr, 1) := by decide +kernel
theorem dL_town_254 : decode cL_town 254 = .ok (.iconst 1, 1) := by decide +kernel
theorem dL_town_255 : decode cL_town 255 = .ok (.iand, 1) := by decide +kernel
theorem dL_town_256 : decode cL_town 256 = .ok (.iadd, 1) := by decide +kernel
theorem dL_town_257 : decode cL_town 257 = .ok (.iastore, 1) := by decide +kernel
theorem dL_town_258 : decode cL_town 258 = .ok (.dup, 1) := by decide +kernel
theorem dL_town_259 : decode cL_town 259 = .ok (.iconst 1, 1) := by decide +kernel
theorem dL_town_260 : decode cL_town 260 = .ok (.iload_n 3, 1) := by decide +kernel
theorem dL_town_261 : decode cL_town 261 = .ok (.iconst 3, 1) := by decide +kernel
theorem dL_town_262 : decode cL_town 262 = .ok (.ishr, 1) := by decide +kernel
theorem dL_town_263 : decode cL_town 263 = .ok (.iconst 3, 1) := by decide +kernel
theorem dL_town_264 : decode cL_town 264 = .ok (.iand, 1) := by decide +kernel
theorem dL_town_265 : decode cL_town 265 = .ok (.iastore, 1) := by decide +kernel
theorem dL_town_266 : decode cL_town 266 = .ok (.dup, 1) := by decide +kernel
theorem dL_town_267 : decode cL_town 267 = .ok (.iconst 2, 1) := by decide +kernel
theorem dL_town_268 : decode cL_town 268 = .ok (.iconst 1, 1) := by decide +kernel
theorem dL_town_269 : decode cL_town 269 = .ok (.iload_n 3, 1) := by decide +kernel
theorem dL_town_270 : decode cL_town 270 = .ok (.iconst 5, 1) := by decide +kernel
theorem dL_town_271 : decode cL_town 271 = .ok (.ishr, 1) := by decide +kernel
theorem dL_town_272 : decode cL_town 272 = .ok (.iconst 1, 1) := by decide +kernel
theorem dL_town_273 : decode cL_town 273 = .ok (.iand, 1) := by decide +kernel
theorem dL_town_274 : decode cL_town 274 = .ok (.iadd, 1) := by decide +kernel
theorem dL_town_275 : decode cL_town 275 = .ok (.iastore, 1) := by decide +kernel
theorem dL_town_276 : decode cL_town 276 = .ok (.dup, 1) := by decide +kernel
theorem dL_town_277 : decode cL_town 277 = .ok (.iconst 3, 1) := by decide +kernel
theorem dL_town_278 : decode cL_town 278 = .ok (.iconst 2, 1) := by decide +kernel
theorem dL_town_279 : decode cL_town 279 = .ok (.iastore, 1) := by decide +kernel
theorem dL_town_280 : decode cL_town 280 = .ok (.astore 5, 2) := by decide +kernel
theorem dL_town_282 : decode cL_town 282 = .ok (.iload_n 3, 1) := by decide +kernel
theorem dL_town_283 : decode cL_town 283 = .ok (.bipush 6, 2) := by decide +kernel
theorem dL_town_285 : decode cL_town 285 = .ok (.ishr, 1) := by decide +kernel
theorem dL_town_286 : decode cL_town 286 = .ok (.bipush 7, 2) := by decide +kernel
theorem dL_town_288 : decode cL_town 288 = .ok (.iand, 1) := by decide +kernel
theorem dL_town_289 : decode cL_town 289 = .ok (.istore 6, 2) := by decide +kernel
theorem dL_town_291 : decode cL_town 291 = .ok (.iconst 0, 1) := by decide +kernel
theorem dL_town_292 : decode cL_town 292 = .ok (.istore 7, 2) := by decide +kernel
theorem dL_town_294 : decode cL_town 294 = .ok (.iconst 0, 1) := by decide +kernel
theorem dL_town_295 : decode cL_town 295 = .ok (.istore 8, 2) := by decide +kernel
theorem dL_town_297 : decode cL_town 297 = .ok (.iconst 0, 1) := by decide +kernel
theorem dL_town_298 : decode cL_town 298 = .ok (.istore 9, 2) := by decide +kernel
theorem dL_town_300 : decode cL_town 300 = .ok (.iload 9, 2) := by decide +kernel
theorem dL_town_302 : decode cL_town 302 = .ok (.iload 4, 2) := by decide +kernel
theorem dL_town_304 : decode cL_town 304 = .ok (.if_icmp .ge 106, 3) := by decide +kernel
theorem dL_town_307 : decode cL_town 307 = .ok (.iload 6, 2) := by decide +kernel
theorem dL_town_309 : decode cL_town 309 = .ok (.iload 9, 2) := by decide +kernel
theorem dL_town_311 : decode cL_town 311 = .ok (.iadd, 1) := by decide +kernel
theorem dL_town_312 : decode cL_town 312 = .ok (.bipush 7, 2) := by decide +kernel
theorem dL_town_314 : decode cL_town 314 = .ok (.irem, 1) := by decide +kernel
theorem dL_town_315 : decode cL_town 315 = .ok (.istore 10, 2) := by decide +kernel
theorem dL_town_317 : decode cL_town 317 = .ok (.aload_n 2, 1) := by decide +kernel
theorem dL_town_318 : decode cL_town 318 = .ok (.bipush 68, 2) := by decide +kernel
theorem dL_town_320 : decode cL_town 320 = .ok (.iload 9, 2) := by decide +kernel
theorem dL_town_322 : decode cL_town 322 = .ok (.iadd, 1) := by decide +kernel
theorem dL_town_323 : decode cL_town 323 = .ok (.iload 10, 2) := by decide +kernel
theorem dL_town_325 : decode cL_town 325 = .ok (.iastore, 1) := by decide +kernel
theorem dL_town_326 : decode cL_town 326 = .ok (.iload 9, 2) := by decide +kernel
theorem dL_town_328 : decode cL_town 328 = .ok (.iconst 4, 1) := by decide +kernel
theorem dL_town_329 : decode cL_town 329 = .ok (.if_icmp .ge 22, 3) := by decide +kernel
theorem dL_town_332 : decode cL_town 332 = .ok (.iload 7, 2) := by decide +kernel
theorem dL_town_334 : decode cL_town 334 = .ok (.iload 10, 2) := by decide +kernel
theorem dL_town_336 : decode cL_town 336 = .ok (.bipush 24, 2) := by decide +kernel
theorem dL_town_338 : decode cL_town 338 = .ok (.bipush 8, 2) := by decide +kernel
theorem dL_town_340 : decode cL_town 340 = .ok (.iload 9, 2) := by decide +kernel
theorem dL_town_342 : decode cL_town 342 = .ok (.imul, 1) := by decide +kernel
theorem dL_town_343 : decode cL_town 343 = .ok (.isub, 1) := by decide +kernel
theorem dL_town_344 : decode cL_town 344 = .ok (.ishl, 1) := by decide +kernel
theorem dL_town_345 : decode cL_town 345 = .ok (.ior, 1) := by decide +kernel
theorem dL_town_346 : decode cL_town 346 = .ok (.istore 7, 2) := by decide +kernel
theorem dL_town_348 : decode cL_town 348 = .ok (.goto 10, 3) := by decide +kernel
theorem dL_town_351 : decode cL_town 351 = .ok (.iload 10, 2) := by decide +kernel
theorem dL_town_353 : decode cL_town 353 = .ok (.bipush 24, 2) := by decide +kernel
theorem dL_town_355 : decode cL_town 355 = .ok (.ishl, 1) := by decide +kernel
theorem dL_town_356 : decode cL_town 356 = .ok (.istore 8, 2) := by decide +kernel
theorem dL_town_358 : decode cL_town 358 = .ok (.iconst 0, 1) := by decide +kernel
theorem dL_town_359 : decode cL_town 359 = .ok (.istore 11, 2) := by decide +kernel
theorem dL_town_361 : decode cL_town 361 = .ok (.iload 11, 2) := by decide +kernel
theorem dL_town_363 : decode cL_town 363 = .ok (.iconst 4, 1) := by decide +kernel
theorem dL_town_364 : decode cL_town 364 = .ok (.if_icmp .ge 40, 3) := by decide +kernel
theorem dL_town_367 : decode cL_town 367 = .ok (.aload_n 2, 1) := by decide +kernel
theorem dL_town_368 : decode cL_town 368 = .ok (.bipush 28, 2) := by decide +kernel
theorem dL_town_370 : decode cL_town 370 = .ok (.iconst 4, 1) := by decide +kernel
theorem dL_town_371 : decode cL_town 371 = .ok (.iload 9, 2) := by decide +kernel
theorem dL_town_373 : decode cL_town 373 = .ok (.imul, 1) := by decide +kernel
theorem dL_town_374 : decode cL_town 374 = .ok (.iadd, 1) := by decide +kernel
theorem dL_town_375 : decode cL_town 375 = .ok (.iload 11, 2) := by decide +kernel
theorem dL_town_377 : decode cL_town 377 = .ok (.iadd, 1) := by decide +kernel
theorem dL_town_378 : decode cL_town 378 = .ok (.iload 11, 2) := by decide +kernel
theorem dL_town_380 : decode cL_town 380 = .ok (.aload_n 2, 1) := by decide +kernel
theorem dL_town_381 : decode cL_town 381 = .ok (.iconst 4, 1) := by decide +kernel
theorem dL_town_382 : decode cL_town 382 = .ok (.iload 10, 2) := by decide +kernel
theorem dL_town_384 : decode cL_town 384 = .ok (.imul, 1) := by decide +kernel
theorem dL_town_385 : decode cL_town 385 = .ok (.iload 11, 2) := by decide +kernel
theorem dL_town_387 : decode cL_town 387 = .ok (.iadd, 1) := by decide +kernel
theorem dL_town_388 : decode cL_town 388 = .ok (.iaload, 1) := by decide +kernel
theorem dL_town_389 : decode cL_town 389 = .ok (.aload 5, 2) := by decide +kernel
theorem dL_town_391 : decode cL_town 391 = .ok (.iload 11, 2) := by decide +kernel
theorem dL_town_393 : decode cL_town 393 = .ok (.iaload, 1) := by decide +kernel
theorem dL_town_394 : decode cL_town 394 = .ok (.invokestatic 17, 3) := by decide +kernel
theorem dL_town_397 : decode cL_town 397 = .ok (.iastore, 1) := by decide +kernel
theorem dL_town_398 : decode cL_town 398 = .ok (.iinc 11 1, 3) := by decide +kernel
theorem dL_town_401 : decode cL_town 401 = .ok (.goto (-40), 3) := by decide +kernel
theorem dL_town_404 : decode cL_town 404 = .ok (.iinc 9 1, 3) := by decide +kernel
theorem dL_town_407 : decode cL_town 407 = .ok (.goto (-107), 3) := by decide +kernel
theorem dL_town_410 : decode cL_town 410 = .ok (.aload_n 0, 1) := by decide +kernel
theorem dL_town_411 : decode cL_town 411 = .ok (.iload 7, 2) := by decide +kernel
theorem dL_town_413 : decode cL_town 413 = .ok (.iload 8, 2) := by decide +kernel
theorem dL_town_415 : decode cL_town 415 = .ok (.iconst 0, 1) := by decide +kernel
theorem dL_town_416 : decode cL_town 416 = .ok (.iconst 0, 1) := by decide +kernel
theorem dL_town_417 : decode cL_town 417 = .ok (.iconst 0, 1) := by decide +kernel
theorem dL_town_418 : decode cL_town 418 = .ok (.invokevirtual 23, 3) := by decide +kernel
theorem dL_town_421 : decode cL_town 421 = .ok (.pop, 1) := by decide +kernel
theorem dL_town_422 : decode cL_town 422 = .ok (.aload_n 0, 1) := by decide +kernel
theorem dL_town_423 : decode cL_town 423 = .ok (.iload 4, 2) := by decide +kernel
theorem dL_town_425 : decode cL_town 425 = .ok (.aload 5, 2) := by decide +kernel
theorem dL_town_427 : decode cL_town 427 = .ok (.iconst 0, 1) := by decide +kernel
theorem dL_town_428 : decode cL_town 428 = .ok (.iaload, 1) := by decide +kernel
theorem dL_town_429 : decode cL_town 429 = .ok (.aload 5, 2) := by decide +kernel
theorem dL_town_431 : decode cL_town 431 = .ok (.iconst 1, 1) := by decide +kernel
theorem dL_town_432 : decode cL_town 432 = .ok (.iaload, 1) := by decide +kernel
theorem dL_town_433 : decode cL_town 433 = .ok (.aload 5, 2) := by decide +kernel
theorem dL_town_435 : decode cL_town 435 = .ok (.iconst 2, 1) := by decide +kernel
theorem dL_town_436 : decode cL_town 436 = .ok (.iaload, 1) := by decide +kernel
theorem dL_town_437 : decode cL_town 437 = .ok (.aload 5, 2) := by decide +kernel
theorem dL_town_439 : decode cL_town 439 = .ok (.iconst 3, 1) := by decide +kernel
theorem dL_town_440 : decode cL_town 440 = .ok (.iaload, 1) := by decide +kernel
theorem dL_town_441 : decode cL_town 441 = .ok (.invokevirtual 27, 3) := by decide +kernel
theorem dL_town_444 : decode cL_town 444 = .ok (.ifCond .ne 8, 3) := by decide +kernel
theorem dL_town_447 : decode cL_town 447 = .ok (.iload 4, 2) := by decide +kernel
theorem dL_town_449 : decode cL_town 449 = .ok (.goto 4, 3) := by decide +kernel
theorem dL_town_452 : decode cL_town 452 = .ok (.iconst (-1), 1) := by decide +kernel
theorem dL_town_453 : decode cL_town 453 = .ok (.ireturn, 1) := by decide +kernel
theorem dL_up_0 : decode cL_up 0 = .ok (.iload_n 1, 1) := by decide +kernel
theorem dL_up_1 : decode cL_up 1 = .ok (.istore_n 3, 1) := by decide +kernel
theorem dL_up_2 : decode cL_up 2 = .ok (.iconst 0, 1) := by decide +kernel
theorem dL_up_3 : decode cL_up 3 = .ok (.istore 4, 2) := by decide +kernel
theorem dL_up_5 : decode cL_up 5 = .ok (.iload 4, 2) := by decide +kernel
theorem dL_up_7 : decode cL_up 7 = .ok (.iload_n 2, 1) := by decide +kernel
theorem dL_up_8 : decode cL_up 8 = .ok (.if_icmp .ge 60, 3) := by decide +kernel
theorem dL_up_11 : decode cL_up 11 = .ok (.iload_n 3, 1) := by decide +kernel
theorem dL_up_12 : decode cL_up 12 = .ok (.bipush 32, 2) := by decide +kernel
theorem dL_up_14 : decode cL_up 14 = .ok (.if_icmp .eq 9, 3) := by decide +kernel
theorem dL_up_17 : decode cL_up 17 = .ok (.iload_n 3, 1) := by decide +kernel
theorem dL_up_18 : decode cL_up 18 = .ok (.bipush 24, 2) := by decide +kernel
theorem dL_up_20 : decode cL_up 20 = .ok (.if_icmp .lt 8, 3) := by decide +kernel
theorem dL_up_23 : decode cL_up 23 = .ok (.bipush 32, 2) := by decide +kernel
theorem dL_up_25 : decode cL_up 25 = .ok (.goto 36, 3) := by decide +kernel
theorem dL_up_28 : decode cL_up 28 = .ok (.iload_n 3, 1) := by decide +kernel
theorem dL_up_29 : decode cL_up 29 = .ok (.bipush 16, 2) := by decide +kernel
theorem dL_up_31 : decode cL_up 31 = .ok (.if_icmp .lt 15, 3) := by decide +kernel
theorem dL_up_34 : decode cL_up 34 = .ok (.bipush 24, 2) := by decide +kernel
theorem dL_up_36 : decode cL_up 36 = .ok (.iload_n 3, 1) := by decide +kernel
theorem dL_up_37 : decode cL_up 37 = .ok (.bipush 16, 2) := by decide +kernel
theorem dL_up_39 : decode cL_up 39 = .ok (.isub, 1) := by decide +kernel
theorem dL_up_40 : decode cL_up 40 = .ok (.iconst 4, 1) := by decide +kernel
theorem dL_up_41 : decode cL_up 41 = .ok (.idiv, 1) := by decide +kernel
theorem dL_up_42 : decode cL_up 42 = .ok (.iadd, 1) := by decide +kernel
theorem dL_up_43 : decode cL_up 43 = .ok (.goto 18, 3) := by decide +kernel
theorem dL_up_46 : decode cL_up 46 = .ok (.bipush 16, 2) := by decide +kernel
theorem dL_up_48 : decode cL_up 48 = .ok (.iload_n 3, 1) := by decide +kernel
theorem dL_up_49 : decode cL_up 49 = .ok (.iload_n 0, 1) := by decide +kernel
theorem dL_up_50 : decode cL_up 50 = .ok (.iconst 2, 1) := by decide +kernel
theorem dL_up_51 : decode cL_up 51 = .ok (.if_icmp .ge 7, 3) := by decide +kernel
theorem dL_up_54 : decode cL_up 54 = .ok (.iconst 2, 1) := by decide +kernel
theorem dL_up_55 : decode cL_up 55 = .ok (.goto 4, 3) := by decide +kernel
theorem dL_up_58 : decode cL_up 58 = .ok (.iconst 4, 1) := by decide +kernel
theorem dL_up_59 : decode cL_up 59 = .ok (.idiv, 1) := by decide +kernel
theorem dL_up_60 : decode cL_up 60 = .ok (.iadd, 1) := by decide +kernel
theorem dL_up_61 : decode cL_up 61 = .ok (.istore_n 3, 1) := by decide +kernel
theorem dL_up_62 : decode cL_up 62 = .ok (.iinc 4 1, 3) := by decide +kernel
theorem dL_up_65 : decode cL_up 65 = .ok (.goto (-60), 3) := by decide +kernel
theorem dL_up_68 : decode cL_up 68 = .ok (.iload_n 3, 1) := by decide +kernel
theorem dL_up_69 : decode cL_up 69 = .ok (.ireturn, 1) := by decide +kernel
theorem dL_alike_0 : decode cL_alike 0 = .ok (.iconst 1, 1) := by decide +kernel
theorem dL_alike_1 : decode cL_alike 1 = .ok (.istore_n 2, 1) := by decide +kernel
theorem dL_alike_2 : decode cL_alike 2 = .ok (.iconst 0, 1) := by decide +kernel
theorem dL_alike_3 : decode cL_alike 3 = .ok (.istore_n 3, 1) := by decide +kernel
theorem dL_alike_4 : decode cL_alike 4 = .ok (.iload_n 3, 1) := by decide +kernel
theorem dL_alike_5 : decode cL_alike 5 = .ok (.bipush 6, 2) := by decide +kernel
theorem dL_alike_7 : decode cL_alike 7 = .ok (.if_icmp .ge 32, 3) := by decide +kernel
theorem dL_alike_10 : decode cL_alike 10 = .ok (.iload_n 2, 1) := by decide +kernel
theorem dL_alike_11 : decode cL_alike 11 = .ok (.ifCond .eq 20, 3) := by decide +kernel
theorem dL_alike_14 : decode cL_alike 14 = .ok (.aload_n 0, 1) := by decide +kernel
theorem dL_alike_15 : decode cL_alike 15 = .ok (.iload_n 3, 1) := by decide +kernel
theorem dL_alike_16 : decode cL_alike 16 = .ok (.invokevirtual 88, 3) := by decide +kernel
theorem dL_alike_19 : decode cL_alike 19 = .ok (.aload_n 1, 1) := by decide +kernel
theorem dL_alike_20 : decode cL_alike 20 = .ok (.iload_n 3, 1) := by decide +kernel
theorem dL_alike_21 : decode cL_alike 21 = .ok (.invokevirtual 88, 3) := by decide +kernel
theorem dL_alike_24 : decode cL_alike 24 = .ok (.if_icmp .ne 7, 3) := by decide +kernel
theorem dL_alike_27 : decode cL_alike 27 = .ok (.iconst 1, 1) := by decide +kernel
theorem dL_alike_28 : decode cL_alike 28 = .ok (.goto 4, 3) := by decide +kernel
theorem dL_alike_31 : decode cL_alike 31 = .ok (.iconst 0, 1) := by decide +kernel
theorem dL_alike_32 : decode cL_alike 32 = .ok (.istore_n 2, 1) := by decide +kernel
theorem dL_alike_33 : decode cL_alike 33 = .ok (.iinc 3 1, 3) := by decide +kernel
theorem dL_alike_36 : decode cL_alike 36 = .ok (.goto (-32), 3) := by decide +kernel
theorem dL_alike_39 : decode cL_alike 39 = .ok (.iconst 0, 1) := by decide +kernel
theorem dL_alike_40 : decode cL_alike 40 = .ok (.istore_n 3, 1) := by decide +kernel
theorem dL_alike_41 : decode cL_alike 41 = .ok (.iload_n 3, 1) := by decide +kernel
theorem dL_alike_42 : decode cL_alike 42 = .ok (.iconst 2, 1) := by decide +kernel
theorem dL_alike_43 : decode cL_alike 43 = .ok (.if_icmp .ge 185, 3) := by decide +kernel
theorem dL_alike_46 : decode cL_alike 46 = .ok (.iload_n 2, 1) := by decide +kernel
theorem dL_alike_47 : decode cL_alike 47 = .ok (.ifCond .eq 89, 3) := by decide +kernel
theorem dL_alike_50 : decode cL_alike 50 = .ok (.aload_n 0, 1) := by decide +kernel
theorem dL_alike_51 : decode cL_alike 51 = .ok (.iload_n 3, 1) := by decide +kernel
theorem dL_alike_52 : decode cL_alike 52 = .ok (.bipush 7, 2) := by decide +kernel
theorem dL_alike_54 : decode cL_alike 54 = .ok (.invokevirtual 104, 3) := by decide +kernel
theorem dL_alike_57 : decode cL_alike 57 = .ok (.aload_n 1, 1) := by decide +kernel
theorem dL_alike_58 : decode cL_alike 58 = .ok (.iload_n 3, 1) := by decide +kernel
theorem dL_alike_59 : decode cL_alike 59 = .ok (.bipush 7, 2) := by decide +kernel
theorem dL_alike_61 : decode cL_alike 61 = .ok (.invokevirtual 104, 3) := by decide +kernel
theorem dL_alike_64 : decode cL_alike 64 = .ok (.lcmp, 1) := by decide +kernel
theorem dL_alike_65 : decode cL_alike 65 = .ok (.ifCond .ne 71, 3) := by decide +kernel
theorem dL_alike_68 : decode cL_alike 68 = .ok (.aload_n 0, 1) := by decide +kernel
theorem dL_alike_69 : decode cL_alike 69 = .ok (.iload_n 3, 1) := by decide +kernel
theorem dL_alike_70 : decode cL_alike 70 = .ok (.iconst 3, 1) := by decide +kernel
theorem dL_alike_71 : decode cL_alike 71 = .ok (.invokevirtual 116, 3) := by decide +kernel
theorem dL_alike_74 : decode cL_alike 74 = .ok (.aload_n 1, 1) := by decide +kernel
theorem dL_alike_75 : decode cL_alike 75 = .ok (.iload_n 3, 1) := by decide +kernel
theorem dL_alike_76 : decode cL_alike 76 = .ok (.iconst 3, 1) := by decide +kernel
theorem dL_alike_77 : decode cL_alike 77 = .ok (.invokevirtual 116, 3) := by decide +kernel
theorem dL_alike_80 : decode cL_alike 80 = .ok (.if_icmp .ne 56, 3) := by decide +kernel
theorem dL_alike_83 : decode cL_alike 83 = .ok (.aload_n 0, 1) := by decide +kernel
theorem dL_alike_84 : decode cL_alike 84 = .ok (.iload_n 3, 1) := by decide +kernel
theorem dL_alike_85 : decode cL_alike 85 = .ok (.iconst 0, 1) := by decide +kernel
theorem dL_alike_86 : decode cL_alike 86 = .ok (.bipush 8, 2) := by decide +kernel
theorem dL_alike_88 : decode cL_alike 88 = .ok (.invokevirtual 66, 3) := by decide +kernel
theorem dL_alike_91 : decode cL_alike 91 = .ok (.aload_n 1, 1) := by decide +kernel
theorem dL_alike_92 : decode cL_alike 92 = .ok (.iload_n 3, 1) := by decide +kernel
theorem dL_alike_93 : decode cL_alike 93 = .ok (.iconst 0, 1) := by decide +kernel
theorem dL_alike_94 : decode cL_alike 94 = .ok (.bipush 8, 2) := by decide +kernel
theorem dL_alike_96 : decode cL_alike 96 = .ok (.invokevirtual 66, 3) := by decide +kernel
theorem dL_alike_99 : decode cL_alike 99 = .ok (.if_icmp .ne 37, 3) := by decide +kernel
theorem dL_alike_102 : decode cL_alike 102 = .ok (.aload_n 0, 1) := by decide +kernel
theorem dL_alike_103 : decode cL_alike 103 = .ok (.iload_n 3, 1) := by decide +kernel
theorem dL_alike_104 : decode cL_alike 104 = .ok (.iconst 2, 1) := by decide +kernel
theorem dL_alike_105 : decode cL_alike 105 = .ok (.iconst 1, 1) := by decide +kernel
theorem dL_alike_106 : decode cL_alike 106 = .ok (.invokevirtual 69, 3) := by decide +kernel
theorem dL_alike_109 : decode cL_alike 109 = .ok (.aload_n 1, 1) := by decide +kernel
theorem dL_alike_110 : decode cL_alike 110 = .ok (.iload_n 3, 1) := by decide +kernel
theorem dL_alike_111 : decode cL_alike 111 = .ok (.iconst 2, 1) := by decide +kernel
theorem dL_alike_112 : decode cL_alike 112 = .ok (.iconst 1, 1) := by decide +kernel
theorem dL_alike_113 : decode cL_alike 113 = .ok (.invokevirtual 69, 3) := by decide +kernel
theorem dL_alike_116 : decode cL_alike 116 = .ok (.if_icmp .ne 20, 3) := by decide +kernel
theorem dL_alike_119 : decode cL_alike 119 = .ok (.aload_n 0, 1) := by decide +kernel
theorem dL_alike_120 : decode cL_alike 120 = .ok (.iload_n 3, 1) := by decide +kernel
theorem dL_alike_121 : decode cL_alike 121 = .ok (.invokevirtual 119, 3) := by decide +kernel
theorem dL_alike_124 : decode cL_alike 124 = .ok (.aload_n 1, 1) := by decide +kernel
theorem dL_alike_125 : decode cL_alike 125 = .ok (.iload_n 3, 1) := by decide +kernel
theorem dL_alike_126 : decode cL_alike 126 = .ok (.invokevirtual 119, 3) := by decide +kernel
theorem dL_alike_129 : decode cL_alike 129 = .ok (.if_icmp .ne 7, 3) := by decide +kernel
theorem dL_alike_132 : decode cL_alike 132 = .ok (.iconst 1, 1) := by decide +kernel
theorem dL_alike_133 : decode cL_alike 133 = .ok (.goto 4, 3) := by decide +kernel
theorem dL_alike_136 : decode cL_alike 136 = .ok (.iconst 0, 1) := by decide +kernel
theorem dL_alike_137 : decode cL_alike 137 = .ok (.istore_n 2, 1) := by decide +kernel
theorem dL_alike_138 : decode cL_alike 138 = .ok (.iconst 0, 1) := by decide +kernel
theorem dL_alike_139 : decode cL_alike 139 = .ok (.istore 4, 2) := by decide +kernel
theorem dL_alike_141 : decode cL_alike 141 = .ok (.iload 4, 2) := by decide +kernel
theorem dL_alike_143 : decode cL_alike 143 = .ok (.iconst 5, 1) := by decide +kernel
theorem dL_alike_144 : decode cL_alike 144 = .ok (.if_icmp .ge 78, 3) := by decide +kernel
theorem dL_alike_147 : decode cL_alike 147 = .ok (.iload_n 2, 1) := by decide +kernel
theorem dL_alike_148 : decode cL_alike 148 = .ok (.ifCond .eq 66, 3) := by decide +kernel
theorem dL_alike_151 : decode cL_alike 151 = .ok (.aload_n 0, 1) := by decide +kernel
theorem dL_alike_152 : decode cL_alike 152 = .ok (.iload_n 3, 1) := by decide +kernel
theorem dL_alike_153 : decode cL_alike 153 = .ok (.iload 4, 2) := by decide +kernel
theorem dL_alike_155 : decode cL_alike 155 = .ok (.bipush 15, 2) := by decide +kernel
theorem dL_alike_157 : decode cL_alike 157 = .ok (.invokevirtual 59, 3) := by decide +kernel
theorem dL_alike_160 : decode cL_alike 160 = .ok (.aload_n 1, 1) := by decide +kernel
theorem dL_alike_161 : decode cL_alike 161 = .ok (.iload_n 3, 1) := by decide +kernel
theorem dL_alike_162 : decode cL_alike 162 = .ok (.iload 4, 2) := by decide +kernel
theorem dL_alike_164 : decode cL_alike 164 = .ok (.bipush 15, 2) := by decide +kernel
theorem dL_alike_166 : decode cL_alike 166 = .ok (.invokevirtual 59, 3) := by decide +kernel
theorem dL_alike_169 : decode cL_alike 169 = .ok (.if_icmp .ne 45, 3) := by decide +kernel
theorem dL_alike_172 : decode cL_alike 172 = .ok (.aload_n 0, 1) := by decide +kernel
theorem dL_alike_173 : decode cL_alike 173 = .ok (.iload_n 3, 1) := by decide +kernel
theorem dL_alike_174 : decode cL_alike 174 = .ok (.iload 4, 2) := by decide +kernel
theorem dL_alike_176 : decode cL_alike 176 = .ok (.iconst 1, 1) := by decide +kernel
theorem dL_alike_177 : decode cL_alike 177 = .ok (.invokevirtual 101, 3) := by decide +kernel
theorem dL_alike_180 : decode cL_alike 180 = .ok (.aload_n 1, 1) := by decide +kernel
theorem dL_alike_181 : decode cL_alike 181 = .ok (.iload_n 3, 1) := by decide +kernel
theorem dL_alike_182 : decode cL_alike 182 = .ok (.iload 4, 2) := by decide +kernel
theorem dL_alike_184 : decode cL_alike 184 = .ok (.iconst 1, 1) := by decide +kernel
theorem dL_alike_185 : decode cL_alike 185 = .ok (.invokevirtual 101, 3) := by decide +kernel
theorem dL_alike_188 : decode cL_alike 188 = .ok (.if_icmp .ne 26, 3) := by decide +kernel
theorem dL_alike_191 : decode cL_alike 191 = .ok (.aload_n 0, 1) := by decide +kernel
theorem dL_alike_192 : decode cL_alike 192 = .ok (.iload_n 3, 1) := by decide +kernel
theorem dL_alike_193 : decode cL_alike 193 = .ok (.iload 4, 2) := by decide +kernel
theorem dL_alike_195 : decode cL_alike 195 = .ok (.iconst 0, 1) := by decide +kernel
theorem dL_alike_196 : decode cL_alike 196 = .ok (.invokevirtual 113, 3) := by decide +kernel
theorem dL_alike_199 : decode cL_alike 199 = .ok (.aload_n 1, 1) := by decide +kernel
theorem dL_alike_200 : decode cL_alike 200 = .ok (.iload_n 3, 1) := by decide +kernel
theorem dL_alike_201 : decode cL_alike 201 = .ok (.iload 4, 2) := by decide +kernel
theorem dL_alike_203 : decode cL_alike 203 = .ok (.iconst 0, 1) := by decide +kernel
theorem dL_alike_204 : decode cL_alike 204 = .ok (.invokevirtual 113, 3) := by decide +kernel
theorem dL_alike_207 : decode cL_alike 207 = .ok (.if_icmp .ne 7, 3) := by decide +kernel
theorem dL_alike_210 : decode cL_alike 210 = .ok (.iconst 1, 1) := by decide +kernel
theorem dL_alike_211 : decode cL_alike 211 = .ok (.goto 4, 3) := by decide +kernel
theorem dL_alike_214 : decode cL_alike 214 = .ok (.iconst 0, 1) := by decide +kernel
theorem dL_alike_215 : decode cL_alike 215 = .ok (.istore_n 2, 1) := by decide +kernel
theorem dL_alike_216 : decode cL_alike 216 = .ok (.iinc 4 1, 3) := by decide +kernel
theorem dL_alike_219 : decode cL_alike 219 = .ok (.goto (-78), 3) := by decide +kernel
theorem dL_alike_222 : decode cL_alike 222 = .ok (.iinc 3 1, 3) := by decide +kernel
theorem dL_alike_225 : decode cL_alike 225 = .ok (.goto (-184), 3) := by decide +kernel
theorem dL_alike_228 : decode cL_alike 228 = .ok (.iload_n 2, 1) := by decide +kernel
theorem dL_alike_229 : decode cL_alike 229 = .ok (.ireturn, 1) := by decide +kernel