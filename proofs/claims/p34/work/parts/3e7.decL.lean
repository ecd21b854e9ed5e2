theorem dL_act_0 : decode cL_act 0 = .ok (.iload_n 2, 1) := by decide +kernel
theorem dL_act_1 : decode cL_act 1 = .ok (.iconst 1, 1) := by decide +kernel
theorem dL_act_2 : decode cL_act 2 = .ok (.iand, 1) := by decide +kernel
theorem dL_act_3 : decode cL_act 3 = .ok (.istore_n 3, 1) := by decide +kernel
theorem dL_act_4 : decode cL_act 4 = .ok (.iload_n 2, 1) := by decide +kernel
theorem dL_act_5 : decode cL_act 5 = .ok (.iconst 1, 1) := by decide +kernel
theorem dL_act_6 : decode cL_act 6 = .ok (.ishr, 1) := by decide +kernel
theorem dL_act_7 : decode cL_act 7 = .ok (.bipush 7, 2) := by decide +kernel
theorem dL_act_9 : decode cL_act 9 = .ok (.iand, 1) := by decide +kernel
theorem dL_act_10 : decode cL_act 10 = .ok (.bipush 6, 2) := by decide +kernel
theorem dL_act_12 : decode cL_act 12 = .ok (.irem, 1) := by decide +kernel
theorem dL_act_13 : decode cL_act 13 = .ok (.istore 4, 2) := by decide +kernel
theorem dL_act_15 : decode cL_act 15 = .ok (.iload_n 2, 1) := by decide +kernel
theorem dL_act_16 : decode cL_act 16 = .ok (.iconst 4, 1) := by decide +kernel
theorem dL_act_17 : decode cL_act 17 = .ok (.ishr, 1) := by decide +kernel
theorem dL_act_18 : decode cL_act 18 = .ok (.bipush 7, 2) := by decide +kernel
theorem dL_act_20 : decode cL_act 20 = .ok (.iand, 1) := by decide +kernel
theorem dL_act_21 : decode cL_act 21 = .ok (.bipush 6, 2) := by decide +kernel
theorem dL_act_23 : decode cL_act 23 = .ok (.irem, 1) := by decide +kernel
theorem dL_act_24 : decode cL_act 24 = .ok (.istore 5, 2) := by decide +kernel
theorem dL_act_26 : decode cL_act 26 = .ok (.iload_n 2, 1) := by decide +kernel
theorem dL_act_27 : decode cL_act 27 = .ok (.bipush 7, 2) := by decide +kernel
theorem dL_act_29 : decode cL_act 29 = .ok (.ishr, 1) := by decide +kernel
theorem dL_act_30 : decode cL_act 30 = .ok (.bipush 7, 2) := by decide +kernel
theorem dL_act_32 : decode cL_act 32 = .ok (.iand, 1) := by decide +kernel
theorem dL_act_33 : decode cL_act 33 = .ok (.istore 6, 2) := by decide +kernel
theorem dL_act_35 : decode cL_act 35 = .ok (.iload_n 1, 1) := by decide +kernel
theorem dL_act_36 : decode cL_act 36 = .ok (.bipush 15, 2) := by decide +kernel
theorem dL_act_38 : decode cL_act 38 = .ok (.iand, 1) := by decide +kernel
theorem dL_act_39 : decode cL_act 39 = .ok (.tableswitch 383 0 14 #[73, 89, 113, 142, 153, 192, 218, 228, 247, 264, 280, 296, 314, 334, 351], 73) := by decide +kernel
theorem dL_act_112 : decode cL_act 112 = .ok (.aload_n 0, 1) := by decide +kernel
theorem dL_act_113 : decode cL_act 113 = .ok (.iload_n 3, 1) := by decide +kernel
theorem dL_act_114 : decode cL_act 114 = .ok (.iload 4, 2) := by decide +kernel
theorem dL_act_116 : decode cL_act 116 = .ok (.invokevirtual 37, 3) := by decide +kernel
theorem dL_act_119 : decode cL_act 119 = .ok (.ifCond .eq 7, 3) := by decide +kernel
theorem dL_act_122 : decode cL_act 122 = .ok (.iconst 1, 1) := by decide +kernel
theorem dL_act_123 : decode cL_act 123 = .ok (.goto 4, 3) := by decide +kernel
theorem dL_act_126 : decode cL_act 126 = .ok (.iconst 0, 1) := by decide +kernel
theorem dL_act_127 : decode cL_act 127 = .ok (.ireturn, 1) := by decide +kernel
theorem dL_act_128 : decode cL_act 128 = .ok (.aload_n 0, 1) := by decide +kernel
theorem dL_act_129 : decode cL_act 129 = .ok (.iload_n 3, 1) := by decide +kernel
theorem dL_act_130 : decode cL_act 130 = .ok (.iload 4, 2) := by decide +kernel
theorem dL_act_132 : decode cL_act 132 = .ok (.iload 5, 2) := by decide +kernel
theorem dL_act_134 : decode cL_act 134 = .ok (.iload_n 2, 1) := by decide +kernel
theorem dL_act_135 : decode cL_act 135 = .ok (.bipush 7, 2) := by decide +kernel
theorem dL_act_137 : decode cL_act 137 = .ok (.ishr, 1) := by decide +kernel
theorem dL_act_138 : decode cL_act 138 = .ok (.iconst 3, 1) := by decide +kernel
theorem dL_act_139 : decode cL_act 139 = .ok (.iand, 1) := by decide +kernel
theorem dL_act_140 : decode cL_act 140 = .ok (.invokevirtual 41, 3) := by decide +kernel
theorem dL_act_143 : decode cL_act 143 = .ok (.ifCond .eq 7, 3) := by decide +kernel
theorem dL_act_146 : decode cL_act 146 = .ok (.iconst 1, 1) := by decide +kernel
theorem dL_act_147 : decode cL_act 147 = .ok (.goto 4, 3) := by decide +kernel
theorem dL_act_150 : decode cL_act 150 = .ok (.iconst 0, 1) := by decide +kernel
theorem dL_act_151 : decode cL_act 151 = .ok (.ireturn, 1) := by decide +kernel
theorem dL_act_152 : decode cL_act 152 = .ok (.aload_n 0, 1) := by decide +kernel
theorem dL_act_153 : decode cL_act 153 = .ok (.iload_n 3, 1) := by decide +kernel
theorem dL_act_154 : decode cL_act 154 = .ok (.iload_n 2, 1) := by decide +kernel
theorem dL_act_155 : decode cL_act 155 = .ok (.bipush 7, 2) := by decide +kernel
theorem dL_act_157 : decode cL_act 157 = .ok (.ishr, 1) := by decide +kernel
theorem dL_act_158 : decode cL_act 158 = .ok (.iconst 1, 1) := by decide +kernel
theorem dL_act_159 : decode cL_act 159 = .ok (.iand, 1) := by decide +kernel
theorem dL_act_160 : decode cL_act 160 = .ok (.iconst 1, 1) := by decide +kernel
theorem dL_act_161 : decode cL_act 161 = .ok (.if_icmp .ne 7, 3) := by decide +kernel
theorem dL_act_164 : decode cL_act 164 = .ok (.iconst 1, 1) := by decide +kernel
theorem dL_act_165 : decode cL_act 165 = .ok (.goto 4, 3) := by decide +kernel
theorem dL_act_168 : decode cL_act 168 = .ok (.iconst 0, 1) := by decide +kernel
theorem dL_act_169 : decode cL_act 169 = .ok (.invokevirtual 45, 3) := by decide +kernel
theorem dL_act_172 : decode cL_act 172 = .ok (.ifCond .eq 7, 3) := by decide +kernel
theorem dL_act_175 : decode cL_act 175 = .ok (.iconst 1, 1) := by decide +kernel
theorem dL_act_176 : decode cL_act 176 = .ok (.goto 4, 3) := by decide +kernel
theorem dL_act_179 : decode cL_act 179 = .ok (.iconst 0, 1) := by decide +kernel
theorem dL_act_180 : decode cL_act 180 = .ok (.ireturn, 1) := by decide +kernel
theorem dL_act_181 : decode cL_act 181 = .ok (.aload_n 0, 1) := by decide +kernel
theorem dL_act_182 : decode cL_act 182 = .ok (.iconst 0, 1) := by decide +kernel
theorem dL_act_183 : decode cL_act 183 = .ok (.iload 4, 2) := by decide +kernel
theorem dL_act_185 : decode cL_act 185 = .ok (.iconst 1, 1) := by decide +kernel
theorem dL_act_186 : decode cL_act 186 = .ok (.iload 5, 2) := by decide +kernel
theorem dL_act_188 : decode cL_act 188 = .ok (.invokevirtual 49, 3) := by decide +kernel
theorem dL_act_191 : decode cL_act 191 = .ok (.ireturn, 1) := by decide +kernel
theorem dL_act_192 : decode cL_act 192 = .ok (.aload_n 0, 1) := by decide +kernel
theorem dL_act_193 : decode cL_act 193 = .ok (.ldc 52, 2) := by decide +kernel
theorem dL_act_195 : decode cL_act 195 = .ok (.bipush 48, 2) := by decide +kernel
theorem dL_act_197 : decode cL_act 197 = .ok (.iload_n 2, 1) := by decide +kernel
theorem dL_act_198 : decode cL_act 198 = .ok (.bipush 7, 2) := by decide +kernel
theorem dL_act_200 : decode cL_act 200 = .ok (.ishr, 1) := by decide +kernel
theorem dL_act_201 : decode cL_act 201 = .ok (.iconst 3, 1) := by decide +kernel
theorem dL_act_202 : decode cL_act 202 = .ok (.iand, 1) := by decide +kernel
theorem dL_act_203 : decode cL_act 203 = .ok (.iadd, 1) := by decide +kernel
theorem dL_act_204 : decode cL_act 204 = .ok (.bipush 8, 2) := by decide +kernel
theorem dL_act_206 : decode cL_act 206 = .ok (.ishl, 1) := by decide +kernel
theorem dL_act_207 : decode cL_act 207 = .ok (.ior, 1) := by decide +kernel
theorem dL_act_208 : decode cL_act 208 = .ok (.iconst 0, 1) := by decide +kernel
theorem dL_act_209 : decode cL_act 209 = .ok (.iconst 0, 1) := by decide +kernel
theorem dL_act_210 : decode cL_act 210 = .ok (.iconst 0, 1) := by decide +kernel
theorem dL_act_211 : decode cL_act 211 = .ok (.iconst 0, 1) := by decide +kernel
theorem dL_act_212 : decode cL_act 212 = .ok (.invokevirtual 23, 3) := by decide +kernel
theorem dL_act_215 : decode cL_act 215 = .ok (.pop, 1) := by decide +kernel
theorem dL_act_216 : decode cL_act 216 = .ok (.aload_n 0, 1) := by decide +kernel
theorem dL_act_217 : decode cL_act 217 = .ok (.iload_n 2, 1) := by decide +kernel
theorem dL_act_218 : decode cL_act 218 = .ok (.bipush 9, 2) := by decide +kernel
theorem dL_act_220 : decode cL_act 220 = .ok (.ishr, 1) := by decide +kernel
theorem dL_act_221 : decode cL_act 221 = .ok (.iconst 3, 1) := by decide +kernel
theorem dL_act_222 : decode cL_act 222 = .ok (.iand, 1) := by decide +kernel
theorem dL_act_223 : decode cL_act 223 = .ok (.iload_n 3, 1) := by decide +kernel
theorem dL_act_224 : decode cL_act 224 = .ok (.iload 4, 2) := by decide +kernel
theorem dL_act_226 : decode cL_act 226 = .ok (.iconst 3, 1) := by decide +kernel
theorem dL_act_227 : decode cL_act 227 = .ok (.invokevirtual 53, 3) := by decide +kernel
theorem dL_act_230 : decode cL_act 230 = .ok (.ireturn, 1) := by decide +kernel
theorem dL_act_231 : decode cL_act 231 = .ok (.aload_n 0, 1) := by decide +kernel
theorem dL_act_232 : decode cL_act 232 = .ok (.iload_n 2, 1) := by decide +kernel
theorem dL_act_233 : decode cL_act 233 = .ok (.bipush 7, 2) := by decide +kernel
theorem dL_act_235 : decode cL_act 235 = .ok (.ishr, 1) := by decide +kernel
theorem dL_act_236 : decode cL_act 236 = .ok (.bipush 7, 2) := by decide +kernel
theorem dL_act_238 : decode cL_act 238 = .ok (.iand, 1) := by decide +kernel
theorem dL_act_239 : decode cL_act 239 = .ok (.iload_n 2, 1) := by decide +kernel
theorem dL_act_240 : decode cL_act 240 = .ok (.bipush 10, 2) := by decide +kernel
theorem dL_act_242 : decode cL_act 242 = .ok (.ishr, 1) := by decide +kernel
theorem dL_act_243 : decode cL_act 243 = .ok (.iconst 3, 1) := by decide +kernel
theorem dL_act_244 : decode cL_act 244 = .ok (.iand, 1) := by decide +kernel
theorem dL_act_245 : decode cL_act 245 = .ok (.invokevirtual 56, 3) := by decide +kernel
theorem dL_act_248 : decode cL_act 248 = .ok (.ifCond .eq 7, 3) := by decide +kernel
theorem dL_act_251 : decode cL_act 251 = .ok (.iconst 1, 1) := by decide +kernel
theorem dL_act_252 : decode cL_act 252 = .ok (.goto 4, 3) := by decide +kernel
theorem dL_act_255 : decode cL_act 255 = .ok (.iconst 0, 1) := by decide +kernel
theorem dL_act_256 : decode cL_act 256 = .ok (.ireturn, 1) := by decide +kernel
theorem dL_act_257 : decode cL_act 257 = .ok (.aload_n 0, 1) := by decide +kernel
theorem dL_act_258 : decode cL_act 258 = .ok (.iload_n 3, 1) := by decide +kernel
theorem dL_act_259 : decode cL_act 259 = .ok (.iload 4, 2) := by decide +kernel
theorem dL_act_261 : decode cL_act 261 = .ok (.iload 6, 2) := by decide +kernel
theorem dL_act_263 : decode cL_act 263 = .ok (.invokevirtual 59, 3) := by decide +kernel
theorem dL_act_266 : decode cL_act 266 = .ok (.ireturn, 1) := by decide +kernel
theorem dL_act_267 : decode cL_act 267 = .ok (.aload_n 0, 1) := by decide +kernel
theorem dL_act_268 : decode cL_act 268 = .ok (.iload_n 3, 1) := by decide +kernel
theorem dL_act_269 : decode cL_act 269 = .ok (.iload 4, 2) := by decide +kernel
theorem dL_act_271 : decode cL_act 271 = .ok (.iload 5, 2) := by decide +kernel
theorem dL_act_273 : decode cL_act 273 = .ok (.iload 6, 2) := by decide +kernel
theorem dL_act_275 : decode cL_act 275 = .ok (.iload_n 2, 1) := by decide +kernel
theorem dL_act_276 : decode cL_act 276 = .ok (.bipush 10, 2) := by decide +kernel
theorem dL_act_278 : decode cL_act 278 = .ok (.ishr, 1) := by decide +kernel
theorem dL_act_279 : decode cL_act 279 = .ok (.iconst 1, 1) := by decide +kernel
theorem dL_act_280 : decode cL_act 280 = .ok (.iand, 1) := by decide +kernel
theorem dL_act_281 : decode cL_act 281 = .ok (.invokevirtual 62, 3) := by decide +kernel
theorem dL_act_284 : decode cL_act 284 = .ok (.l2i, 1) := by decide +kernel
theorem dL_act_285 : decode cL_act 285 = .ok (.ireturn, 1) := by decide +kernel
theorem dL_act_286 : decode cL_act 286 = .ok (.aload_n 0, 1) := by decide +kernel
theorem dL_act_287 : decode cL_act 287 = .ok (.iload_n 3, 1) := by decide +kernel
theorem dL_act_288 : decode cL_act 288 = .ok (.iload 6, 2) := by decide +kernel
theorem dL_act_290 : decode cL_act 290 = .ok (.iload_n 2, 1) := by decide +kernel
theorem dL_act_291 : decode cL_act 291 = .ok (.bipush 10, 2) := by decide +kernel
theorem dL_act_293 : decode cL_act 293 = .ok (.ishr, 1) := by decide +kernel
theorem dL_act_294 : decode cL_act 294 = .ok (.bipush 15, 2) := by decide +kernel
theorem dL_act_296 : decode cL_act 296 = .ok (.iand, 1) := by decide +kernel
theorem dL_act_297 : decode cL_act 297 = .ok (.iconst 1, 1) := by decide +kernel
theorem dL_act_298 : decode cL_act 298 = .ok (.isub, 1) := by decide +kernel
theorem dL_act_299 : decode cL_act 299 = .ok (.invokevirtual 66, 3) := by decide +kernel
theorem dL_act_302 : decode cL_act 302 = .ok (.ireturn, 1) := by decide +kernel
theorem dL_act_303 : decode cL_act 303 = .ok (.aload_n 0, 1) := by decide +kernel
theorem dL_act_304 : decode cL_act 304 = .ok (.iload_n 3, 1) := by decide +kernel
theorem dL_act_305 : decode cL_act 305 = .ok (.iconst 1, 1) := by decide +kernel
theorem dL_act_306 : decode cL_act 306 = .ok (.iload_n 2, 1) := by decide +kernel
theorem dL_act_307 : decode cL_act 307 = .ok (.bipush 10, 2) := by decide +kernel
theorem dL_act_309 : decode cL_act 309 = .ok (.ishr, 1) := by decide +kernel
theorem dL_act_310 : decode cL_act 310 = .ok (.iconst 3, 1) := by decide +kernel
theorem dL_act_311 : decode cL_act 311 = .ok (.iand, 1) := by decide +kernel
theorem dL_act_312 : decode cL_act 312 = .ok (.iadd, 1) := by decide +kernel
theorem dL_act_313 : decode cL_act 313 = .ok (.iload 6, 2) := by decide +kernel
theorem dL_act_315 : decode cL_act 315 = .ok (.invokevirtual 69, 3) := by decide +kernel
theorem dL_act_318 : decode cL_act 318 = .ok (.ireturn, 1) := by decide +kernel
theorem dL_act_319 : decode cL_act 319 = .ok (.aload_n 0, 1) := by decide +kernel
theorem dL_act_320 : decode cL_act 320 = .ok (.iload_n 3, 1) := by decide +kernel
theorem dL_act_321 : decode cL_act 321 = .ok (.iload 4, 2) := by decide +kernel
theorem dL_act_323 : decode cL_act 323 = .ok (.iload_n 2, 1) := by decide +kernel
theorem dL_act_324 : decode cL_act 324 = .ok (.bipush 7, 2) := by decide +kernel
theorem dL_act_326 : decode cL_act 326 = .ok (.ishr, 1) := by decide +kernel
theorem dL_act_327 : decode cL_act 327 = .ok (.iconst 3, 1) := by decide +kernel
theorem dL_act_328 : decode cL_act 328 = .ok (.iand, 1) := by decide +kernel
theorem dL_act_329 : decode cL_act 329 = .ok (.iconst 3, 1) := by decide +kernel
theorem dL_act_330 : decode cL_act 330 = .ok (.irem, 1) := by decide +kernel
theorem dL_act_331 : decode cL_act 331 = .ok (.invokevirtual 72, 3) := by decide +kernel
theorem dL_act_334 : decode cL_act 334 = .ok (.ireturn, 1) := by decide +kernel
theorem dL_act_335 : decode cL_act 335 = .ok (.aload_n 0, 1) := by decide +kernel
theorem dL_act_336 : decode cL_act 336 = .ok (.iload_n 3, 1) := by decide +kernel
theorem dL_act_337 : decode cL_act 337 = .ok (.iload 4, 2) := by decide +kernel
theorem dL_act_339 : decode cL_act 339 = .ok (.iload 6, 2) := by decide +kernel
theorem dL_act_341 : decode cL_act 341 = .ok (.iload_n 2, 1) := by decide +kernel
theorem dL_act_342 : decode cL_act 342 = .ok (.bipush 10, 2) := by decide +kernel
theorem dL_act_344 : decode cL_act 344 = .ok (.ishr, 1) := by decide +kernel
theorem dL_act_345 : decode cL_act 345 = .ok (.iconst 3, 1) := by decide +kernel
theorem dL_act_346 : decode cL_act 346 = .ok (.iand, 1) := by decide +kernel
theorem dL_act_347 : decode cL_act 347 = .ok (.iconst 3, 1) := by decide +kernel
theorem dL_act_348 : decode cL_act 348 = .ok (.irem, 1) := by decide +kernel
theorem dL_act_349 : decode cL_act 349 = .ok (.invokevirtual 75, 3) := by decide +kernel
theorem dL_act_352 : decode cL_act 352 = .ok (.ireturn, 1) := by decide +kernel
theorem dL_act_353 : decode cL_act 353 = .ok (.aload_n 0, 1) := by decide +kernel
theorem dL_act_354 : decode cL_act 354 = .ok (.iload_n 3, 1) := by decide +kernel
theorem dL_act_355 : decode cL_act 355 = .ok (.iconst 1, 1) := by decide +kernel
theorem dL_act_356 : decode cL_act 356 = .ok (.iload_n 2, 1) := by decide +kernel
theorem dL_act_357 : decode cL_act 357 = .ok (.bipush 7, 2) := by decide +kernel
theorem dL_act_359 : decode cL_act 359 = .ok (.ishr, 1) := by decide +kernel
theorem dL_act_360 : decode cL_act 360 = .ok (.iconst 3, 1) := by decide +kernel
theorem dL_act_361 : decode cL_act 361 = .ok (.iand, 1) := by decide +kernel
theorem dL_act_362 : decode cL_act 362 = .ok (.iadd, 1) := by decide +kernel
theorem dL_act_363 : decode cL_act 363 = .ok (.iload_n 2, 1) := by decide +kernel
theorem dL_act_364 : decode cL_act 364 = .ok (.bipush 9, 2) := by decide +kernel
theorem dL_act_366 : decode cL_act 366 = .ok (.ishr, 1) := by decide +kernel
theorem dL_act_367 : decode cL_act 367 = .ok (.iconst 3, 1) := by decide +kernel
theorem dL_act_368 : decode cL_act 368 = .ok (.iand, 1) := by decide +kernel
theorem dL_act_369 : decode cL_act 369 = .ok (.invokevirtual 78, 3) := by decide +kernel
theorem dL_act_372 : decode cL_act 372 = .ok (.ireturn, 1) := by decide +kernel
theorem dL_act_373 : decode cL_act 373 = .ok (.aload_n 0, 1) := by decide +kernel
theorem dL_act_374 : decode cL_act 374 = .ok (.iconst 1, 1) := by decide +kernel
theorem dL_act_375 : decode cL_act 375 = .ok (.iload_n 2, 1) := by decide +kernel
theorem dL_act_376 : decode cL_act 376 = .ok (.iconst 3, 1) := by decide +kernel
theorem dL_act_377 : decode cL_act 377 = .ok (.iand, 1) := by decide +kernel
theorem dL_act_378 : decode cL_act 378 = .ok (.iadd, 1) := by decide +kernel
theorem dL_act_379 : decode cL_act 379 = .ok (.iload_n 2, 1) := by decide +kernel
theorem dL_act_380 : decode cL_act 380 = .ok (.iconst 2, 1) := by decide +kernel
theorem dL_act_381 : decode cL_act 381 = .ok (.ishr, 1) := by decide +kernel
theorem dL_act_382 : decode cL_act 382 = .ok (.iconst 3, 1) := by decide +kernel
theorem dL_act_383 : decode cL_act 383 = .ok (.iand, 1) := by decide +kernel
theorem dL_act_384 : decode cL_act 384 = .ok (.iconst 3, 1) := by decide +kernel
theorem dL_act_385 : decode cL_act 385 = .ok (.irem, 1) := by decide +kernel
theorem dL_act_386 : decode cL_act 386 = .ok (.invokevirtual 81, 3) := by decide +kernel
theorem dL_act_389 : decode cL_act 389 = .ok (.ireturn, 1) := by decide +kernel
theorem dL_act_390 : decode cL_act 390 = .ok (.aload_n 0, 1) := by decide +kernel
theorem dL_act_391 : decode cL_act 391 = .ok (.iload_n 2, 1) := by decide +kernel
theorem dL_act_392 : decode cL_act 392 = .ok (.iconst 3, 1) := by decide +kernel
theorem dL_act_393 : decode cL_act 393 = .ok (.iand, 1) := by decide +kernel
theorem dL_act_394 : decode cL_act 394 = .ok (.iload_n 2, 1) := by decide +kernel
theorem dL_act_395 : decode cL_act 395 = .ok (.iconst 2, 1) := by decide +kernel
theorem dL_act_396 : decode cL_act 396 = .ok (.ishr, 1) := by decide +kernel
theorem dL_act_397 : decode cL_act 397 = .ok (.bipush 31, 2) := by decide +kernel
theorem dL_act_399 : decode cL_act 399 = .ok (.iand, 1) := by decide +kernel
theorem dL_act_400 : decode cL_act 400 = .ok (.bipush 16, 2) := by decide +kernel
theorem dL_act_402 : decode cL_act 402 = .ok (.iload_n 2, 1) := by decide +kernel
theorem dL_act_403 : decode cL_act 403 = .ok (.bipush 7, 2) := by decide +kernel
theorem dL_act_405 : decode cL_act 405 = .ok (.ishr, 1) := by decide +kernel
theorem dL_act_406 : decode cL_act 406 = .ok (.bipush 15, 2) := by decide +kernel
theorem dL_act_408 : decode cL_act 408 = .ok (.iand, 1) := by decide +kernel
theorem dL_act_409 : decode cL_act 409 = .ok (.iadd, 1) := by decide +kernel
theorem dL_act_410 : decode cL_act 410 = .ok (.invokevirtual 7, 3) := by decide +kernel
theorem dL_act_413 : decode cL_act 413 = .ok (.ifCond .eq 7, 3) := by decide +kernel
theorem dL_act_416 : decode cL_act 416 = .ok (.iconst 1, 1) := by decide +kernel
theorem dL_act_417 : decode cL_act 417 = .ok (.goto 4, 3) := by decide +kernel
theorem dL_act_420 : decode cL_act 420 = .ok (.iconst 0, 1) := by decide +kernel
theorem dL_act_421 : decode cL_act 421 = .ok (.ireturn, 1) := by decide +kernel
theorem dL_act_422 : decode cL_act 422 = .ok (.aload_n 0, 1) := by decide +kernel
theorem dL_act_423 : decode cL_act 423 = .ok (.iload_n 2, 1) := by decide +kernel
theorem dL_act_424 : decode cL_act 424 = .ok (.iconst 1, 1) := by decide +kernel
theorem dL_act_425 : decode cL_act 425 = .ok (.ishr, 1) := by decide +kernel
theorem dL_act_426 : decode cL_act 426 = .ok (.bipush 7, 2) := by decide +kernel
theorem dL_act_428 : decode cL_act 428 = .ok (.iand, 1) := by decide +kernel
theorem dL_act_429 : decode cL_act 429 = .ok (.bipush 7, 2) := by decide +kernel
theorem dL_act_431 : decode cL_act 431 = .ok (.irem, 1) := by decide +kernel
theorem dL_act_432 : decode cL_act 432 = .ok (.bipush 24, 2) := by decide +kernel
theorem dL_act_434 : decode cL_act 434 = .ok (.ishl, 1) := by decide +kernel
theorem dL_act_435 : decode cL_act 435 = .ok (.iload_n 2, 1) := by decide +kernel
theorem dL_act_436 : decode cL_act 436 = .ok (.iconst 4, 1) := by decide +kernel
theorem dL_act_437 : decode cL_act 437 = .ok (.ishr, 1) := by decide +kernel
theorem dL_act_438 : decode cL_act 438 = .ok (.bipush 7, 2) := by decide +kernel
theorem dL_act_440 : decode cL_act 440 = .ok (.iand, 1) := by decide +kernel
theorem dL_act_441 : decode cL_act 441 = .ok (.bipush 7, 2) := by decide +kernel
theorem dL_act_443 : decode cL_act 443 = .ok (.irem, 1) := by decide +kernel
theorem dL_act_444 : decode cL_act 444 = .ok (.bipush 16, 2) := by decide +kernel
theorem dL_act_446 : decode cL_act 446 = .ok (.ishl, 1) := by decide +kernel
theorem dL_act_447 : decode cL_act 447 = .ok (.ior, 1) := by decide +kernel
theorem dL_act_448 : decode cL_act 448 = .ok (.iconst 0, 1) := by decide +kernel
theorem dL_act_449 : decode cL_act 449 = .ok (.iconst 0, 1) := by decide +kernel
theorem dL_act_450 : decode cL_act 450 = .ok (.iconst 0, 1) := by decide +kernel
theorem dL_act_451 : decode cL_act 451 = .ok (.iconst 0, 1) := by decide +kernel
theorem dL_act_452 : decode cL_act 452 = .ok (.invokevirtual 23, 3) := by decide +kernel
theorem dL_act_455 : decode cL_act 455 = .ok (.pop, 1) := by decide +kernel
theorem dL_act_456 : decode cL_act 456 = .ok (.aload_n 0, 1) := by decide +kernel
theorem dL_act_457 : decode cL_act 457 = .ok (.iconst 2, 1) := by decide +kernel
theorem dL_act_458 : decode cL_act 458 = .ok (.iconst 1, 1) := by decide +kernel
theorem dL_act_459 : decode cL_act 459 = .ok (.iload_n 2, 1) := by decide +kernel
theorem dL_act_460 : decode cL_act 460 = .ok (.bipush 7, 2) := by decide +kernel
theorem dL_act_462 : decode cL_act 462 = .ok (.ishr, 1) := by decide +kernel
theorem dL_act_463 : decode cL_act 463 = .ok (.iconst 3, 1) := by decide +kernel
theorem dL_act_464 : decode cL_act 464 = .ok (.iand, 1) := by decide +kernel
theorem dL_act_465 : decode cL_act 465 = .ok (.iadd, 1) := by decide +kernel
theorem dL_act_466 : decode cL_act 466 = .ok (.iload_n 2, 1) := by decide +kernel
theorem dL_act_467 : decode cL_act 467 = .ok (.bipush 9, 2) := by decide +kernel
theorem dL_act_469 : decode cL_act 469 = .ok (.ishr, 1) := by decide +kernel
theorem dL_act_470 : decode cL_act 470 = .ok (.bipush 63, 2) := by decide +kernel
theorem dL_act_472 : decode cL_act 472 = .ok (.iand, 1) := by decide +kernel
theorem dL_act_473 : decode cL_act 473 = .ok (.iload_n 2, 1) := by decide +kernel
theorem dL_act_474 : decode cL_act 474 = .ok (.bipush 15, 2) := by decide +kernel
theorem dL_act_476 : decode cL_act 476 = .ok (.ishr, 1) := by decide +kernel
theorem dL_act_477 : decode cL_act 477 = .ok (.bipush 7, 2) := by decide +kernel
theorem dL_act_479 : decode cL_act 479 = .ok (.iand, 1) := by decide +kernel
theorem dL_act_480 : decode cL_act 480 = .ok (.bipush 6, 2) := by decide +kernel
theorem dL_act_482 : decode cL_act 482 = .ok (.irem, 1) := by decide +kernel
theorem dL_act_483 : decode cL_act 483 = .ok (.iconst 1, 1) := by decide +kernel
theorem dL_act_484 : decode cL_act 484 = .ok (.isub, 1) := by decide +kernel
theorem dL_act_485 : decode cL_act 485 = .ok (.invokevirtual 85, 3) := by decide +kernel
theorem dL_act_488 : decode cL_act 488 = .ok (.ireturn, 1) := by decide +kernel
theorem dL_idle_0 : decode cL_idle 0 = .ok (.iload_n 1, 1) := by decide +kernel
theorem dL_idle_1 : decode cL_idle 1 = .ok (.ifCond .ge 17, 3) := by decide +kernel
theorem dL_idle_4 : decode cL_idle 4 = .ok (.iload_n 1, 1) := by decide +kernel
theorem dL_idle_5 : decode cL_idle 5 = .ok (.iconst (-1), 1) := by decide +kernel
theorem dL_idle_6 : decode cL_idle 6 = .ok (.if_icmp .ne 8, 3) := by decide +kernel
theorem dL_idle_9 : decode cL_idle 9 = .ok (.bipush (-2), 2) := by decide +kernel
theorem dL_idle_11 : decode cL_idle 11 = .ok (.goto 12, 3) := by decide +kernel
theorem dL_idle_14 : decode cL_idle 14 = .ok (.iload_n 1, 1) := by decide +kernel
theorem dL_idle_15 : decode cL_idle 15 = .ok (.goto 8, 3) := by decide +kernel
theorem dL_idle_18 : decode cL_idle 18 = .ok (.iload_n 1, 1) := by decide +kernel
theorem dL_idle_19 : decode cL_idle 19 = .ok (.sipush 512, 3) := by decide +kernel
theorem dL_idle_22 : decode cL_idle 22 = .ok (.ior, 1) := by decide +kernel
theorem dL_idle_23 : decode cL_idle 23 = .ok (.istore_n 2, 1) := by decide +kernel
theorem dL_idle_24 : decode cL_idle 24 = .ok (.aload_n 0, 1) := by decide +kernel
theorem dL_idle_25 : decode cL_idle 25 = .ok (.iconst 4, 1) := by decide +kernel
theorem dL_idle_26 : decode cL_idle 26 = .ok (.invokevirtual 88, 3) := by decide +kernel
theorem dL_idle_29 : decode cL_idle 29 = .ok (.istore_n 3, 1) := by decide +kernel
theorem dL_idle_30 : decode cL_idle 30 = .ok (.aload_n 0, 1) := by decide +kernel
theorem dL_idle_31 : decode cL_idle 31 = .ok (.iload_n 2, 1) := by decide +kernel
theorem dL_idle_32 : decode cL_idle 32 = .ok (.iconst 0, 1) := by decide +kernel
theorem dL_idle_33 : decode cL_idle 33 = .ok (.bipush 16, 2) := by decide +kernel
theorem dL_idle_35 : decode cL_idle 35 = .ok (.invokevirtual 7, 3) := by decide +kernel
theorem dL_idle_38 : decode cL_idle 38 = .ok (.ifCond .ne 244, 3) := by decide +kernel
theorem dL_idle_41 : decode cL_idle 41 = .ok (.aload_n 0, 1) := by decide +kernel
theorem dL_idle_42 : decode cL_idle 42 = .ok (.iconst 0, 1) := by decide +kernel
theorem dL_idle_43 : decode cL_idle 43 = .ok (.bipush 16, 2) := by decide +kernel
theorem dL_idle_45 : decode cL_idle 45 = .ok (.bipush 16, 2) := by decide +kernel
theorem dL_idle_47 : decode cL_idle 47 = .ok (.invokevirtual 7, 3) := by decide +kernel
theorem dL_idle_50 : decode cL_idle 50 = .ok (.ifCond .ne 232, 3) := by decide +kernel
theorem dL_idle_53 : decode cL_idle 53 = .ok (.aload_n 0, 1) := by decide +kernel
theorem dL_idle_54 : decode cL_idle 54 = .ok (.iconst 0, 1) := by decide +kernel
theorem dL_idle_55 : decode cL_idle 55 = .ok (.iload_n 2, 1) := by decide +kernel
theorem dL_idle_56 : decode cL_idle 56 = .ok (.invokevirtual 92, 3) := by decide +kernel
theorem dL_idle_59 : decode cL_idle 59 = .ok (.ifCond .ne 223, 3) := by decide +kernel
theorem dL_idle_62 : decode cL_idle 62 = .ok (.aload_n 0, 1) := by decide +kernel
theorem dL_idle_63 : decode cL_idle 63 = .ok (.iload_n 2, 1) := by decide +kernel
theorem dL_idle_64 : decode cL_idle 64 = .ok (.iconst 0, 1) := by decide +kernel
theorem dL_idle_65 : decode cL_idle 65 = .ok (.iconst 0, 1) := by decide +kernel
theorem dL_idle_66 : decode cL_idle 66 = .ok (.iconst 0, 1) := by decide +kernel
theorem dL_idle_67 : decode cL_idle 67 = .ok (.invokevirtual 13, 3) := by decide +kernel
theorem dL_idle_70 : decode cL_idle 70 = .ok (.iconst (-1), 1) := by decide +kernel
theorem dL_idle_71 : decode cL_idle 71 = .ok (.if_icmp .ne 211, 3) := by decide +kernel
theorem dL_idle_74 : decode cL_idle 74 = .ok (.aload_n 0, 1) := by decide +kernel
theorem dL_idle_75 : decode cL_idle 75 = .ok (.iload_n 2, 1) := by decide +kernel
theorem dL_idle_76 : decode cL_idle 76 = .ok (.iconst 0, 1) := by decide +kernel
theorem dL_idle_77 : decode cL_idle 77 = .ok (.invokevirtual 56, 3) := by decide +kernel
theorem dL_idle_80 : decode cL_idle 80 = .ok (.ifCond .ne 202, 3) := by decide +kernel
theorem dL_idle_83 : decode cL_idle 83 = .ok (.aload_n 0, 1) := by decide +kernel
theorem dL_idle_84 : decode cL_idle 84 = .ok (.iconst 0, 1) := by decide +kernel
theorem dL_idle_85 : decode cL_idle 85 = .ok (.iload_n 2, 1) := by decide +kernel
theorem dL_idle_86 : decode cL_idle 86 = .ok (.iconst 0, 1) := by decide +kernel
theorem dL_idle_87 : decode cL_idle 87 = .ok (.invokevirtual 95, 3) := by decide +kernel
theorem dL_idle_90 : decode cL_idle 90 = .ok (.iconst (-1), 1) := by decide +kernel
theorem dL_idle_91 : decode cL_idle 91 = .ok (.if_icmp .ne 191, 3) := by decide +kernel
theorem dL_idle_94 : decode cL_idle 94 = .ok (.aload_n 0, 1) := by decide +kernel
theorem dL_idle_95 : decode cL_idle 95 = .ok (.iconst 0, 1) := by decide +kernel
theorem dL_idle_96 : decode cL_idle 96 = .ok (.iload_n 2, 1) := by decide +kernel
theorem dL_idle_97 : decode cL_idle 97 = .ok (.invokevirtual 98, 3) := by decide +kernel
theorem dL_idle_100 : decode cL_idle 100 = .ok (.iconst (-1), 1) := by decide +kernel
theorem dL_idle_101 : decode cL_idle 101 = .ok (.if_icmp .ne 181, 3) := by decide +kernel
theorem dL_idle_104 : decode cL_idle 104 = .ok (.aload_n 0, 1) := by decide +kernel
theorem dL_idle_105 : decode cL_idle 105 = .ok (.iconst 0, 1) := by decide +kernel
theorem dL_idle_106 : decode cL_idle 106 = .ok (.iconst 0, 1) := by decide +kernel
theorem dL_idle_107 : decode cL_idle 107 = .ok (.iconst 0, 1) := by decide +kernel
theorem dL_idle_108 : decode cL_idle 108 = .ok (.iconst 0, 1) := by decide +kernel
theorem dL_idle_109 : decode cL_idle 109 = .ok (.iconst 0, 1) := by decide +kernel
theorem dL_idle_110 : decode cL_idle 110 = .ok (.invokevirtual 27, 3) := by decide +kernel
theorem dL_idle_113 : decode cL_idle 113 = .ok (.iconst (-1), 1) := by decide +kernel
theorem dL_idle_114 : decode cL_idle 114 = .ok (.if_icmp .ne 168, 3) := by decide +kernel
theorem dL_idle_117 : decode cL_idle 117 = .ok (.aload_n 0, 1) := by decide +kernel
theorem dL_idle_118 : decode cL_idle 118 = .ok (.iconst 1, 1) := by decide +kernel
theorem dL_idle_119 : decode cL_idle 119 = .ok (.iload_n 2, 1) := by decide +kernel
theorem dL_idle_120 : decode cL_idle 120 = .ok (.iconst 0, 1) := by decide +kernel
theorem dL_idle_121 : decode cL_idle 121 = .ok (.iconst 0, 1) := by decide +kernel
theorem dL_idle_122 : decode cL_idle 122 = .ok (.iconst 0, 1) := by decide +kernel
theorem dL_idle_123 : decode cL_idle 123 = .ok (.invokevirtual 27, 3) := by decide +kernel
theorem dL_idle_126 : decode cL_idle 126 = .ok (.iconst (-1), 1) := by decide +kernel
theorem dL_idle_127 : decode cL_idle 127 = .ok (.if_icmp .ne 155, 3) := by decide +kernel
theorem dL_idle_130 : decode cL_idle 130 = .ok (.aload_n 0, 1) := by decide +kernel
theorem dL_idle_131 : decode cL_idle 131 = .ok (.iload_n 2, 1) := by decide +kernel
theorem dL_idle_132 : decode cL_idle 132 = .ok (.iconst 0, 1) := by decide +kernel
theorem dL_idle_133 : decode cL_idle 133 = .ok (.invokevirtual 37, 3) := by decide +kernel
theorem dL_idle_136 : decode cL_idle 136 = .ok (.ifCond .ne 146, 3) := by decide +kernel
theorem dL_idle_139 : decode cL_idle 139 = .ok (.aload_n 0, 1) := by decide +kernel
theorem dL_idle_140 : decode cL_idle 140 = .ok (.iconst 0, 1) := by decide +kernel
theorem dL_idle_141 : decode cL_idle 141 = .ok (.iload_n 2, 1) := by decide +kernel
theorem dL_idle_142 : decode cL_idle 142 = .ok (.invokevirtual 37, 3) := by decide +kernel
theorem dL_idle_145 : decode cL_idle 145 = .ok (.ifCond .ne 137, 3) := by decide +kernel
theorem dL_idle_148 : decode cL_idle 148 = .ok (.aload_n 0, 1) := by decide +kernel
theorem dL_idle_149 : decode cL_idle 149 = .ok (.iconst 0, 1) := by decide +kernel
theorem dL_idle_150 : decode cL_idle 150 = .ok (.iconst 0, 1) := by decide +kernel
theorem dL_idle_151 : decode cL_idle 151 = .ok (.iconst 0, 1) := by decide +kernel
theorem dL_idle_152 : decode cL_idle 152 = .ok (.iconst 0, 1) := by decide +kernel
theorem dL_idle_153 : decode cL_idle 153 = .ok (.invokevirtual 41, 3) := by decide +kernel
theorem dL_idle_156 : decode cL_idle 156 = .ok (.ifCond .ne 126, 3) := by decide +kernel
theorem dL_idle_159 : decode cL_idle 159 = .ok (.aload_n 0, 1) := by decide +kernel
theorem dL_idle_160 : decode cL_idle 160 = .ok (.iconst 0, 1) := by decide +kernel
theorem dL_idle_161 : decode cL_idle 161 = .ok (.iload_n 2, 1) := by decide +kernel
theorem dL_idle_162 : decode cL_idle 162 = .ok (.iconst 0, 1) := by decide +kernel
theorem dL_idle_163 : decode cL_idle 163 = .ok (.iconst 0, 1) := by decide +kernel
theorem dL_idle_164 : decode cL_idle 164 = .ok (.invokevirtual 41, 3) := by decide +kernel
theorem dL_idle_167 : decode cL_idle 167 = .ok (.ifCond .ne 115, 3) := by decide +kernel
theorem dL_idle_170 : decode cL_idle 170 = .ok (.aload_n 0, 1) := by decide +kernel
theorem dL_idle_171 : decode cL_idle 171 = .ok (.iload_n 2, 1) := by decide +kernel
theorem dL_idle_172 : decode cL_idle 172 = .ok (.iconst 1, 1) := by decide +kernel
theorem dL_idle_173 : decode cL_idle 173 = .ok (.invokevirtual 45, 3) := by decide +kernel
theorem dL_idle_176 : decode cL_idle 176 = .ok (.ifCond .ne 106, 3) := by decide +kernel
theorem dL_idle_179 : decode cL_idle 179 = .ok (.aload_n 0, 1) := by decide +kernel
theorem dL_idle_180 : decode cL_idle 180 = .ok (.iconst 0, 1) := by decide +kernel
theorem dL_idle_181 : decode cL_idle 181 = .ok (.iconst 0, 1) := by decide +kernel
theorem dL_idle_182 : decode cL_idle 182 = .ok (.iconst 0, 1) := by decide +kernel
theorem dL_idle_183 : decode cL_idle 183 = .ok (.iconst 1, 1) := by decide +kernel
theorem dL_idle_184 : decode cL_idle 184 = .ok (.invokevirtual 49, 3) := by decide +kernel
theorem dL_idle_187 : decode cL_idle 187 = .ok (.iconst (-1), 1) := by decide +kernel
theorem dL_idle_188 : decode cL_idle 188 = .ok (.if_icmp .ne 94, 3) := by decide +kernel
theorem dL_idle_191 : decode cL_idle 191 = .ok (.aload_n 0, 1) := by decide +kernel
theorem dL_idle_192 : decode cL_idle 192 = .ok (.iload_n 2, 1) := by decide +kernel
theorem dL_idle_193 : decode cL_idle 193 = .ok (.iconst 0, 1) := by decide +kernel
theorem dL_idle_194 : decode cL_idle 194 = .ok (.iconst 0, 1) := by decide +kernel
theorem dL_idle_195 : decode cL_idle 195 = .ok (.iconst 0, 1) := by decide +kernel
theorem dL_idle_196 : decode cL_idle 196 = .ok (.invokevirtual 49, 3) := by decide +kernel
theorem dL_idle_199 : decode cL_idle 199 = .ok (.iconst (-1), 1) := by decide +kernel
theorem dL_idle_200 : decode cL_idle 200 = .ok (.if_icmp .ne 82, 3) := by decide +kernel
theorem dL_idle_203 : decode cL_idle 203 = .ok (.aload_n 0, 1) := by decide +kernel
theorem dL_idle_204 : decode cL_idle 204 = .ok (.iload_n 2, 1) := by decide +kernel
theorem dL_idle_205 : decode cL_idle 205 = .ok (.iconst 0, 1) := by decide +kernel
theorem dL_idle_206 : decode cL_idle 206 = .ok (.iconst 0, 1) := by decide +kernel
theorem dL_idle_207 : decode cL_idle 207 = .ok (.iconst 1, 1) := by decide +kernel
theorem dL_idle_208 : decode cL_idle 208 = .ok (.invokevirtual 53, 3) := by decide +kernel
theorem dL_idle_211 : decode cL_idle 211 = .ok (.iconst (-1), 1) := by decide +kernel
theorem dL_idle_212 : decode cL_idle 212 = .ok (.if_icmp .ne 70, 3) := by decide +kernel
theorem dL_idle_215 : decode cL_idle 215 = .ok (.aload_n 0, 1) := by decide +kernel
theorem dL_idle_216 : decode cL_idle 216 = .ok (.iconst 0, 1) := by decide +kernel
theorem dL_idle_217 : decode cL_idle 217 = .ok (.iconst 0, 1) := by decide +kernel
theorem dL_idle_218 : decode cL_idle 218 = .ok (.iconst 0, 1) := by decide +kernel
theorem dL_idle_219 : decode cL_idle 219 = .ok (.iconst 0, 1) := by decide +kernel
theorem dL_idle_220 : decode cL_idle 220 = .ok (.invokevirtual 53, 3) := by decide +kernel
theorem dL_idle_223 : decode cL_idle 223 = .ok (.iconst (-1), 1) := by decide +kernel
theorem dL_idle_224 : decode cL_idle 224 = .ok (.if_icmp .ne 58, 3) := by decide +kernel
theorem dL_idle_227 : decode cL_idle 227 = .ok (.aload_n 0, 1) := by decide +kernel
theorem dL_idle_228 : decode cL_idle 228 = .ok (.iload_n 2, 1) := by decide +kernel
theorem dL_idle_229 : decode cL_idle 229 = .ok (.iconst 0, 1) := by decide +kernel
theorem dL_idle_230 : decode cL_idle 230 = .ok (.iconst 0, 1) := by decide +kernel
theorem dL_idle_231 : decode cL_idle 231 = .ok (.invokevirtual 101, 3) := by decide +kernel
theorem dL_idle_234 : decode cL_idle 234 = .ok (.iconst (-1), 1) := by decide +kernel
theorem dL_idle_235 : decode cL_idle 235 = .ok (.if_icmp .ne 47, 3) := by decide +kernel
theorem dL_idle_238 : decode cL_idle 238 = .ok (.aload_n 0, 1) := by decide +kernel
theorem dL_idle_239 : decode cL_idle 239 = .ok (.iconst 0, 1) := by decide +kernel
theorem dL_idle_240 : decode cL_idle 240 = .ok (.iconst 0, 1) := by decide +kernel
theorem dL_idle_241 : decode cL_idle 241 = .ok (.iload_n 2, 1) := by decide +kernel
theorem dL_idle_242 : decode cL_idle 242 = .ok (.invokevirtual 59, 3) := by decide +kernel
theorem dL_idle_245 : decode cL_idle 245 = .ok (.iconst (-1), 1) := by decide +kernel
theorem dL_idle_246 : decode cL_idle 246 = .ok (.if_icmp .ne 36, 3) := by decide +kernel
theorem dL_idle_249 : decode cL_idle 249 = .ok (.aload_n 0, 1) := by decide +kernel
theorem dL_idle_250 : decode cL_idle 250 = .ok (.iload_n 2, 1) := by decide +kernel
theorem dL_idle_251 : decode cL_idle 251 = .ok (.iconst 0, 1) := by decide +kernel
theorem dL_idle_252 : decode cL_idle 252 = .ok (.invokevirtual 104, 3) := by decide +kernel
theorem dL_idle_255 : decode cL_idle 255 = .ok (.ldc2_w 108, 3) := by decide +kernel
theorem dL_idle_258 : decode cL_idle 258 = .ok (.lcmp, 1) := by decide +kernel
theorem dL_idle_259 : decode cL_idle 259 = .ok (.ifCond .ne 23, 3) := by decide +kernel
theorem dL_idle_262 : decode cL_idle 262 = .ok (.aload_n 0, 1) := by decide +kernel
theorem dL_idle_263 : decode cL_idle 263 = .ok (.iconst 0, 1) := by decide +kernel
theorem dL_idle_264 : decode cL_idle 264 = .ok (.iconst 0, 1) := by decide +kernel
theorem dL_idle_265 : decode cL_idle 265 = .ok (.iload_n 2, 1) := by decide +kernel
theorem dL_idle_266 : decode cL_idle 266 = .ok (.iconst 0, 1) := by decide +kernel
theorem dL_idle_267 : decode cL_idle 267 = .ok (.iconst 0, 1) := by decide +kernel
theorem dL_idle_268 : decode cL_idle 268 = .ok (.invokevirtual 62, 3) := by decide +kernel
theorem dL_idle_271 : decode cL_idle 271 = .ok (.ldc2_w 108, 3) := by decide +kernel
theorem dL_idle_274 : decode cL_idle 274 = .ok (.lcmp, 1) := by decide +kernel
theorem dL_idle_275 : decode cL_idle 275 = .ok (.ifCond .ne 7, 3) := by decide +kernel
theorem dL_idle_278 : decode cL_idle 278 = .ok (.iconst 1, 1) := by decide +kernel
theorem dL_idle_279 : decode cL_idle 279 = .ok (.goto 4, 3) := by decide +kernel
theorem dL_idle_282 : decode cL_idle 282 = .ok (.iconst 0, 1) := by decide +kernel
theorem dL_idle_283 : decode cL_idle 283 = .ok (.istore 4, 2) := by decide +kernel
theorem dL_idle_285 : decode cL_idle 285 = .ok (.iload 4, 2) := by decide +kernel
theorem dL_idle_287 : decode cL_idle 287 = .ok (.ifCond .eq 183, 3) := by decide +kernel
theorem dL_idle_290 : decode cL_idle 290 = .ok (.aload_n 0, 1) := by decide +kernel
theorem dL_idle_291 : decode cL_idle 291 = .ok (.iconst 0, 1) := by decide +kernel
theorem dL_idle_292 : decode cL_idle 292 = .ok (.iload_n 2, 1) := by decide +kernel
theorem dL_idle_293 : decode cL_idle 293 = .ok (.iconst 0, 1) := by decide +kernel
theorem dL_idle_294 : decode cL_idle 294 = .ok (.iconst 0, 1) := by decide +kernel
theorem dL_idle_295 : decode cL_idle 295 = .ok (.invokevirtual 110, 3) := by decide +kernel
theorem dL_idle_298 : decode cL_idle 298 = .ok (.iconst (-1), 1) := by decide +kernel
theorem dL_idle_299 : decode cL_idle 299 = .ok (.if_icmp .ne 171, 3) := by decide +kernel
theorem dL_idle_302 : decode cL_idle 302 = .ok (.aload_n 0, 1) := by decide +kernel
theorem dL_idle_303 : decode cL_idle 303 = .ok (.iload_n 2, 1) := by decide +kernel
theorem dL_idle_304 : decode cL_idle 304 = .ok (.iconst 0, 1) := by decide +kernel
theorem dL_idle_305 : decode cL_idle 305 = .ok (.iconst 0, 1) := by decide +kernel
theorem dL_idle_306 : decode cL_idle 306 = .ok (.invokevirtual 113, 3) := by decide +kernel
theorem dL_idle_309 : decode cL_idle 309 = .ok (.iconst (-1), 1) := by decide +kernel
theorem dL_idle_310 : decode cL_idle 310 = .ok (.if_icmp .ne 160, 3) := by decide +kernel
theorem dL_idle_313 : decode cL_idle 313 = .ok (.aload_n 0, 1) := by decide +kernel
theorem dL_idle_314 : decode cL_idle 314 = .ok (.iload_n 2, 1) := by decide +kernel
theorem dL_idle_315 : decode cL_idle 315 = .ok (.iconst 0, 1) := by decide +kernel
theorem dL_idle_316 : decode cL_idle 316 = .ok (.invokevirtual 116, 3) := by decide +kernel
theorem dL_idle_319 : decode cL_idle 319 = .ok (.iconst (-1), 1) := by decide +kernel
theorem dL_idle_320 : decode cL_idle 320 = .ok (.if_icmp .ne 150, 3) := by decide +kernel
theorem dL_idle_323 : decode cL_idle 323 = .ok (.aload_n 0, 1) := by decide +kernel
theorem dL_idle_324 : decode cL_idle 324 = .ok (.iconst 0, 1) := by decide +kernel
theorem dL_idle_325 : decode cL_idle 325 = .ok (.iload_n 2, 1) := by decide +kernel
theorem dL_idle_326 : decode cL_idle 326 = .ok (.iconst (-1), 1) := by decide +kernel
theorem dL_idle_327 : decode cL_idle 327 = .ok (.invokevirtual 66, 3) := by decide +kernel
theorem dL_idle_330 : decode cL_idle 330 = .ok (.iconst (-1), 1) := by decide +kernel
theorem dL_idle_331 : decode cL_idle 331 = .ok (.if_icmp .ne 139, 3) := by decide +kernel
theorem dL_idle_334 : decode cL_idle 334 = .ok (.aload_n 0, 1) := by decide +kernel
theorem dL_idle_335 : decode cL_idle 335 = .ok (.iconst 0, 1) := by decide +kernel
theorem dL_idle_336 : decode cL_idle 336 = .ok (.iconst 0, 1) := by decide +kernel
theorem dL_idle_337 : decode cL_idle 337 = .ok (.iconst 0, 1) := by decide +kernel
theorem dL_idle_338 : decode cL_idle 338 = .ok (.invokevirtual 69, 3) := by decide +kernel
theorem dL_idle_341 : decode cL_idle 341 = .ok (.iconst (-1), 1) := by decide +kernel
theorem dL_idle_342 : decode cL_idle 342 = .ok (.if_icmp .ne 128, 3) := by decide +kernel
theorem dL_idle_345 : decode cL_idle 345 = .ok (.aload_n 0, 1) := by decide +kernel
theorem dL_idle_346 : decode cL_idle 346 = .ok (.iconst 0, 1) := by decide +kernel
theorem dL_idle_347 : decode cL_idle 347 = .ok (.iconst 0, 1) := by decide +kernel
theorem dL_idle_348 : decode cL_idle 348 = .ok (.iconst 3, 1) := by decide +kernel
theorem dL_idle_349 : decode cL_idle 349 = .ok (.invokevirtual 72, 3) := by decide +kernel
theorem dL_idle_352 : decode cL_idle 352 = .ok (.iconst (-1), 1) := by decide +kernel
theorem dL_idle_353 : decode cL_idle 353 = .ok (.if_icmp .ne 117, 3) := by decide +kernel
theorem dL_idle_356 : decode cL_idle 356 = .ok (.aload_n 0, 1) := by decide +kernel
theorem dL_idle_357 : decode cL_idle 357 = .ok (.iload_n 2, 1) := by decide +kernel
theorem dL_idle_358 : decode cL_idle 358 = .ok (.iconst 0, 1) := by decide +kernel
theorem dL_idle_359 : decode cL_idle 359 = .ok (.iconst 0, 1) := by decide +kernel
theorem dL_idle_360 : decode cL_idle 360 = .ok (.iconst 0, 1) := by decide +kernel
theorem dL_idle_361 : decode cL_idle 361 = .ok (.invokevirtual 75, 3) := by decide +kernel
theorem dL_idle_364 : decode cL_idle 364 = .ok (.iconst (-1), 1) := by decide +kernel
theorem dL_idle_365 : decode cL_idle 365 = .ok (.if_icmp .ne 105, 3) := by decide +kernel
theorem dL_idle_368 : decode cL_idle 368 = .ok (.aload_n 0, 1) := by decide +kernel
theorem dL_idle_369 : decode cL_idle 369 = .ok (.iconst 0, 1) := by decide +kernel
theorem dL_idle_370 : decode cL_idle 370 = .ok (.iconst 1, 1) := by decide +kernel
theorem dL_idle_371 : decode cL_idle 371 = .ok (.iconst 0, 1) := by decide +kernel
theorem dL_idle_372 : decode cL_idle 372 = .ok (.iconst (-1), 1) := by decide +kernel
theorem dL_idle_373 : decode cL_idle 373 = .ok (.invokevirtual 85, 3) := by decide +kernel
theorem dL_idle_376 : decode cL_idle 376 = .ok (.bipush (-3), 2) := by decide +kernel
theorem dL_idle_378 : decode cL_idle 378 = .ok (.if_icmp .ne 92, 3) := by decide +kernel
theorem dL_idle_381 : decode cL_idle 381 = .ok (.aload_n 0, 1) := by decide +kernel
theorem dL_idle_382 : decode cL_idle 382 = .ok (.iconst 0, 1) := by decide +kernel
theorem dL_idle_383 : decode cL_idle 383 = .ok (.bipush 17, 2) := by decide +kernel
theorem dL_idle_385 : decode cL_idle 385 = .ok (.iconst 0, 1) := by decide +kernel
theorem dL_idle_386 : decode cL_idle 386 = .ok (.invokevirtual 78, 3) := by decide +kernel
theorem dL_idle_389 : decode cL_idle 389 = .ok (.iconst (-1), 1) := by decide +kernel
theorem dL_idle_390 : decode cL_idle 390 = .ok (.if_icmp .ne 80, 3) := by decide +kernel
theorem dL_idle_393 : decode cL_idle 393 = .ok (.aload_n 0, 1) := by decide +kernel
theorem dL_idle_394 : decode cL_idle 394 = .ok (.iconst 0, 1) := by decide +kernel
theorem dL_idle_395 : decode cL_idle 395 = .ok (.iconst 0, 1) := by decide +kernel
theorem dL_idle_396 : decode cL_idle 396 = .ok (.invokevirtual 81, 3) := by decide +kernel
theorem dL_idle_399 : decode cL_idle 399 = .ok (.iconst (-1), 1) := by decide +kernel
theorem dL_idle_400 : decode cL_idle 400 = .ok (.if_icmp .ne 70, 3) := by decide +kernel
theorem dL_idle_403 : decode cL_idle 403 = .ok (.aload_n 0, 1) := by decide +kernel
theorem dL_idle_404 : decode cL_idle 404 = .ok (.iload_n 2, 1) := by decide +kernel
theorem dL_idle_405 : decode cL_idle 405 = .ok (.invokevirtual 119, 3) := by decide +kernel
theorem dL_idle_408 : decode cL_idle 408 = .ok (.iconst (-1), 1) := by decide +kernel
theorem dL_idle_409 : decode cL_idle 409 = .ok (.if_icmp .ne 61, 3) := by decide +kernel
theorem dL_idle_412 : decode cL_idle 412 = .ok (.aload_n 0, 1) := by decide +kernel
theorem dL_idle_413 : decode cL_idle 413 = .ok (.iconst 0, 1) := by decide +kernel
theorem dL_idle_414 : decode cL_idle 414 = .ok (.iload_n 2, 1) := by decide +kernel
theorem dL_idle_415 : decode cL_idle 415 = .ok (.iconst 0, 1) := by decide +kernel
theorem dL_idle_416 : decode cL_idle 416 = .ok (.invokevirtual 122, 3) := by decide +kernel
theorem dL_idle_419 : decode cL_idle 419 = .ok (.iconst (-1), 1) := by decide +kernel
theorem dL_idle_420 : decode cL_idle 420 = .ok (.if_icmp .ne 50, 3) := by decide +kernel
theorem dL_idle_423 : decode cL_idle 423 = .ok (.aload_n 0, 1) := by decide +kernel
theorem dL_idle_424 : decode cL_idle 424 = .ok (.iload_n 2, 1) := by decide +kernel
theorem dL_idle_425 : decode cL_idle 425 = .ok (.iconst 0, 1) := by decide +kernel
theorem dL_idle_426 : decode cL_idle 426 = .ok (.iconst 0, 1) := by decide +kernel
theorem dL_idle_427 : decode cL_idle 427 = .ok (.invokevirtual 125, 3) := by decide +kernel
theorem dL_idle_430 : decode cL_idle 430 = .ok (.bipush (-2), 2) := by decide +kernel
theorem dL_idle_432 : decode cL_idle 432 = .ok (.if_icmp .ne 38, 3) := by decide +kernel
theorem dL_idle_435 : decode cL_idle 435 = .ok (.aload_n 0, 1) := by decide +kernel
theorem dL_idle_436 : decode cL_idle 436 = .ok (.iconst 0, 1) := by decide +kernel
theorem dL_idle_437 : decode cL_idle 437 = .ok (.iconst 0, 1) := by decide +kernel
theorem dL_idle_438 : decode cL_idle 438 = .ok (.iconst 5, 1) := by decide +kernel
theorem dL_idle_439 : decode cL_idle 439 = .ok (.invokevirtual 125, 3) := by decide +kernel
theorem dL_idle_442 : decode cL_idle 442 = .ok (.bipush (-2), 2) := by decide +kernel
theorem dL_idle_444 : decode cL_idle 444 = .ok (.if_icmp .ne 26, 3) := by decide +kernel
theorem dL_idle_447 : decode cL_idle 447 = .ok (.aload_n 0, 1) := by decide +kernel
theorem dL_idle_448 : decode cL_idle 448 = .ok (.bipush 6, 2) := by decide +kernel
theorem dL_idle_450 : decode cL_idle 450 = .ok (.invokevirtual 88, 3) := by decide +kernel
theorem dL_idle_453 : decode cL_idle 453 = .ok (.iconst (-1), 1) := by decide +kernel
theorem dL_idle_454 : decode cL_idle 454 = .ok (.if_icmp .ne 16, 3) := by decide +kernel
theorem dL_idle_457 : decode cL_idle 457 = .ok (.aload_n 0, 1) := by decide +kernel
theorem dL_idle_458 : decode cL_idle 458 = .ok (.iload_n 2, 1) := by decide +kernel
theorem dL_idle_459 : decode cL_idle 459 = .ok (.invokevirtual 88, 3) := by decide +kernel
theorem dL_idle_462 : decode cL_idle 462 = .ok (.iconst (-1), 1) := by decide +kernel
theorem dL_idle_463 : decode cL_idle 463 = .ok (.if_icmp .ne 7, 3) := by decide +kernel
theorem dL_idle_466 : decode cL_idle 466 = .ok (.iconst 1, 1) := by decide +kernel
theorem dL_idle_467 : decode cL_idle 467 = .ok (.goto 4, 3) := by decide +kernel
theorem dL_idle_470 : decode cL_idle 470 = .ok (.iconst 0, 1) := by decide +kernel
theorem dL_idle_471 : decode cL_idle 471 = .ok (.istore 4, 2) := by decide +kernel
theorem dL_idle_473 : decode cL_idle 473 = .ok (.iload 4, 2) := by decide +kernel
theorem dL_idle_475 : decode cL_idle 475 = .ok (.ifCond .eq 16, 3) := by decide +kernel
theorem dL_idle_478 : decode cL_idle 478 = .ok (.aload_n 0, 1) := by decide +kernel
theorem dL_idle_479 : decode cL_idle 479 = .ok (.iconst 4, 1) := by decide +kernel
theorem dL_idle_480 : decode cL_idle 480 = .ok (.invokevirtual 88, 3) := by decide +kernel
theorem dL_idle_483 : decode cL_idle 483 = .ok (.iload_n 3, 1) := by decide +kernel
theorem dL_idle_484 : decode cL_idle 484 = .ok (.if_icmp .ne 7, 3) := by decide +kernel
theorem dL_idle_487 : decode cL_idle 487 = .ok (.iconst 1, 1) := by decide +kernel
theorem dL_idle_488 : decode cL_idle 488 = .ok (.goto 4, 3) := by decide +kernel
theorem dL_idle_491 : decode cL_idle 491 = .ok (.iconst 0, 1) := by decide +kernel
theorem dL_idle_492 : decode cL_idle 492 = .ok (.ireturn, 1) := by decide +kernel