theorem dL_law_0 : decode cL_law 0 = .ok (.new 8, 3) := by decide +kernel
theorem dL_law_3 : decode cL_law 3 = .ok (.dup, 1) := by decide +kernel
theorem dL_law_4 : decode cL_law 4 = .ok (.invokespecial 128, 3) := by decide +kernel
theorem dL_law_7 : decode cL_law 7 = .ok (.astore_n 1, 1) := by decide +kernel
theorem dL_law_8 : decode cL_law 8 = .ok (.new 8, 3) := by decide +kernel
theorem dL_law_11 : decode cL_law 11 = .ok (.dup, 1) := by decide +kernel
theorem dL_law_12 : decode cL_law 12 = .ok (.invokespecial 128, 3) := by decide +kernel
theorem dL_law_15 : decode cL_law 15 = .ok (.astore_n 2, 1) := by decide +kernel
theorem dL_law_16 : decode cL_law 16 = .ok (.bipush 76, 2) := by decide +kernel
theorem dL_law_18 : decode cL_law 18 = .ok (.newarray .int, 2) := by decide +kernel
theorem dL_law_20 : decode cL_law 20 = .ok (.dup, 1) := by decide +kernel
theorem dL_law_21 : decode cL_law 21 = .ok (.iconst 0, 1) := by decide +kernel
theorem dL_law_22 : decode cL_law 22 = .ok (.iconst 0, 1) := by decide +kernel
theorem dL_law_23 : decode cL_law 23 = .ok (.iastore, 1) := by decide +kernel
theorem dL_law_24 : decode cL_law 24 = .ok (.dup, 1) := by decide +kernel
theorem dL_law_25 : decode cL_law 25 = .ok (.iconst 1, 1) := by decide +kernel
theorem dL_law_26 : decode cL_law 26 = .ok (.iconst 0, 1) := by decide +kernel
theorem dL_law_27 : decode cL_law 27 = .ok (.iastore, 1) := by decide +kernel
theorem dL_law_28 : decode cL_law 28 = .ok (.dup, 1) := by decide +kernel
theorem dL_law_29 : decode cL_law 29 = .ok (.iconst 2, 1) := by decide +kernel
theorem dL_law_30 : decode cL_law 30 = .ok (.iconst 0, 1) := by decide +kernel
theorem dL_law_31 : decode cL_law 31 = .ok (.iastore, 1) := by decide +kernel
theorem dL_law_32 : decode cL_law 32 = .ok (.dup, 1) := by decide +kernel
theorem dL_law_33 : decode cL_law 33 = .ok (.iconst 3, 1) := by decide +kernel
theorem dL_law_34 : decode cL_law 34 = .ok (.iconst 0, 1) := by decide +kernel
theorem dL_law_35 : decode cL_law 35 = .ok (.iastore, 1) := by decide +kernel
theorem dL_law_36 : decode cL_law 36 = .ok (.dup, 1) := by decide +kernel
theorem dL_law_37 : decode cL_law 37 = .ok (.iconst 4, 1) := by decide +kernel
theorem dL_law_38 : decode cL_law 38 = .ok (.iconst 0, 1) := by decide +kernel
theorem dL_law_39 : decode cL_law 39 = .ok (.iastore, 1) := by decide +kernel
theorem dL_law_40 : decode cL_law 40 = .ok (.dup, 1) := by decide +kernel
theorem dL_law_41 : decode cL_law 41 = .ok (.iconst 5, 1) := by decide +kernel
theorem dL_law_42 : decode cL_law 42 = .ok (.iconst 0, 1) := by decide +kernel
theorem dL_law_43 : decode cL_law 43 = .ok (.iastore, 1) := by decide +kernel
theorem dL_law_44 : decode cL_law 44 = .ok (.dup, 1) := by decide +kernel
theorem dL_law_45 : decode cL_law 45 = .ok (.bipush 6, 2) := by decide +kernel
theorem dL_law_47 : decode cL_law 47 = .ok (.iconst 0, 1) := by decide +kernel
theorem dL_law_48 : decode cL_law 48 = .ok (.iastore, 1) := by decide +kernel
theorem dL_law_49 : decode cL_law 49 = .ok (.dup, 1) := by decide +kernel
theorem dL_law_50 : decode cL_law 50 = .ok (.bipush 7, 2) := by decide +kernel
theorem dL_law_52 : decode cL_law 52 = .ok (.iconst 0, 1) := by decide +kernel
theorem dL_law_53 : decode cL_law 53 = .ok (.iastore, 1) := by decide +kernel
theorem dL_law_54 : decode cL_law 54 = .ok (.dup, 1) := by decide +kernel
theorem dL_law_55 : decode cL_law 55 = .ok (.bipush 8, 2) := by decide +kernel
theorem dL_law_57 : decode cL_law 57 = .ok (.iconst 0, 1) := by decide +kernel
theorem dL_law_58 : decode cL_law 58 = .ok (.iastore, 1) := by decide +kernel
theorem dL_law_59 : decode cL_law 59 = .ok (.dup, 1) := by decide +kernel
theorem dL_law_60 : decode cL_law 60 = .ok (.bipush 9, 2) := by decide +kernel
theorem dL_law_62 : decode cL_law 62 = .ok (.iconst 0, 1) := by decide +kernel
theorem dL_law_63 : decode cL_law 63 = .ok (.iastore, 1) := by decide +kernel
theorem dL_law_64 : decode cL_law 64 = .ok (.dup, 1) := by decide +kernel
theorem dL_law_65 : decode cL_law 65 = .ok (.bipush 10, 2) := by decide +kernel
theorem dL_law_67 : decode cL_law 67 = .ok (.iconst 0, 1) := by decide +kernel
theorem dL_law_68 : decode cL_law 68 = .ok (.iastore, 1) := by decide +kernel
theorem dL_law_69 : decode cL_law 69 = .ok (.dup, 1) := by decide +kernel
theorem dL_law_70 : decode cL_law 70 = .ok (.bipush 11, 2) := by decide +kernel
theorem dL_law_72 : decode cL_law 72 = .ok (.iconst 0, 1) := by decide +kernel
theorem dL_law_73 : decode cL_law 73 = .ok (.iastore, 1) := by decide +kernel
theorem dL_law_74 : decode cL_law 74 = .ok (.dup, 1) := by decide +kernel
theorem dL_law_75 : decode cL_law 75 = .ok (.bipush 12, 2) := by decide +kernel
theorem dL_law_77 : decode cL_law 77 = .ok (.iconst 0, 1) := by decide +kernel
theorem dL_law_78 : decode cL_law 78 = .ok (.iastore, 1) := by decide +kernel
theorem dL_law_79 : decode cL_law 79 = .ok (.dup, 1) := by decide +kernel
theorem dL_law_80 : decode cL_law 80 = .ok (.bipush 13, 2) := by decide +kernel
theorem dL_law_82 : decode cL_law 82 = .ok (.iconst 0, 1) := by decide +kernel
theorem dL_law_83 : decode cL_law 83 = .ok (.iastore, 1) := by decide +kernel
theorem dL_law_84 : decode cL_law 84 = .ok (.dup, 1) := by decide +kernel
theorem dL_law_85 : decode cL_law 85 = .ok (.bipush 14, 2) := by decide +kernel
theorem dL_law_87 : decode cL_law 87 = .ok (.iconst 0, 1) := by decide +kernel
theorem dL_law_88 : decode cL_law 88 = .ok (.iastore, 1) := by decide +kernel
theorem dL_law_89 : decode cL_law 89 = .ok (.dup, 1) := by decide +kernel
theorem dL_law_90 : decode cL_law 90 = .ok (.bipush 15, 2) := by decide +kernel
theorem dL_law_92 : decode cL_law 92 = .ok (.iconst 0, 1) := by decide +kernel
theorem dL_law_93 : decode cL_law 93 = .ok (.iastore, 1) := by decide +kernel
theorem dL_law_94 : decode cL_law 94 = .ok (.dup, 1) := by decide +kernel
theorem dL_law_95 : decode cL_law 95 = .ok (.bipush 16, 2) := by decide +kernel
theorem dL_law_97 : decode cL_law 97 = .ok (.iconst 0, 1) := by decide +kernel
theorem dL_law_98 : decode cL_law 98 = .ok (.iastore, 1) := by decide +kernel
theorem dL_law_99 : decode cL_law 99 = .ok (.dup, 1) := by decide +kernel
theorem dL_law_100 : decode cL_law 100 = .ok (.bipush 17, 2) := by decide +kernel
theorem dL_law_102 : decode cL_law 102 = .ok (.iconst 0, 1) := by decide +kernel
theorem dL_law_103 : decode cL_law 103 = .ok (.iastore, 1) := by decide +kernel
theorem dL_law_104 : decode cL_law 104 = .ok (.dup, 1) := by decide +kernel
theorem dL_law_105 : decode cL_law 105 = .ok (.bipush 18, 2) := by decide +kernel
theorem dL_law_107 : decode cL_law 107 = .ok (.iconst 0, 1) := by decide +kernel
theorem dL_law_108 : decode cL_law 108 = .ok (.iastore, 1) := by decide +kernel
theorem dL_law_109 : decode cL_law 109 = .ok (.dup, 1) := by decide +kernel
theorem dL_law_110 : decode cL_law 110 = .ok (.bipush 19, 2) := by decide +kernel
theorem dL_law_112 : decode cL_law 112 = .ok (.iconst 0, 1) := by decide +kernel
theorem dL_law_113 : decode cL_law 113 = .ok (.iastore, 1) := by decide +kernel
theorem dL_law_114 : decode cL_law 114 = .ok (.dup, 1) := by decide +kernel
theorem dL_law_115 : decode cL_law 115 = .ok (.bipush 20, 2) := by decide +kernel
theorem dL_law_117 : decode cL_law 117 = .ok (.iconst 0, 1) := by decide +kernel
theorem dL_law_118 : decode cL_law 118 = .ok (.iastore, 1) := by decide +kernel
theorem dL_law_119 : decode cL_law 119 = .ok (.dup, 1) := by decide +kernel
theorem dL_law_120 : decode cL_law 120 = .ok (.bipush 21, 2) := by decide +kernel
theorem dL_law_122 : decode cL_law 122 = .ok (.iconst 0, 1) := by decide +kernel
theorem dL_law_123 : decode cL_law 123 = .ok (.iastore, 1) := by decide +kernel
theorem dL_law_124 : decode cL_law 124 = .ok (.dup, 1) := by decide +kernel
theorem dL_law_125 : decode cL_law 125 = .ok (.bipush 22, 2) := by decide +kernel
theorem dL_law_127 : decode cL_law 127 = .ok (.iconst 0, 1) := by decide +kernel
theorem dL_law_128 : decode cL_law 128 = .ok (.iastore, 1) := by decide +kernel
theorem dL_law_129 : decode cL_law 129 = .ok (.dup, 1) := by decide +kernel
theorem dL_law_130 : decode cL_law 130 = .ok (.bipush 23, 2) := by decide +kernel
theorem dL_law_132 : decode cL_law 132 = .ok (.iconst 0, 1) := by decide +kernel
theorem dL_law_133 : decode cL_law 133 = .ok (.iastore, 1) := by decide +kernel
theorem dL_law_134 : decode cL_law 134 = .ok (.dup, 1) := by decide +kernel
theorem dL_law_135 : decode cL_law 135 = .ok (.bipush 24, 2) := by decide +kernel
theorem dL_law_137 : decode cL_law 137 = .ok (.iconst 0, 1) := by decide +kernel
theorem dL_law_138 : decode cL_law 138 = .ok (.iastore, 1) := by decide +kernel
theorem dL_law_139 : decode cL_law 139 = .ok (.dup, 1) := by decide +kernel
theorem dL_law_140 : decode cL_law 140 = .ok (.bipush 25, 2) := by decide +kernel
theorem dL_law_142 : decode cL_law 142 = .ok (.iconst 0, 1) := by decide +kernel
theorem dL_law_143 : decode cL_law 143 = .ok (.iastore, 1) := by decide +kernel
theorem dL_law_144 : decode cL_law 144 = .ok (.dup, 1) := by decide +kernel
theorem dL_law_145 : decode cL_law 145 = .ok (.bipush 26, 2) := by decide +kernel
theorem dL_law_147 : decode cL_law 147 = .ok (.iconst 0, 1) := by decide +kernel
theorem dL_law_148 : decode cL_law 148 = .ok (.iastore, 1) := by decide +kernel
theorem dL_law_149 : decode cL_law 149 = .ok (.dup, 1) := by decide +kernel
theorem dL_law_150 : decode cL_law 150 = .ok (.bipush 27, 2) := by decide +kernel
theorem dL_law_152 : decode cL_law 152 = .ok (.iconst 0, 1) := by decide +kernel
theorem dL_law_153 : decode cL_law 153 = .ok (.iastore, 1) := by decide +kernel
theorem dL_law_154 : decode cL_law 154 = .ok (.dup, 1) := by decide +kernel
theorem dL_law_155 : decode cL_law 155 = .ok (.bipush 28, 2) := by decide +kernel
theorem dL_law_157 : decode cL_law 157 = .ok (.iconst 0, 1) := by decide +kernel
theorem dL_law_158 : decode cL_law 158 = .ok (.iastore, 1) := by decide +kernel
theorem dL_law_159 : decode cL_law 159 = .ok (.dup, 1) := by decide +kernel
theorem dL_law_160 : decode cL_law 160 = .ok (.bipush 29, 2) := by decide +kernel
theorem dL_law_162 : decode cL_law 162 = .ok (.iconst 0, 1) := by decide +kernel
theorem dL_law_163 : decode cL_law 163 = .ok (.iastore, 1) := by decide +kernel
theorem dL_law_164 : decode cL_law 164 = .ok (.dup, 1) := by decide +kernel
theorem dL_law_165 : decode cL_law 165 = .ok (.bipush 30, 2) := by decide +kernel
theorem dL_law_167 : decode cL_law 167 = .ok (.iconst 0, 1) := by decide +kernel
theorem dL_law_168 : decode cL_law 168 = .ok (.iastore, 1) := by decide +kernel
theorem dL_law_169 : decode cL_law 169 = .ok (.dup, 1) := by decide +kernel
theorem dL_law_170 : decode cL_law 170 = .ok (.bipush 31, 2) := by decide +kernel
theorem dL_law_172 : decode cL_law 172 = .ok (.iconst 0, 1) := by decide +kernel
theorem dL_law_173 : decode cL_law 173 = .ok (.iastore, 1) := by decide +kernel
theorem dL_law_174 : decode cL_law 174 = .ok (.dup, 1) := by decide +kernel
theorem dL_law_175 : decode cL_law 175 = .ok (.bipush 32, 2) := by decide +kernel
theorem dL_law_177 : decode cL_law 177 = .ok (.iconst 0, 1) := by decide +kernel
theorem dL_law_178 : decode cL_law 178 = .ok (.iastore, 1) := by decide +kernel
theorem dL_law_179 : decode cL_law 179 = .ok (.dup, 1) := by decide +kernel
theorem dL_law_180 : decode cL_law 180 = .ok (.bipush 33, 2) := by decide +kernel
theorem dL_law_182 : decode cL_law 182 = .ok (.iconst 0, 1) := by decide +kernel
theorem dL_law_183 : decode cL_law 183 = .ok (.iastore, 1) := by decide +kernel
theorem dL_law_184 : decode cL_law 184 = .ok (.dup, 1) := by decide +kernel
theorem dL_law_185 : decode cL_law 185 = .ok (.bipush 34, 2) := by decide +kernel
theorem dL_law_187 : decode cL_law 187 = .ok (.iconst 0, 1) := by decide +kernel
theorem dL_law_188 : decode cL_law 188 = .ok (.iastore, 1) := by decide +kernel
theorem dL_law_189 : decode cL_law 189 = .ok (.dup, 1) := by decide +kernel
theorem dL_law_190 : decode cL_law 190 = .ok (.bipush 35, 2) := by decide +kernel
theorem dL_law_192 : decode cL_law 192 = .ok (.iconst 0, 1) := by decide +kernel
theorem dL_law_193 : decode cL_law 193 = .ok (.iastore, 1) := by decide +kernel
theorem dL_law_194 : decode cL_law 194 = .ok (.dup, 1) := by decide +kernel
theorem dL_law_195 : decode cL_law 195 = .ok (.bipush 36, 2) := by decide +kernel
theorem dL_law_197 : decode cL_law 197 = .ok (.iconst 0, 1) := by decide +kernel
theorem dL_law_198 : decode cL_law 198 = .ok (.iastore, 1) := by decide +kernel
theorem dL_law_199 : decode cL_law 199 = .ok (.dup, 1) := by decide +kernel
theorem dL_law_200 : decode cL_law 200 = .ok (.bipush 37, 2) := by decide +kernel
theorem dL_law_202 : decode cL_law 202 = .ok (.iconst 0, 1) := by decide +kernel
theorem dL_law_203 : decode cL_law 203 = .ok (.iastore, 1) := by decide +kernel
theorem dL_law_204 : decode cL_law 204 = .ok (.dup, 1) := by decide +kernel
theorem dL_law_205 : decode cL_law 205 = .ok (.bipush 38, 2) := by decide +kernel
theorem dL_law_207 : decode cL_law 207 = .ok (.iconst 0, 1) := by decide +kernel
theorem dL_law_208 : decode cL_law 208 = .ok (.iastore, 1) := by decide +kernel
theorem dL_law_209 : decode cL_law 209 = .ok (.dup, 1) := by decide +kernel
theorem dL_law_210 : decode cL_law 210 = .ok (.bipush 39, 2) := by decide +kernel
theorem dL_law_212 : decode cL_law 212 = .ok (.iconst 0, 1) := by decide +kernel
theorem dL_law_213 : decode cL_law 213 = .ok (.iastore, 1) := by decide +kernel
theorem dL_law_214 : decode cL_law 214 = .ok (.dup, 1) := by decide +kernel
theorem dL_law_215 : decode cL_law 215 = .ok (.bipush 40, 2) := by decide +kernel
theorem dL_law_217 : decode cL_law 217 = .ok (.iconst 0, 1) := by decide +kernel
theorem dL_law_218 : decode cL_law 218 = .ok (.iastore, 1) := by decide +kernel
theorem dL_law_219 : decode cL_law 219 = .ok (.dup, 1) := by decide +kernel
theorem dL_law_220 : decode cL_law 220 = .ok (.bipush 41, 2) := by decide +kernel
theorem dL_law_222 : decode cL_law 222 = .ok (.iconst 0, 1) := by decide +kernel
theorem dL_law_223 : decode cL_law 223 = .ok (.iastore, 1) := by decide +kernel
theorem dL_law_224 : decode cL_law 224 = .ok (.dup, 1) := by decide +kernel
theorem dL_law_225 : decode cL_law 225 = .ok (.bipush 42, 2) := by decide +kernel
theorem dL_law_227 : decode cL_law 227 = .ok (.iconst 0, 1) := by decide +kernel
theorem dL_law_228 : decode cL_law 228 = .ok (.iastore, 1) := by decide +kernel
theorem dL_law_229 : decode cL_law 229 = .ok (.dup, 1) := by decide +kernel
theorem dL_law_230 : decode cL_law 230 = .ok (.bipush 43, 2) := by decide +kernel
theorem dL_law_232 : decode cL_law 232 = .ok (.iconst 0, 1) := by decide +kernel
theorem dL_law_233 : decode cL_law 233 = .ok (.iastore, 1) := by decide +kernel
theorem dL_law_234 : decode cL_law 234 = .ok (.dup, 1) := by decide +kernel
theorem dL_law_235 : decode cL_law 235 = .ok (.bipush 44, 2) := by decide +kernel
theorem dL_law_237 : decode cL_law 237 = .ok (.iconst 0, 1) := by decide +kernel
theorem dL_law_238 : decode cL_law 238 = .ok (.iastore, 1) := by decide +kernel
theorem dL_law_239 : decode cL_law 239 = .ok (.dup, 1) := by decide +kernel
theorem dL_law_240 : decode cL_law 240 = .ok (.bipush 45, 2) := by decide +kernel
theorem dL_law_242 : decode cL_law 242 = .ok (.iconst 0, 1) := by decide +kernel
theorem dL_law_243 : decode cL_law 243 = .ok (.iastore, 1) := by decide +kernel
theorem dL_law_244 : decode cL_law 244 = .ok (.dup, 1) := by decide +kernel
theorem dL_law_245 : decode cL_law 245 = .ok (.bipush 46, 2) := by decide +kernel
theorem dL_law_247 : decode cL_law 247 = .ok (.iconst 0, 1) := by decide +kernel
theorem dL_law_248 : decode cL_law 248 = .ok (.iastore, 1) := by decide +kernel
theorem dL_law_249 : decode cL_law 249 = .ok (.dup, 1) := by decide +kernel
theorem dL_law_250 : decode cL_law 250 = .ok (.bipush 47, 2) := by decide +kernel
theorem dL_law_252 : decode cL_law 252 = .ok (.iconst 0, 1) := by decide +kernel
theorem dL_law_253 : decode cL_law 253 = .ok (.iastore, 1) := by decide +kernel
theorem dL_law_254 : decode cL_law 254 = .ok (.dup, 1) := by decide +kernel
theorem dL_law_255 : decode cL_law 255 = .ok (.bipush 48, 2) := by decide +kernel
theorem dL_law_257 : decode cL_law 257 = .ok (.iconst 0, 1) := by decide +kernel
theorem dL_law_258 : decode cL_law 258 = .ok (.iastore, 1) := by decide +kernel
theorem dL_law_259 : decode cL_law 259 = .ok (.dup, 1) := by decide +kernel
theorem dL_law_260 : decode cL_law 260 = .ok (.bipush 49, 2) := by decide +kernel
theorem dL_law_262 : decode cL_law 262 = .ok (.iconst 0, 1) := by decide +kernel
theorem dL_law_263 : decode cL_law 263 = .ok (.iastore, 1) := by decide +kernel
theorem dL_law_264 : decode cL_law 264 = .ok (.dup, 1) := by decide +kernel
theorem dL_law_265 : decode cL_law 265 = .ok (.bipush 50, 2) := by decide +kernel
theorem dL_law_267 : decode cL_law 267 = .ok (.iconst 0, 1) := by decide +kernel
theorem dL_law_268 : decode cL_law 268 = .ok (.iastore, 1) := by decide +kernel
theorem dL_law_269 : decode cL_law 269 = .ok (.dup, 1) := by decide +kernel
theorem dL_law_270 : decode cL_law 270 = .ok (.bipush 51, 2) := by decide +kernel
theorem dL_law_272 : decode cL_law 272 = .ok (.iconst 0, 1) := by decide +kernel
theorem dL_law_273 : decode cL_law 273 = .ok (.iastore, 1) := by decide +kernel
theorem dL_law_274 : decode cL_law 274 = .ok (.dup, 1) := by decide +kernel
theorem dL_law_275 : decode cL_law 275 = .ok (.bipush 52, 2) := by decide +kernel
theorem dL_law_277 : decode cL_law 277 = .ok (.iconst 0, 1) := by decide +kernel
theorem dL_law_278 : decode cL_law 278 = .ok (.iastore, 1) := by decide +kernel
theorem dL_law_279 : decode cL_law 279 = .ok (.dup, 1) := by decide +kernel
theorem dL_law_280 : decode cL_law 280 = .ok (.bipush 53, 2) := by decide +kernel
theorem dL_law_282 : decode cL_law 282 = .ok (.iconst 0, 1) := by decide +kernel
theorem dL_law_283 : decode cL_law 283 = .ok (.iastore, 1) := by decide +kernel
theorem dL_law_284 : decode cL_law 284 = .ok (.dup, 1) := by decide +kernel
theorem dL_law_285 : decode cL_law 285 = .ok (.bipush 54, 2) := by decide +kernel
theorem dL_law_287 : decode cL_law 287 = .ok (.iconst 0, 1) := by decide +kernel
theorem dL_law_288 : decode cL_law 288 = .ok (.iastore, 1) := by decide +kernel
theorem dL_law_289 : decode cL_law 289 = .ok (.dup, 1) := by decide +kernel
theorem dL_law_290 : decode cL_law 290 = .ok (.bipush 55, 2) := by decide +kernel
theorem dL_law_292 : decode cL_law 292 = .ok (.iconst 0, 1) := by decide +kernel
theorem dL_law_293 : decode cL_law 293 = .ok (.iastore, 1) := by decide +kernel
theorem dL_law_294 : decode cL_law 294 = .ok (.dup, 1) := by decide +kernel
theorem dL_law_295 : decode cL_law 295 = .ok (.bipush 56, 2) := by decide +kernel
theorem dL_law_297 : decode cL_law 297 = .ok (.iconst 0, 1) := by decide +kernel
theorem dL_law_298 : decode cL_law 298 = .ok (.iastore, 1) := by decide +kernel
theorem dL_law_299 : decode cL_law 299 = .ok (.dup, 1) := by decide +kernel
theorem dL_law_300 : decode cL_law 300 = .ok (.bipush 57, 2) := by decide +kernel
theorem dL_law_302 : decode cL_law 302 = .ok (.iconst 0, 1) := by decide +kernel
theorem dL_law_303 : decode cL_law 303 = .ok (.iastore, 1) := by decide +kernel
theorem dL_law_304 : decode cL_law 304 = .ok (.dup, 1) := by decide +kernel
theorem dL_law_305 : decode cL_law 305 = .ok (.bipush 58, 2) := by decide +kernel
theorem dL_law_307 : decode cL_law 307 = .ok (.iconst 0, 1) := by decide +kernel
theorem dL_law_308 : decode cL_law 308 = .ok (.iastore, 1) := by decide +kernel
theorem dL_law_309 : decode cL_law 309 = .ok (.dup, 1) := by decide +kernel
theorem dL_law_310 : decode cL_law 310 = .ok (.bipush 59, 2) := by decide +kernel
theorem dL_law_312 : decode cL_law 312 = .ok (.iconst 0, 1) := by decide +kernel
theorem dL_law_313 : decode cL_law 313 = .ok (.iastore, 1) := by decide +kernel
theorem dL_law_314 : decode cL_law 314 = .ok (.dup, 1) := by decide +kernel
theorem dL_law_315 : decode cL_law 315 = .ok (.bipush 60, 2) := by decide +kernel
theorem dL_law_317 : decode cL_law 317 = .ok (.iconst 0, 1) := by decide +kernel
theorem dL_law_318 : decode cL_law 318 = .ok (.iastore, 1) := by decide +kernel
theorem dL_law_319 : decode cL_law 319 = .ok (.dup, 1) := by decide +kernel
theorem dL_law_320 : decode cL_law 320 = .ok (.bipush 61, 2) := by decide +kernel
theorem dL_law_322 : decode cL_law 322 = .ok (.iconst 0, 1) := by decide +kernel
theorem dL_law_323 : decode cL_law 323 = .ok (.iastore, 1) := by decide +kernel
theorem dL_law_324 : decode cL_law 324 = .ok (.dup, 1) := by decide +kernel
theorem dL_law_325 : decode cL_law 325 = .ok (.bipush 62, 2) := by decide +kernel
theorem dL_law_327 : decode cL_law 327 = .ok (.iconst 0, 1) := by decide +kernel
theorem dL_law_328 : decode cL_law 328 = .ok (.iastore, 1) := by decide +kernel
theorem dL_law_329 : decode cL_law 329 = .ok (.dup, 1) := by decide +kernel
theorem dL_law_330 : decode cL_law 330 = .ok (.bipush 63, 2) := by decide +kernel
theorem dL_law_332 : decode cL_law 332 = .ok (.iconst 0, 1) := by decide +kernel
theorem dL_law_333 : decode cL_law 333 = .ok (.iastore, 1) := by decide +kernel
theorem dL_law_334 : decode cL_law 334 = .ok (.dup, 1) := by decide +kernel
theorem dL_law_335 : decode cL_law 335 = .ok (.bipush 64, 2) := by decide +kernel
theorem dL_law_337 : decode cL_law 337 = .ok (.iconst 0, 1) := by decide +kernel
theorem dL_law_338 : decode cL_law 338 = .ok (.iastore, 1) := by decide +kernel
theorem dL_law_339 : decode cL_law 339 = .ok (.dup, 1) := by decide +kernel
theorem dL_law_340 : decode cL_law 340 = .ok (.bipush 65, 2) := by decide +kernel
theorem dL_law_342 : decode cL_law 342 = .ok (.iconst 0, 1) := by decide +kernel
theorem dL_law_343 : decode cL_law 343 = .ok (.iastore, 1) := by decide +kernel
theorem dL_law_344 : decode cL_law 344 = .ok (.dup, 1) := by decide +kernel
theorem dL_law_345 : decode cL_law 345 = .ok (.bipush 66, 2) := by decide +kernel
theorem dL_law_347 : decode cL_law 347 = .ok (.iconst 0, 1) := by decide +kernel
theorem dL_law_348 : decode cL_law 348 = .ok (.iastore, 1) := by decide +kernel
theorem dL_law_349 : decode cL_law 349 = .ok (.dup, 1) := by decide +kernel
theorem dL_law_350 : decode cL_law 350 = .ok (.bipush 67, 2) := by decide +kernel
theorem dL_law_352 : decode cL_law 352 = .ok (.iconst 0, 1) := by decide +kernel
theorem dL_law_353 : decode cL_law 353 = .ok (.iastore, 1) := by decide +kernel
theorem dL_law_354 : decode cL_law 354 = .ok (.dup, 1) := by decide +kernel
theorem dL_law_355 : decode cL_law 355 = .ok (.bipush 68, 2) := by decide +kernel
theorem dL_law_357 : decode cL_law 357 = .ok (.iconst 0, 1) := by decide +kernel
theorem dL_law_358 : decode cL_law 358 = .ok (.iastore, 1) := by decide +kernel
theorem dL_law_359 : decode cL_law 359 = .ok (.dup, 1) := by decide +kernel
theorem dL_law_360 : decode cL_law 360 = .ok (.bipush 69, 2) := by decide +kernel
theorem dL_law_362 : decode cL_law 362 = .ok (.iconst 0, 1) := by decide +kernel
theorem dL_law_363 : decode cL_law 363 = .ok (.iastore, 1) := by decide +kernel
theorem dL_law_364 : decode cL_law 364 = .ok (.dup, 1) := by decide +kernel
theorem dL_law_365 : decode cL_law 365 = .ok (.bipush 70, 2) := by decide +kernel
theorem dL_law_367 : decode cL_law 367 = .ok (.iconst 0, 1) := by decide +kernel
theorem dL_law_368 : decode cL_law 368 = .ok (.iastore, 1) := by decide +kernel
theorem dL_law_369 : decode cL_law 369 = .ok (.dup, 1) := by decide +kernel
theorem dL_law_370 : decode cL_law 370 = .ok (.bipush 71, 2) := by decide +kernel
theorem dL_law_372 : decode cL_law 372 = .ok (.iconst 0, 1) := by decide +kernel
theorem dL_law_373 : decode cL_law 373 = .ok (.iastore, 1) := by decide +kernel
theorem dL_law_374 : decode cL_law 374 = .ok (.dup, 1) := by decide +kernel
theorem dL_law_375 : decode cL_law 375 = .ok (.bipush 72, 2) := by decide +kernel
theorem dL_law_377 : decode cL_law 377 = .ok (.iconst 0, 1) := by decide +kernel
theorem dL_law_378 : decode cL_law 378 = .ok (.iastore, 1) := by decide +kernel
theorem dL_law_379 : decode cL_law 379 = .ok (.dup, 1) := by decide +kernel
theorem dL_law_380 : decode cL_law 380 = .ok (.bipush 73, 2) := by decide +kernel
theorem dL_law_382 : decode cL_law 382 = .ok (.iconst 0, 1) := by decide +kernel
theorem dL_law_383 : decode cL_law 383 = .ok (.iastore, 1) := by decide +kernel
theorem dL_law_384 : decode cL_law 384 = .ok (.dup, 1) := by decide +kernel
theorem dL_law_385 : decode cL_law 385 = .ok (.bipush 74, 2) := by decide +kernel
theorem dL_law_387 : decode cL_law 387 = .ok (.iconst 0, 1) := by decide +kernel
theorem dL_law_388 : decode cL_law 388 = .ok (.iastore, 1) := by decide +kernel
theorem dL_law_389 : decode cL_law 389 = .ok (.dup, 1) := by decide +kernel
theorem dL_law_390 : decode cL_law 390 = .ok (.bipush 75, 2) := by decide +kernel
theorem dL_law_392 : decode cL_law 392 = .ok (.iconst 0, 1) := by decide +kernel
theorem dL_law_393 : decode cL_law 393 = .ok (.iastore, 1) := by decide +kernel
theorem dL_law_394 : decode cL_law 394 = .ok (.astore_n 3, 1) := by decide +kernel
theorem dL_law_395 : decode cL_law 395 = .ok (.aload_n 1, 1) := by decide +kernel
theorem dL_law_396 : decode cL_law 396 = .ok (.aload_n 0, 1) := by decide +kernel
theorem dL_law_397 : decode cL_law 397 = .ok (.aload_n 3, 1) := by decide +kernel
theorem dL_law_398 : decode cL_law 398 = .ok (.invokestatic 129, 3) := by decide +kernel
theorem dL_law_401 : decode cL_law 401 = .ok (.istore 4, 2) := by decide +kernel
theorem dL_law_403 : decode cL_law 403 = .ok (.iload 4, 2) := by decide +kernel
theorem dL_law_405 : decode cL_law 405 = .ok (.ifCond .le 18, 3) := by decide +kernel
theorem dL_law_408 : decode cL_law 408 = .ok (.aload_n 2, 1) := by decide +kernel
theorem dL_law_409 : decode cL_law 409 = .ok (.aload_n 0, 1) := by decide +kernel
theorem dL_law_410 : decode cL_law 410 = .ok (.aload_n 3, 1) := by decide +kernel
theorem dL_law_411 : decode cL_law 411 = .ok (.invokestatic 129, 3) := by decide +kernel
theorem dL_law_414 : decode cL_law 414 = .ok (.iload 4, 2) := by decide +kernel
theorem dL_law_416 : decode cL_law 416 = .ok (.if_icmp .ne 7, 3) := by decide +kernel
theorem dL_law_419 : decode cL_law 419 = .ok (.iconst 1, 1) := by decide +kernel
theorem dL_law_420 : decode cL_law 420 = .ok (.goto 4, 3) := by decide +kernel
theorem dL_law_423 : decode cL_law 423 = .ok (.iconst 0, 1) := by decide +kernel
theorem dL_law_424 : decode cL_law 424 = .ok (.istore 5, 2) := by decide +kernel
theorem dL_law_426 : decode cL_law 426 = .ok (.aload_n 1, 1) := by decide +kernel
theorem dL_law_427 : decode cL_law 427 = .ok (.ldc 133, 2) := by decide +kernel
theorem dL_law_429 : decode cL_law 429 = .ok (.iconst 0, 1) := by decide +kernel
theorem dL_law_430 : decode cL_law 430 = .ok (.iconst 0, 1) := by decide +kernel
theorem dL_law_431 : decode cL_law 431 = .ok (.iconst 0, 1) := by decide +kernel
theorem dL_law_432 : decode cL_law 432 = .ok (.iconst 0, 1) := by decide +kernel
theorem dL_law_433 : decode cL_law 433 = .ok (.invokevirtual 23, 3) := by decide +kernel
theorem dL_law_436 : decode cL_law 436 = .ok (.pop, 1) := by decide +kernel
theorem dL_law_437 : decode cL_law 437 = .ok (.aload_n 2, 1) := by decide +kernel
theorem dL_law_438 : decode cL_law 438 = .ok (.ldc 133, 2) := by decide +kernel
theorem dL_law_440 : decode cL_law 440 = .ok (.iconst 0, 1) := by decide +kernel
theorem dL_law_441 : decode cL_law 441 = .ok (.iconst 0, 1) := by decide +kernel
theorem dL_law_442 : decode cL_law 442 = .ok (.iconst 0, 1) := by decide +kernel
theorem dL_law_443 : decode cL_law 443 = .ok (.iconst 0, 1) := by decide +kernel
theorem dL_law_444 : decode cL_law 444 = .ok (.invokevirtual 23, 3) := by decide +kernel
theorem dL_law_447 : decode cL_law 447 = .ok (.pop, 1) := by decide +kernel
theorem dL_law_448 : decode cL_law 448 = .ok (.iload 5, 2) := by decide +kernel
theorem dL_law_450 : decode cL_law 450 = .ok (.ifCond .eq 33, 3) := by decide +kernel
theorem dL_law_453 : decode cL_law 453 = .ok (.aload_n 1, 1) := by decide +kernel
theorem dL_law_454 : decode cL_law 454 = .ok (.iconst 4, 1) := by decide +kernel
theorem dL_law_455 : decode cL_law 455 = .ok (.iconst 1, 1) := by decide +kernel
theorem dL_law_456 : decode cL_law 456 = .ok (.iconst 2, 1) := by decide +kernel
theorem dL_law_457 : decode cL_law 457 = .ok (.iconst 1, 1) := by decide +kernel
theorem dL_law_458 : decode cL_law 458 = .ok (.iconst 2, 1) := by decide +kernel
theorem dL_law_459 : decode cL_law 459 = .ok (.invokevirtual 27, 3) := by decide +kernel
theorem dL_law_462 : decode cL_law 462 = .ok (.iconst 1, 1) := by decide +kernel
theorem dL_law_463 : decode cL_law 463 = .ok (.if_icmp .ne 20, 3) := by decide +kernel
theorem dL_law_466 : decode cL_law 466 = .ok (.aload_n 2, 1) := by decide +kernel
theorem dL_law_467 : decode cL_law 467 = .ok (.iconst 4, 1) := by decide +kernel
theorem dL_law_468 : decode cL_law 468 = .ok (.iconst 1, 1) := by decide +kernel
theorem dL_law_469 : decode cL_law 469 = .ok (.iconst 2, 1) := by decide +kernel
theorem dL_law_470 : decode cL_law 470 = .ok (.iconst 1, 1) := by decide +kernel
theorem dL_law_471 : decode cL_law 471 = .ok (.iconst 2, 1) := by decide +kernel
theorem dL_law_472 : decode cL_law 472 = .ok (.invokevirtual 27, 3) := by decide +kernel
theorem dL_law_475 : decode cL_law 475 = .ok (.iconst 1, 1) := by decide +kernel
theorem dL_law_476 : decode cL_law 476 = .ok (.if_icmp .ne 7, 3) := by decide +kernel
theorem dL_law_479 : decode cL_law 479 = .ok (.iconst 1, 1) := by decide +kernel
theorem dL_law_480 : decode cL_law 480 = .ok (.goto 4, 3) := by decide +kernel
theorem dL_law_483 : decode cL_law 483 = .ok (.iconst 0, 1) := by decide +kernel
theorem dL_law_484 : decode cL_law 484 = .ok (.istore 5, 2) := by decide +kernel
theorem dL_law_486 : decode cL_law 486 = .ok (.bipush 9, 2) := by decide +kernel
theorem dL_law_488 : decode cL_law 488 = .ok (.istore 6, 2) := by decide +kernel
theorem dL_law_490 : decode cL_law 490 = .ok (.iload 6, 2) := by decide +kernel
theorem dL_law_492 : decode cL_law 492 = .ok (.iconst 1, 1) := by decide +kernel
theorem dL_law_493 : decode cL_law 493 = .ok (.iadd, 1) := by decide +kernel
theorem dL_law_494 : decode cL_law 494 = .ok (.aload_n 0, 1) := by decide +kernel
theorem dL_law_495 : decode cL_law 495 = .ok (.arraylength, 1) := by decide +kernel
theorem dL_law_496 : decode cL_law 496 = .ok (.if_icmp .ge 303, 3) := by decide +kernel
theorem dL_law_499 : decode cL_law 499 = .ok (.iload 6, 2) := by decide +kernel
theorem dL_law_501 : decode cL_law 501 = .ok (.bipush 25, 2) := by decide +kernel
theorem dL_law_503 : decode cL_law 503 = .ok (.if_icmp .ge 296, 3) := by decide +kernel
theorem dL_law_506 : decode cL_law 506 = .ok (.iload 5, 2) := by decide +kernel
theorem dL_law_508 : decode cL_law 508 = .ok (.ifCond .eq 73, 3) := by decide +kernel
theorem dL_law_511 : decode cL_law 511 = .ok (.aload_n 0, 1) := by decide +kernel
theorem dL_law_512 : decode cL_law 512 = .ok (.iload 6, 2) := by decide +kernel
theorem dL_law_514 : decode cL_law 514 = .ok (.iconst 1, 1) := by decide +kernel
theorem dL_law_515 : decode cL_law 515 = .ok (.iadd, 1) := by decide +kernel
theorem dL_law_516 : decode cL_law 516 = .ok (.iaload, 1) := by decide +kernel
theorem dL_law_517 : decode cL_law 517 = .ok (.iconst (-1), 1) := by decide +kernel
theorem dL_law_518 : decode cL_law 518 = .ok (.if_icmp .eq 16, 3) := by decide +kernel
theorem dL_law_521 : decode cL_law 521 = .ok (.aload_n 2, 1) := by decide +kernel
theorem dL_law_522 : decode cL_law 522 = .ok (.aload_n 0, 1) := by decide +kernel
theorem dL_law_523 : decode cL_law 523 = .ok (.iload 6, 2) := by decide +kernel
theorem dL_law_525 : decode cL_law 525 = .ok (.iconst 1, 1) := by decide +kernel
theorem dL_law_526 : decode cL_law 526 = .ok (.iadd, 1) := by decide +kernel
theorem dL_law_527 : decode cL_law 527 = .ok (.iaload, 1) := by decide +kernel
theorem dL_law_528 : decode cL_law 528 = .ok (.invokestatic 134, 3) := by decide +kernel
theorem dL_law_531 : decode cL_law 531 = .ok (.ifCond .eq 50, 3) := by decide +kernel
theorem dL_law_534 : decode cL_law 534 = .ok (.aload_n 1, 1) := by decide +kernel
theorem dL_law_535 : decode cL_law 535 = .ok (.aload_n 0, 1) := by decide +kernel
theorem dL_law_536 : decode cL_law 536 = .ok (.iload 6, 2) := by decide +kernel
theorem dL_law_538 : decode cL_law 538 = .ok (.iaload, 1) := by decide +kernel
theorem dL_law_539 : decode cL_law 539 = .ok (.iconst 1, 1) := by decide +kernel
theorem dL_law_540 : decode cL_law 540 = .ok (.ishr, 1) := by decide +kernel
theorem dL_law_541 : decode cL_law 541 = .ok (.aload_n 0, 1) := by decide +kernel
theorem dL_law_542 : decode cL_law 542 = .ok (.iload 6, 2) := by decide +kernel
theorem dL_law_544 : decode cL_law 544 = .ok (.iconst 1, 1) := by decide +kernel
theorem dL_law_545 : decode cL_law 545 = .ok (.iadd, 1) := by decide +kernel
theorem dL_law_546 : decode cL_law 546 = .ok (.iaload, 1) := by decide +kernel
theorem dL_law_547 : decode cL_law 547 = .ok (.invokestatic 138, 3) := by decide +kernel
theorem dL_law_550 : decode cL_law 550 = .ok (.aload_n 2, 1) := by decide +kernel
theorem dL_law_551 : decode cL_law 551 = .ok (.aload_n 0, 1) := by decide +kernel
theorem dL_law_552 : decode cL_law 552 = .ok (.iload 6, 2) := by decide +kernel
theorem dL_law_554 : decode cL_law 554 = .ok (.iaload, 1) := by decide +kernel
theorem dL_law_555 : decode cL_law 555 = .ok (.iconst 1, 1) := by decide +kernel
theorem dL_law_556 : decode cL_law 556 = .ok (.ishr, 1) := by decide +kernel
theorem dL_law_557 : decode cL_law 557 = .ok (.aload_n 0, 1) := by decide +kernel
theorem dL_law_558 : decode cL_law 558 = .ok (.iload 6, 2) := by decide +kernel
theorem dL_law_560 : decode cL_law 560 = .ok (.iconst 1, 1) := by decide +kernel
theorem dL_law_561 : decode cL_law 561 = .ok (.iadd, 1) := by decide +kernel
theorem dL_law_562 : decode cL_law 562 = .ok (.iaload, 1) := by decide +kernel
theorem dL_law_563 : decode cL_law 563 = .ok (.invokestatic 138, 3) := by decide +kernel
theorem dL_law_566 : decode cL_law 566 = .ok (.if_icmp .ne 15, 3) := by decide +kernel
theorem dL_law_569 : decode cL_law 569 = .ok (.aload_n 1, 1) := by decide +kernel
theorem dL_law_570 : decode cL_law 570 = .ok (.aload_n 2, 1) := by decide +kernel
theorem dL_law_571 : decode cL_law 571 = .ok (.invokestatic 142, 3) := by decide +kernel
theorem dL_law_574 : decode cL_law 574 = .ok (.ifCond .eq 7, 3) := by decide +kernel
theorem dL_law_577 : decode cL_law 577 = .ok (.iconst 1, 1) := by decide +kernel
theorem dL_law_578 : decode cL_law 578 = .ok (.goto 4, 3) := by decide +kernel
theorem dL_law_581 : decode cL_law 581 = .ok (.iconst 0, 1) := by decide +kernel
theorem dL_law_582 : decode cL_law 582 = .ok (.istore 5, 2) := by decide +kernel
theorem dL_law_584 : decode cL_law 584 = .ok (.iconst 0, 1) := by decide +kernel
theorem dL_law_585 : decode cL_law 585 = .ok (.istore 7, 2) := by decide +kernel
theorem dL_law_587 : decode cL_law 587 = .ok (.iload 7, 2) := by decide +kernel
theorem dL_law_589 : decode cL_law 589 = .ok (.iconst 2, 1) := by decide +kernel
theorem dL_law_590 : decode cL_law 590 = .ok (.if_icmp .ge 203, 3) := by decide +kernel
theorem dL_law_593 : decode cL_law 593 = .ok (.aload_n 1, 1) := by decide +kernel
theorem dL_law_594 : decode cL_law 594 = .ok (.iload 7, 2) := by decide +kernel
theorem dL_law_596 : decode cL_law 596 = .ok (.iconst 1, 1) := by decide +kernel
theorem dL_law_597 : decode cL_law 597 = .ok (.invokevirtual 104, 3) := by decide +kernel
theorem dL_law_600 : decode cL_law 600 = .ok (.lconst 0, 1) := by decide +kernel
theorem dL_law_601 : decode cL_law 601 = .ok (.lcmp, 1) := by decide +kernel
theorem dL_law_602 : decode cL_law 602 = .ok (.ifCond .le 7, 3) := by decide +kernel
theorem dL_law_605 : decode cL_law 605 = .ok (.iconst 1, 1) := by decide +kernel
theorem dL_law_606 : decode cL_law 606 = .ok (.goto 4, 3) := by decide +kernel
theorem dL_law_609 : decode cL_law 609 = .ok (.iconst 0, 1) := by decide +kernel
theorem dL_law_610 : decode cL_law 610 = .ok (.istore 8, 2) := by decide +kernel
theorem dL_law_612 : decode cL_law 612 = .ok (.aload_n 1, 1) := by decide +kernel
theorem dL_law_613 : decode cL_law 613 = .ok (.iload 7, 2) := by decide +kernel
theorem dL_law_615 : decode cL_law 615 = .ok (.iconst 1, 1) := by decide +kernel
theorem dL_law_616 : decode cL_law 616 = .ok (.bipush 8, 2) := by decide +kernel
theorem dL_law_618 : decode cL_law 618 = .ok (.invokevirtual 66, 3) := by decide +kernel
theorem dL_law_621 : decode cL_law 621 = .ok (.istore 9, 2) := by decide +kernel
theorem dL_law_623 : decode cL_law 623 = .ok (.iload 5, 2) := by decide +kernel
theorem dL_law_625 : decode cL_law 625 = .ok (.ifCond .eq 49, 3) := by decide +kernel
theorem dL_law_628 : decode cL_law 628 = .ok (.aload_n 1, 1) := by decide +kernel
theorem dL_law_629 : decode cL_law 629 = .ok (.iload 7, 2) := by decide +kernel
theorem dL_law_631 : decode cL_law 631 = .ok (.iconst 1, 1) := by decide +kernel
theorem dL_law_632 : decode cL_law 632 = .ok (.invokevirtual 116, 3) := by decide +kernel
theorem dL_law_635 : decode cL_law 635 = .ok (.ifCond .ne 7, 3) := by decide +kernel
theorem dL_law_638 : decode cL_law 638 = .ok (.iconst 1, 1) := by decide +kernel
theorem dL_law_639 : decode cL_law 639 = .ok (.goto 4, 3) := by decide +kernel
theorem dL_law_642 : decode cL_law 642 = .ok (.iconst 0, 1) := by decide +kernel
theorem dL_law_643 : decode cL_law 643 = .ok (.iload 8, 2) := by decide +kernel
theorem dL_law_645 : decode cL_law 645 = .ok (.if_icmp .ne 29, 3) := by decide +kernel
theorem dL_law_648 : decode cL_law 648 = .ok (.aload_n 1, 1) := by decide +kernel
theorem dL_law_649 : decode cL_law 649 = .ok (.iload 7, 2) := by decide +kernel
theorem dL_law_651 : decode cL_law 651 = .ok (.iconst 2, 1) := by decide +kernel
theorem dL_law_652 : decode cL_law 652 = .ok (.iconst 1, 1) := by decide +kernel
theorem dL_law_653 : decode cL_law 653 = .ok (.invokevirtual 69, 3) := by decide +kernel
theorem dL_law_656 : decode cL_law 656 = .ok (.aload_n 1, 1) := by decide +kernel
theorem dL_law_657 : decode cL_law 657 = .ok (.iload 7, 2) := by decide +kernel
theorem dL_law_659 : decode cL_law 659 = .ok (.iconst 1, 1) := by decide +kernel
theorem dL_law_660 : decode cL_law 660 = .ok (.iconst 1, 1) := by decide +kernel
theorem dL_law_661 : decode cL_law 661 = .ok (.invokevirtual 69, 3) := by decide +kernel
theorem dL_law_664 : decode cL_law 664 = .ok (.iconst (-1), 1) := by decide +kernel
theorem dL_law_665 : decode cL_law 665 = .ok (.ixor, 1) := by decide +kernel
theorem dL_law_666 : decode cL_law 666 = .ok (.iand, 1) := by decide +kernel
theorem dL_law_667 : decode cL_law 667 = .ok (.ifCond .ne 7, 3) := by decide +kernel
theorem dL_law_670 : decode cL_law 670 = .ok (.iconst 1, 1) := by decide +kernel
theorem dL_law_671 : decode cL_law 671 = .ok (.goto 4, 3) := by decide +kernel
theorem dL_law_674 : decode cL_law 674 = .ok (.iconst 0, 1) := by decide +kernel
theorem dL_law_675 : decode cL_law 675 = .ok (.istore 5, 2) := by decide +kernel
theorem dL_law_677 : decode cL_law 677 = .ok (.iconst 0, 1) := by decide +kernel
theorem dL_law_678 : decode cL_law 678 = .ok (.istore 10, 2) := by decide +kernel
theorem dL_law_680 : decode cL_law 680 = .ok (.iload 10, 2) := by decide +kernel
theorem dL_law_682 : decode cL_law 682 = .ok (.iconst 5, 1) := by decide +kernel
theorem dL_law_683 : decode cL_law 683 = .ok (.if_icmp .ge 104, 3) := by decide +kernel
theorem dL_law_686 : decode cL_law 686 = .ok (.aload_n 1, 1) := by decide +kernel
theorem dL_law_687 : decode cL_law 687 = .ok (.iload 7, 2) := by decide +kernel
theorem dL_law_689 : decode cL_law 689 = .ok (.iload 10, 2) := by decide +kernel
theorem dL_law_691 : decode cL_law 691 = .ok (.iconst 0, 1) := by decide +kernel
theorem dL_law_692 : decode cL_law 692 = .ok (.invokevirtual 59, 3) := by decide +kernel
theorem dL_law_695 : decode cL_law 695 = .ok (.istore 11, 2) := by decide +kernel
theorem dL_law_697 : decode cL_law 697 = .ok (.aload_n 1, 1) := by decide +kernel
theorem dL_law_698 : decode cL_law 698 = .ok (.iload 7, 2) := by decide +kernel
theorem dL_law_700 : decode cL_law 700 = .ok (.iconst 1, 1) := by decide +kernel
theorem dL_law_701 : decode cL_law 701 = .ok (.iload 10, 2) := by decide +kernel
theorem dL_law_703 : decode cL_law 703 = .ok (.invokevirtual 66, 3) := by decide +kernel
theorem dL_law_706 : decode cL_law 706 = .ok (.istore 12, 2) := by decide +kernel
theorem dL_law_708 : decode cL_law 708 = .ok (.iload 5, 2) := by decide +kernel
theorem dL_law_710 : decode cL_law 710 = .ok (.ifCond .eq 68, 3) := by decide +kernel
theorem dL_law_713 : decode cL_law 713 = .ok (.iload 11, 2) := by decide +kernel
theorem dL_law_715 : decode cL_law 715 = .ok (.ifCond .lt 21, 3) := by decide +kernel
theorem dL_law_718 : decode cL_law 718 = .ok (.aload_n 1, 1) := by decide +kernel
theorem dL_law_719 : decode cL_law 719 = .ok (.iload 7, 2) := by decide +kernel
theorem dL_law_721 : decode cL_law 721 = .ok (.iload 10, 2) := by decide +kernel
theorem dL_law_723 : decode cL_law 723 = .ok (.bipush 15, 2) := by decide +kernel
theorem dL_law_725 : decode cL_law 725 = .ok (.invokevirtual 59, 3) := by decide +kernel
theorem dL_law_728 : decode cL_law 728 = .ok (.iload 11, 2) := by decide +kernel
theorem dL_law_730 : decode cL_law 730 = .ok (.iconst (-1), 1) := by decide +kernel
theorem dL_law_731 : decode cL_law 731 = .ok (.ixor, 1) := by decide +kernel
theorem dL_law_732 : decode cL_law 732 = .ok (.iand, 1) := by decide +kernel
theorem dL_law_733 : decode cL_law 733 = .ok (.ifCond .ne 45, 3) := by decide +kernel
theorem dL_law_736 : decode cL_law 736 = .ok (.iload 8, 2) := by decide +kernel
theorem dL_law_738 : decode cL_law 738 = .ok (.ifCond .eq 36, 3) := by decide +kernel
theorem dL_law_741 : decode cL_law 741 = .ok (.iload 12, 2) := by decide +kernel
theorem dL_law_743 : decode cL_law 743 = .ok (.ifCond .lt 31, 3) := by decide +kernel
theorem dL_law_746 : decode cL_law 746 = .ok (.iload 9, 2) := by decide +kernel
theorem dL_law_748 : decode cL_law 748 = .ok (.iload 10, 2) := by decide +kernel
theorem dL_law_750 : decode cL_law 750 = .ok (.ishr, 1) := by decide +kernel
theorem dL_law_751 : decode cL_law 751 = .ok (.iconst 1, 1) := by decide +kernel
theorem dL_law_752 : decode cL_law 752 = .ok (.iand, 1) := by decide +kernel
theorem dL_law_753 : decode cL_law 753 = .ok (.ifCond .eq 21, 3) := by decide +kernel
theorem dL_law_756 : decode cL_law 756 = .ok (.aload_n 1, 1) := by decide +kernel
theorem dL_law_757 : decode cL_law 757 = .ok (.iload 7, 2) := by decide +kernel
theorem dL_law_759 : decode cL_law 759 = .ok (.iload 10, 2) := by decide +kernel
theorem dL_law_761 : decode cL_law 761 = .ok (.iload 12, 2) := by decide +kernel
theorem dL_law_763 : decode cL_law 763 = .ok (.invokestatic 146, 3) := by decide +kernel
theorem dL_law_766 : decode cL_law 766 = .ok (.iconst 1, 1) := by decide +kernel
theorem dL_law_767 : decode cL_law 767 = .ok (.invokevirtual 110, 3) := by decide +kernel
theorem dL_law_770 : decode cL_law 770 = .ok (.iconst 2, 1) := by decide +kernel
theorem dL_law_771 : decode cL_law 771 = .ok (.if_icmp .ne 7, 3) := by decide +kernel
theorem dL_law_774 : decode cL_law 774 = .ok (.iconst 1, 1) := by decide +kernel
theorem dL_law_775 : decode cL_law 775 = .ok (.goto 4, 3) := by decide +kernel
theorem dL_law_778 : decode cL_law 778 = .ok (.iconst 0, 1) := by decide +kernel
theorem dL_law_779 : decode cL_law 779 = .ok (.istore 5, 2) := by decide +kernel
theorem dL_law_781 : decode cL_law 781 = .ok (.iinc 10 1, 3) := by decide +kernel
theorem dL_law_784 : decode cL_law 784 = .ok (.goto (-104), 3) := by decide +kernel
theorem dL_law_787 : decode cL_law 787 = .ok (.iinc 7 1, 3) := by decide +kernel
theorem dL_law_790 : decode cL_law 790 = .ok (.goto (-203), 3) := by decide +kernel
theorem dL_law_793 : decode cL_law 793 = .ok (.iinc 6 2, 3) := by decide +kernel
theorem dL_law_796 : decode cL_law 796 = .ok (.goto (-306), 3) := by decide +kernel
theorem dL_law_799 : decode cL_law 799 = .ok (.iload 5, 2) := by decide +kernel
theorem dL_law_801 : decode cL_law 801 = .ok (.ireturn, 1) := by decide +kernel