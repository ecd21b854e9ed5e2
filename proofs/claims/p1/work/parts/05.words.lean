theorem mm_0 : Cond.selects RX3 yX3_climb yX3_climb ∈ zGW := List.mem_filter.mpr ⟨List.mem_of_getElem? (i := 0) (by decide +kernel), by decide +kernel⟩
theorem mm_3 : Cond.selects RX8 yX8_isPerson yX8_isPerson ∈ zGW := List.mem_filter.mpr ⟨List.mem_of_getElem? (i := 3) (by decide +kernel), by decide +kernel⟩
theorem mm_18 : Cond.selects RX8 yX8_isLive yX8_isLive ∈ zGW := List.mem_filter.mpr ⟨List.mem_of_getElem? (i := 18) (by decide +kernel), by decide +kernel⟩
theorem mm_19 : Cond.selects RX8 yX8_isLine yX8_isLine ∈ zGW := List.mem_filter.mpr ⟨List.mem_of_getElem? (i := 19) (by decide +kernel), by decide +kernel⟩
theorem mm_20 : Cond.selects RX8 yX8_isBook yX8_isBook ∈ zGW := List.mem_filter.mpr ⟨List.mem_of_getElem? (i := 20) (by decide +kernel), by decide +kernel⟩
theorem mm_23 : Cond.selects RX8 yX8_shownBooks yX8_shownBooks ∈ zGW := List.mem_filter.mpr ⟨List.mem_of_getElem? (i := 23) (by decide +kernel), by decide +kernel⟩
theorem mm_50 : Cond.selects RX8 yX8_toldGossips yX8_toldGossips ∈ zGW := List.mem_filter.mpr ⟨List.mem_of_getElem? (i := 50) (by decide +kernel), by decide +kernel⟩
theorem mm_108 : Cond.initialized RX8 ∈ zGW := List.mem_filter.mpr ⟨List.mem_of_getElem? (i := 108) (by decide +kernel), by decide +kernel⟩
theorem mm_109 : Cond.initialized RX7 ∈ zGW := List.mem_filter.mpr ⟨List.mem_of_getElem? (i := 109) (by decide +kernel), by decide +kernel⟩
theorem mm_110 : Cond.initialized RX5 ∈ zGW := List.mem_filter.mpr ⟨List.mem_of_getElem? (i := 110) (by decide +kernel), by decide +kernel⟩
theorem mm_111 : Cond.initialized RX6 ∈ zGW := List.mem_filter.mpr ⟨List.mem_of_getElem? (i := 111) (by decide +kernel), by decide +kernel⟩
theorem mm_112 : Cond.initialized RX0 ∈ zGW := List.mem_filter.mpr ⟨List.mem_of_getElem? (i := 112) (by decide +kernel), by decide +kernel⟩
theorem mm_113 : Cond.initialized RX1 ∈ zGW := List.mem_filter.mpr ⟨List.mem_of_getElem? (i := 113) (by decide +kernel), by decide +kernel⟩
theorem mm_114 : Cond.initialized RX4 ∈ zGW := List.mem_filter.mpr ⟨List.mem_of_getElem? (i := 114) (by decide +kernel), by decide +kernel⟩
theorem mm_115 : Cond.initialized RX3 ∈ zGW := List.mem_filter.mpr ⟨List.mem_of_getElem? (i := 115) (by decide +kernel), by decide +kernel⟩
theorem mm_116 : Cond.initialized RX2 ∈ zGW := List.mem_filter.mpr ⟨List.mem_of_getElem? (i := 116) (by decide +kernel), by decide +kernel⟩
theorem mm_125 : Cond.methodLink RX8 1 objectInit ∈ zGW := List.mem_filter.mpr ⟨List.mem_of_getElem? (i := 125) (by decide +kernel), by decide +kernel⟩
theorem mm_126 : Cond.instanceMethod objectInit ∈ zGW := List.mem_filter.mpr ⟨List.mem_of_getElem? (i := 126) (by decide +kernel), by decide +kernel⟩
theorem mm_127 : Cond.code objectInit ⟨#[0xb1]⟩ 1 none ∈ zGW := List.mem_filter.mpr ⟨List.mem_of_getElem? (i := 127) (by decide +kernel), by decide +kernel⟩
theorem mm_128 : Cond.classLink RX8 9 RX3 ∈ zGW := List.mem_filter.mpr ⟨List.mem_of_getElem? (i := 128) (by decide +kernel), by decide +kernel⟩
theorem mm_130 : Cond.classLink RX8 19 RX7 ∈ zGW := List.mem_filter.mpr ⟨List.mem_of_getElem? (i := 130) (by decide +kernel), by decide +kernel⟩
theorem mm_131 : Cond.instantiable RX7 2 ∈ zGW := List.mem_filter.mpr ⟨List.mem_of_getElem? (i := 131) (by decide +kernel), by decide +kernel⟩
theorem mm_133 : Cond.instanceMethod yX7_init ∈ zGW := List.mem_filter.mpr ⟨List.mem_of_getElem? (i := 133) (by decide +kernel), by decide +kernel⟩
theorem mm_134 : Cond.code yX7_init cX7_init 1 none ∈ zGW := List.mem_filter.mpr ⟨List.mem_of_getElem? (i := 134) (by decide +kernel), by decide +kernel⟩
theorem mm_135 : Cond.methodLink RX7 3 objectInit ∈ zGW := List.mem_filter.mpr ⟨List.mem_of_getElem? (i := 135) (by decide +kernel), by decide +kernel⟩
theorem mm_136 : Cond.fieldLink RX7 9 "TwoFit$Tape" "length" "I" ∈ zGW := List.mem_filter.mpr ⟨List.mem_of_getElem? (i := 136) (by decide +kernel), by decide +kernel⟩
theorem mm_137 : Cond.fieldLink RX8 114 "TwoFit$Tape" "length" "I" ∈ zGW := List.mem_filter.mpr ⟨List.mem_of_getElem? (i := 137) (by decide +kernel), by decide +kernel⟩
theorem mm_138 : Cond.fieldLink RX7 15 "TwoFit$Tape" "bytes" "[I" ∈ zGW := List.mem_filter.mpr ⟨List.mem_of_getElem? (i := 138) (by decide +kernel), by decide +kernel⟩
theorem mm_139 : Cond.lays RX7 "TwoFit$Tape" "length" "I" ∈ zGW := List.mem_filter.mpr ⟨List.mem_of_getElem? (i := 139) (by decide +kernel), by decide +kernel⟩
theorem mm_141 : Cond.laysFinal RX7 "TwoFit$Tape" "bytes" "[I" ∈ zGW := List.mem_filter.mpr ⟨List.mem_of_getElem? (i := 141) (by decide +kernel), by decide +kernel⟩
theorem mm_144 : Cond.arrayClass .int ∈ zGW := List.mem_filter.mpr ⟨List.mem_of_getElem? (i := 144) (by decide +kernel), by decide +kernel⟩
theorem mm_145 : Cond.classLink RX8 26 RX2 ∈ zGW := List.mem_filter.mpr ⟨List.mem_of_getElem? (i := 145) (by decide +kernel), by decide +kernel⟩
theorem mm_147 : Cond.classLink RX8 32 RX5 ∈ zGW := List.mem_filter.mpr ⟨List.mem_of_getElem? (i := 147) (by decide +kernel), by decide +kernel⟩
theorem mm_148 : Cond.instantiable RX5 3 ∈ zGW := List.mem_filter.mpr ⟨List.mem_of_getElem? (i := 148) (by decide +kernel), by decide +kernel⟩
theorem mm_150 : Cond.instanceMethod yX5_init ∈ zGW := List.mem_filter.mpr ⟨List.mem_of_getElem? (i := 150) (by decide +kernel), by decide +kernel⟩
theorem mm_151 : Cond.code yX5_init cX5_init 1 none ∈ zGW := List.mem_filter.mpr ⟨List.mem_of_getElem? (i := 151) (by decide +kernel), by decide +kernel⟩
theorem mm_152 : Cond.methodLink RX5 3 objectInit ∈ zGW := List.mem_filter.mpr ⟨List.mem_of_getElem? (i := 152) (by decide +kernel), by decide +kernel⟩
theorem mm_153 : Cond.fieldLink RX5 9 "TwoFit$Links" "number" "I" ∈ zGW := List.mem_filter.mpr ⟨List.mem_of_getElem? (i := 153) (by decide +kernel), by decide +kernel⟩
theorem mm_154 : Cond.fieldLink RX8 171 "TwoFit$Links" "number" "I" ∈ zGW := List.mem_filter.mpr ⟨List.mem_of_getElem? (i := 154) (by decide +kernel), by decide +kernel⟩
theorem mm_155 : Cond.fieldLink RX5 15 "TwoFit$Links" "from" "[I" ∈ zGW := List.mem_filter.mpr ⟨List.mem_of_getElem? (i := 155) (by decide +kernel), by decide +kernel⟩
theorem mm_156 : Cond.fieldLink RX5 19 "TwoFit$Links" "to" "[I" ∈ zGW := List.mem_filter.mpr ⟨List.mem_of_getElem? (i := 156) (by decide +kernel), by decide +kernel⟩
theorem mm_157 : Cond.lays RX5 "TwoFit$Links" "number" "I" ∈ zGW := List.mem_filter.mpr ⟨List.mem_of_getElem? (i := 157) (by decide +kernel), by decide +kernel⟩
theorem mm_159 : Cond.laysFinal RX5 "TwoFit$Links" "from" "[I" ∈ zGW := List.mem_filter.mpr ⟨List.mem_of_getElem? (i := 159) (by decide +kernel), by decide +kernel⟩
theorem mm_161 : Cond.laysFinal RX5 "TwoFit$Links" "to" "[I" ∈ zGW := List.mem_filter.mpr ⟨List.mem_of_getElem? (i := 161) (by decide +kernel), by decide +kernel⟩
theorem mm_164 : Cond.classLink RX8 39 RX4 ∈ zGW := List.mem_filter.mpr ⟨List.mem_of_getElem? (i := 164) (by decide +kernel), by decide +kernel⟩
theorem mm_166 : Cond.classLink RX8 45 RX6 ∈ zGW := List.mem_filter.mpr ⟨List.mem_of_getElem? (i := 166) (by decide +kernel), by decide +kernel⟩
theorem mm_167 : Cond.instantiable RX6 10 ∈ zGW := List.mem_filter.mpr ⟨List.mem_of_getElem? (i := 167) (by decide +kernel), by decide +kernel⟩
theorem mm_169 : Cond.instanceMethod yX6_init ∈ zGW := List.mem_filter.mpr ⟨List.mem_of_getElem? (i := 169) (by decide +kernel), by decide +kernel⟩
theorem mm_170 : Cond.code yX6_init cX6_init 1 none ∈ zGW := List.mem_filter.mpr ⟨List.mem_of_getElem? (i := 170) (by decide +kernel), by decide +kernel⟩
theorem mm_171 : Cond.methodLink RX6 3 objectInit ∈ zGW := List.mem_filter.mpr ⟨List.mem_of_getElem? (i := 171) (by decide +kernel), by decide +kernel⟩
theorem mm_172 : Cond.fieldLink RX6 9 "TwoFit$Matching" "lines" "I" ∈ zGW := List.mem_filter.mpr ⟨List.mem_of_getElem? (i := 172) (by decide +kernel), by decide +kernel⟩
theorem mm_174 : Cond.fieldLink RX6 15 "TwoFit$Matching" "live" "I" ∈ zGW := List.mem_filter.mpr ⟨List.mem_of_getElem? (i := 174) (by decide +kernel), by decide +kernel⟩
theorem mm_176 : Cond.fieldLink RX6 18 "TwoFit$Matching" "lacking" "I" ∈ zGW := List.mem_filter.mpr ⟨List.mem_of_getElem? (i := 176) (by decide +kernel), by decide +kernel⟩
theorem mm_178 : Cond.fieldLink RX6 21 "TwoFit$Matching" "found" "I" ∈ zGW := List.mem_filter.mpr ⟨List.mem_of_getElem? (i := 178) (by decide +kernel), by decide +kernel⟩
theorem mm_180 : Cond.fieldLink RX6 24 "TwoFit$Matching" "laid" "[I" ∈ zGW := List.mem_filter.mpr ⟨List.mem_of_getElem? (i := 180) (by decide +kernel), by decide +kernel⟩
theorem mm_182 : Cond.fieldLink RX6 28 "TwoFit$Matching" "fit" "[I" ∈ zGW := List.mem_filter.mpr ⟨List.mem_of_getElem? (i := 182) (by decide +kernel), by decide +kernel⟩
theorem mm_184 : Cond.fieldLink RX6 31 "TwoFit$Matching" "may" "[I" ∈ zGW := List.mem_filter.mpr ⟨List.mem_of_getElem? (i := 184) (by decide +kernel), by decide +kernel⟩
theorem mm_186 : Cond.fieldLink RX6 34 "TwoFit$Matching" "joint" "[I" ∈ zGW := List.mem_filter.mpr ⟨List.mem_of_getElem? (i := 186) (by decide +kernel), by decide +kernel⟩
theorem mm_187 : Cond.fieldLink RX6 37 "TwoFit$Matching" "ways" "[J" ∈ zGW := List.mem_filter.mpr ⟨List.mem_of_getElem? (i := 187) (by decide +kernel), by decide +kernel⟩
theorem mm_188 : Cond.fieldLink RX6 41 "TwoFit$Matching" "left" "[I" ∈ zGW := List.mem_filter.mpr ⟨List.mem_of_getElem? (i := 188) (by decide +kernel), by decide +kernel⟩
theorem mm_189 : Cond.lays RX6 "TwoFit$Matching" "lines" "I" ∈ zGW := List.mem_filter.mpr ⟨List.mem_of_getElem? (i := 189) (by decide +kernel), by decide +kernel⟩
theorem mm_191 : Cond.lays RX6 "TwoFit$Matching" "live" "I" ∈ zGW := List.mem_filter.mpr ⟨List.mem_of_getElem? (i := 191) (by decide +kernel), by decide +kernel⟩
theorem mm_193 : Cond.lays RX6 "TwoFit$Matching" "lacking" "I" ∈ zGW := List.mem_filter.mpr ⟨List.mem_of_getElem? (i := 193) (by decide +kernel), by decide +kernel⟩
theorem mm_195 : Cond.lays RX6 "TwoFit$Matching" "found" "I" ∈ zGW := List.mem_filter.mpr ⟨List.mem_of_getElem? (i := 195) (by decide +kernel), by decide +kernel⟩
theorem mm_197 : Cond.laysFinal RX6 "TwoFit$Matching" "laid" "[I" ∈ zGW := List.mem_filter.mpr ⟨List.mem_of_getElem? (i := 197) (by decide +kernel), by decide +kernel⟩
theorem mm_199 : Cond.laysFinal RX6 "TwoFit$Matching" "fit" "[I" ∈ zGW := List.mem_filter.mpr ⟨List.mem_of_getElem? (i := 199) (by decide +kernel), by decide +kernel⟩
theorem mm_201 : Cond.laysFinal RX6 "TwoFit$Matching" "may" "[I" ∈ zGW := List.mem_filter.mpr ⟨List.mem_of_getElem? (i := 201) (by decide +kernel), by decide +kernel⟩
theorem mm_203 : Cond.laysFinal RX6 "TwoFit$Matching" "joint" "[I" ∈ zGW := List.mem_filter.mpr ⟨List.mem_of_getElem? (i := 203) (by decide +kernel), by decide +kernel⟩
theorem mm_205 : Cond.laysFinal RX6 "TwoFit$Matching" "ways" "[J" ∈ zGW := List.mem_filter.mpr ⟨List.mem_of_getElem? (i := 205) (by decide +kernel), by decide +kernel⟩
theorem mm_207 : Cond.laysFinal RX6 "TwoFit$Matching" "left" "[I" ∈ zGW := List.mem_filter.mpr ⟨List.mem_of_getElem? (i := 207) (by decide +kernel), by decide +kernel⟩
theorem mm_210 : Cond.arrayClass .long ∈ zGW := List.mem_filter.mpr ⟨List.mem_of_getElem? (i := 210) (by decide +kernel), by decide +kernel⟩
theorem mm_211 : Cond.classLink RX8 52 RX0 ∈ zGW := List.mem_filter.mpr ⟨List.mem_of_getElem? (i := 211) (by decide +kernel), by decide +kernel⟩
theorem mm_212 : Cond.instantiable RX0 5 ∈ zGW := List.mem_filter.mpr ⟨List.mem_of_getElem? (i := 212) (by decide +kernel), by decide +kernel⟩
theorem mm_214 : Cond.instanceMethod yX0_init ∈ zGW := List.mem_filter.mpr ⟨List.mem_of_getElem? (i := 214) (by decide +kernel), by decide +kernel⟩
theorem mm_215 : Cond.code yX0_init cX0_init 1 none ∈ zGW := List.mem_filter.mpr ⟨List.mem_of_getElem? (i := 215) (by decide +kernel), by decide +kernel⟩
theorem mm_216 : Cond.methodLink RX0 3 objectInit ∈ zGW := List.mem_filter.mpr ⟨List.mem_of_getElem? (i := 216) (by decide +kernel), by decide +kernel⟩
theorem mm_217 : Cond.fieldLink RX0 9 "TwoFit$Asking" "splits" "[I" ∈ zGW := List.mem_filter.mpr ⟨List.mem_of_getElem? (i := 217) (by decide +kernel), by decide +kernel⟩
theorem mm_218 : Cond.fieldLink RX0 15 "TwoFit$Asking" "splitCount" "I" ∈ zGW := List.mem_filter.mpr ⟨List.mem_of_getElem? (i := 218) (by decide +kernel), by decide +kernel⟩
theorem mm_219 : Cond.fieldLink RX0 19 "TwoFit$Asking" "sizes" "[I" ∈ zGW := List.mem_filter.mpr ⟨List.mem_of_getElem? (i := 219) (by decide +kernel), by decide +kernel⟩
theorem mm_220 : Cond.fieldLink RX0 22 "TwoFit$Asking" "bounds" "[I" ∈ zGW := List.mem_filter.mpr ⟨List.mem_of_getElem? (i := 220) (by decide +kernel), by decide +kernel⟩
theorem mm_221 : Cond.fieldLink RX0 25 "TwoFit$Asking" "time" "I" ∈ zGW := List.mem_filter.mpr ⟨List.mem_of_getElem? (i := 221) (by decide +kernel), by decide +kernel⟩
theorem mm_222 : Cond.laysFinal RX0 "TwoFit$Asking" "splits" "[I" ∈ zGW := List.mem_filter.mpr ⟨List.mem_of_getElem? (i := 222) (by decide +kernel), by decide +kernel⟩
theorem mm_224 : Cond.lays RX0 "TwoFit$Asking" "splitCount" "I" ∈ zGW := List.mem_filter.mpr ⟨List.mem_of_getElem? (i := 224) (by decide +kernel), by decide +kernel⟩
theorem mm_226 : Cond.laysFinal RX0 "TwoFit$Asking" "sizes" "[I" ∈ zGW := List.mem_filter.mpr ⟨List.mem_of_getElem? (i := 226) (by decide +kernel), by decide +kernel⟩
theorem mm_228 : Cond.lays RX0 "TwoFit$Asking" "bounds" "[I" ∈ zGW := List.mem_filter.mpr ⟨List.mem_of_getElem? (i := 228) (by decide +kernel), by decide +kernel⟩
theorem mm_230 : Cond.lays RX0 "TwoFit$Asking" "time" "I" ∈ zGW := List.mem_filter.mpr ⟨List.mem_of_getElem? (i := 230) (by decide +kernel), by decide +kernel⟩
theorem mm_233 : Cond.classLink RX8 59 RX1 ∈ zGW := List.mem_filter.mpr ⟨List.mem_of_getElem? (i := 233) (by decide +kernel), by decide +kernel⟩
theorem mm_234 : Cond.instantiable RX1 7 ∈ zGW := List.mem_filter.mpr ⟨List.mem_of_getElem? (i := 234) (by decide +kernel), by decide +kernel⟩
theorem mm_236 : Cond.instanceMethod yX1_init ∈ zGW := List.mem_filter.mpr ⟨List.mem_of_getElem? (i := 236) (by decide +kernel), by decide +kernel⟩
theorem mm_237 : Cond.code yX1_init cX1_init 1 none ∈ zGW := List.mem_filter.mpr ⟨List.mem_of_getElem? (i := 237) (by decide +kernel), by decide +kernel⟩
theorem mm_238 : Cond.methodLink RX1 3 objectInit ∈ zGW := List.mem_filter.mpr ⟨List.mem_of_getElem? (i := 238) (by decide +kernel), by decide +kernel⟩
theorem mm_239 : Cond.classLink RX1 21 "[[I" ∈ zGW := List.mem_filter.mpr ⟨List.mem_of_getElem? (i := 239) (by decide +kernel), by decide +kernel⟩
theorem mm_241 : Cond.fieldLink RX1 9 "TwoFit$Blurs" "least" "I" ∈ zGW := List.mem_filter.mpr ⟨List.mem_of_getElem? (i := 241) (by decide +kernel), by decide +kernel⟩
theorem mm_243 : Cond.fieldLink RX1 15 "TwoFit$Blurs" "leastRow" "I" ∈ zGW := List.mem_filter.mpr ⟨List.mem_of_getElem? (i := 243) (by decide +kernel), by decide +kernel⟩
theorem mm_245 : Cond.fieldLink RX1 18 "TwoFit$Blurs" "leastCut" "I" ∈ zGW := List.mem_filter.mpr ⟨List.mem_of_getElem? (i := 245) (by decide +kernel), by decide +kernel⟩
theorem mm_247 : Cond.fieldLink RX1 23 "TwoFit$Blurs" "who" "[[I" ∈ zGW := List.mem_filter.mpr ⟨List.mem_of_getElem? (i := 247) (by decide +kernel), by decide +kernel⟩
theorem mm_248 : Cond.fieldLink RX1 26 "TwoFit$Blurs" "losses" "[[I" ∈ zGW := List.mem_filter.mpr ⟨List.mem_of_getElem? (i := 248) (by decide +kernel), by decide +kernel⟩
theorem mm_249 : Cond.fieldLink RX1 29 "TwoFit$Blurs" "tops" "[I" ∈ zGW := List.mem_filter.mpr ⟨List.mem_of_getElem? (i := 249) (by decide +kernel), by decide +kernel⟩
theorem mm_250 : Cond.fieldLink RX1 33 "TwoFit$Blurs" "levels" "[I" ∈ zGW := List.mem_filter.mpr ⟨List.mem_of_getElem? (i := 250) (by decide +kernel), by decide +kernel⟩
theorem mm_251 : Cond.lays RX1 "TwoFit$Blurs" "least" "I" ∈ zGW := List.mem_filter.mpr ⟨List.mem_of_getElem? (i := 251) (by decide +kernel), by decide +kernel⟩
theorem mm_253 : Cond.lays RX1 "TwoFit$Blurs" "leastRow" "I" ∈ zGW := List.mem_filter.mpr ⟨List.mem_of_getElem? (i := 253) (by decide +kernel), by decide +kernel⟩
theorem mm_255 : Cond.lays RX1 "TwoFit$Blurs" "leastCut" "I" ∈ zGW := List.mem_filter.mpr ⟨List.mem_of_getElem? (i := 255) (by decide +kernel), by decide +kernel⟩
theorem mm_257 : Cond.laysFinal RX1 "TwoFit$Blurs" "who" "[[I" ∈ zGW := List.mem_filter.mpr ⟨List.mem_of_getElem? (i := 257) (by decide +kernel), by decide +kernel⟩
theorem mm_259 : Cond.laysFinal RX1 "TwoFit$Blurs" "losses" "[[I" ∈ zGW := List.mem_filter.mpr ⟨List.mem_of_getElem? (i := 259) (by decide +kernel), by decide +kernel⟩
theorem mm_261 : Cond.laysFinal RX1 "TwoFit$Blurs" "tops" "[I" ∈ zGW := List.mem_filter.mpr ⟨List.mem_of_getElem? (i := 261) (by decide +kernel), by decide +kernel⟩
theorem mm_263 : Cond.laysFinal RX1 "TwoFit$Blurs" "levels" "[I" ∈ zGW := List.mem_filter.mpr ⟨List.mem_of_getElem? (i := 263) (by decide +kernel), by decide +kernel⟩
theorem mm_266 : Cond.instantiable RX4 11 ∈ zGW := List.mem_filter.mpr ⟨List.mem_of_getElem? (i := 266) (by decide +kernel), by decide +kernel⟩
theorem mm_268 : Cond.instanceMethod yX4_init ∈ zGW := List.mem_filter.mpr ⟨List.mem_of_getElem? (i := 268) (by decide +kernel), by decide +kernel⟩
theorem mm_269 : Cond.code yX4_init cX4_init 1 none ∈ zGW := List.mem_filter.mpr ⟨List.mem_of_getElem? (i := 269) (by decide +kernel), by decide +kernel⟩
theorem mm_270 : Cond.methodLink RX4 3 objectInit ∈ zGW := List.mem_filter.mpr ⟨List.mem_of_getElem? (i := 270) (by decide +kernel), by decide +kernel⟩
theorem mm_271 : Cond.fieldLink RX4 9 "TwoFit$Gossip" "isTold" "Z" ∈ zGW := List.mem_filter.mpr ⟨List.mem_of_getElem? (i := 271) (by decide +kernel), by decide +kernel⟩
theorem mm_272 : Cond.fieldLink RX8 325 "TwoFit$Gossip" "isTold" "Z" ∈ zGW := List.mem_filter.mpr ⟨List.mem_of_getElem? (i := 272) (by decide +kernel), by decide +kernel⟩
theorem mm_273 : Cond.fieldLink RX4 15 "TwoFit$Gossip" "ofBook" "I" ∈ zGW := List.mem_filter.mpr ⟨List.mem_of_getElem? (i := 273) (by decide +kernel), by decide +kernel⟩
theorem mm_275 : Cond.fieldLink RX4 19 "TwoFit$Gossip" "holds" "I" ∈ zGW := List.mem_filter.mpr ⟨List.mem_of_getElem? (i := 275) (by decide +kernel), by decide +kernel⟩
theorem mm_277 : Cond.fieldLink RX4 22 "TwoFit$Gossip" "fault" "I" ∈ zGW := List.mem_filter.mpr ⟨List.mem_of_getElem? (i := 277) (by decide +kernel), by decide +kernel⟩
theorem mm_279 : Cond.fieldLink RX4 25 "TwoFit$Gossip" "faultAt" "I" ∈ zGW := List.mem_filter.mpr ⟨List.mem_of_getElem? (i := 279) (by decide +kernel), by decide +kernel⟩
theorem mm_281 : Cond.fieldLink RX4 28 "TwoFit$Gossip" "ofLine" "I" ∈ zGW := List.mem_filter.mpr ⟨List.mem_of_getElem? (i := 281) (by decide +kernel), by decide +kernel⟩
theorem mm_282 : Cond.fieldLink RX4 31 "TwoFit$Gossip" "letters" "[I" ∈ zGW := List.mem_filter.mpr ⟨List.mem_of_getElem? (i := 282) (by decide +kernel), by decide +kernel⟩
theorem mm_283 : Cond.fieldLink RX4 35 "TwoFit$Gossip" "text" "[I" ∈ zGW := List.mem_filter.mpr ⟨List.mem_of_getElem? (i := 283) (by decide +kernel), by decide +kernel⟩
theorem mm_284 : Cond.fieldLink RX4 38 "TwoFit$Gossip" "length" "I" ∈ zGW := List.mem_filter.mpr ⟨List.mem_of_getElem? (i := 284) (by decide +kernel), by decide +kernel⟩
theorem mm_285 : Cond.fieldLink RX4 41 "TwoFit$Gossip" "at" "I" ∈ zGW := List.mem_filter.mpr ⟨List.mem_of_getElem? (i := 285) (by decide +kernel), by decide +kernel⟩
theorem mm_286 : Cond.fieldLink RX4 44 "TwoFit$Gossip" "refused" "Z" ∈ zGW := List.mem_filter.mpr ⟨List.mem_of_getElem? (i := 286) (by decide +kernel), by decide +kernel⟩
theorem mm_287 : Cond.lays RX4 "TwoFit$Gossip" "isTold" "Z" ∈ zGW := List.mem_filter.mpr ⟨List.mem_of_getElem? (i := 287) (by decide +kernel), by decide +kernel⟩
theorem mm_289 : Cond.lays RX4 "TwoFit$Gossip" "ofBook" "I" ∈ zGW := List.mem_filter.mpr ⟨List.mem_of_getElem? (i := 289) (by decide +kernel), by decide +kernel⟩
theorem mm_291 : Cond.lays RX4 "TwoFit$Gossip" "holds" "I" ∈ zGW := List.mem_filter.mpr ⟨List.mem_of_getElem? (i := 291) (by decide +kernel), by decide +kernel⟩
theorem mm_293 : Cond.lays RX4 "TwoFit$Gossip" "fault" "I" ∈ zGW := List.mem_filter.mpr ⟨List.mem_of_getElem? (i := 293) (by decide +kernel), by decide +kernel⟩
theorem mm_295 : Cond.lays RX4 "TwoFit$Gossip" "faultAt" "I" ∈ zGW := List.mem_filter.mpr ⟨List.mem_of_getElem? (i := 295) (by decide +kernel), by decide +kernel⟩
theorem mm_297 : Cond.lays RX4 "TwoFit$Gossip" "ofLine" "I" ∈ zGW := List.mem_filter.mpr ⟨List.mem_of_getElem? (i := 297) (by decide +kernel), by decide +kernel⟩
theorem mm_299 : Cond.laysFinal RX4 "TwoFit$Gossip" "letters" "[I" ∈ zGW := List.mem_filter.mpr ⟨List.mem_of_getElem? (i := 299) (by decide +kernel), by decide +kernel⟩
theorem mm_301 : Cond.laysFinal RX4 "TwoFit$Gossip" "text" "[I" ∈ zGW := List.mem_filter.mpr ⟨List.mem_of_getElem? (i := 301) (by decide +kernel), by decide +kernel⟩
theorem mm_303 : Cond.lays RX4 "TwoFit$Gossip" "length" "I" ∈ zGW := List.mem_filter.mpr ⟨List.mem_of_getElem? (i := 303) (by decide +kernel), by decide +kernel⟩
theorem mm_305 : Cond.lays RX4 "TwoFit$Gossip" "at" "I" ∈ zGW := List.mem_filter.mpr ⟨List.mem_of_getElem? (i := 305) (by decide +kernel), by decide +kernel⟩
theorem mm_307 : Cond.lays RX4 "TwoFit$Gossip" "refused" "Z" ∈ zGW := List.mem_filter.mpr ⟨List.mem_of_getElem? (i := 307) (by decide +kernel), by decide +kernel⟩
theorem mm_310 : Cond.instantiable RX3 6 ∈ zGW := List.mem_filter.mpr ⟨List.mem_of_getElem? (i := 310) (by decide +kernel), by decide +kernel⟩
theorem mm_311 : Cond.methodLink RX8 81 yX3_init ∈ zGW := List.mem_filter.mpr ⟨List.mem_of_getElem? (i := 311) (by decide +kernel), by decide +kernel⟩
theorem mm_312 : Cond.instanceMethod yX3_init ∈ zGW := List.mem_filter.mpr ⟨List.mem_of_getElem? (i := 312) (by decide +kernel), by decide +kernel⟩
theorem mm_313 : Cond.code yX3_init cX3_init 2 none ∈ zGW := List.mem_filter.mpr ⟨List.mem_of_getElem? (i := 313) (by decide +kernel), by decide +kernel⟩
theorem mm_314 : Cond.methodLink RX3 3 objectInit ∈ zGW := List.mem_filter.mpr ⟨List.mem_of_getElem? (i := 314) (by decide +kernel), by decide +kernel⟩
theorem mm_315 : Cond.fieldLink RX3 9 "TwoFit$Column" "weighs" "I" ∈ zGW := List.mem_filter.mpr ⟨List.mem_of_getElem? (i := 315) (by decide +kernel), by decide +kernel⟩
theorem mm_316 : Cond.fieldLink RX8 98 "TwoFit$Column" "weighs" "I" ∈ zGW := List.mem_filter.mpr ⟨List.mem_of_getElem? (i := 316) (by decide +kernel), by decide +kernel⟩
theorem mm_317 : Cond.fieldLink RX3 15 "TwoFit$Column" "above" "[I" ∈ zGW := List.mem_filter.mpr ⟨List.mem_of_getElem? (i := 317) (by decide +kernel), by decide +kernel⟩
theorem mm_318 : Cond.fieldLink RX3 19 "TwoFit$Column" "sizes" "[I" ∈ zGW := List.mem_filter.mpr ⟨List.mem_of_getElem? (i := 318) (by decide +kernel), by decide +kernel⟩
theorem mm_319 : Cond.fieldLink RX3 22 "TwoFit$Column" "who" "[I" ∈ zGW := List.mem_filter.mpr ⟨List.mem_of_getElem? (i := 319) (by decide +kernel), by decide +kernel⟩
theorem mm_320 : Cond.fieldLink RX3 25 "TwoFit$Column" "values" "[I" ∈ zGW := List.mem_filter.mpr ⟨List.mem_of_getElem? (i := 320) (by decide +kernel), by decide +kernel⟩
theorem mm_321 : Cond.fieldLink RX3 28 "TwoFit$Column" "settled" "I" ∈ zGW := List.mem_filter.mpr ⟨List.mem_of_getElem? (i := 321) (by decide +kernel), by decide +kernel⟩
theorem mm_322 : Cond.lays RX3 "TwoFit$Column" "weighs" "I" ∈ zGW := List.mem_filter.mpr ⟨List.mem_of_getElem? (i := 322) (by decide +kernel), by decide +kernel⟩
theorem mm_324 : Cond.laysFinal RX3 "TwoFit$Column" "above" "[I" ∈ zGW := List.mem_filter.mpr ⟨List.mem_of_getElem? (i := 324) (by decide +kernel), by decide +kernel⟩
theorem mm_326 : Cond.laysFinal RX3 "TwoFit$Column" "sizes" "[I" ∈ zGW := List.mem_filter.mpr ⟨List.mem_of_getElem? (i := 326) (by decide +kernel), by decide +kernel⟩
theorem mm_328 : Cond.laysFinal RX3 "TwoFit$Column" "who" "[I" ∈ zGW := List.mem_filter.mpr ⟨List.mem_of_getElem? (i := 328) (by decide +kernel), by decide +kernel⟩
theorem mm_330 : Cond.laysFinal RX3 "TwoFit$Column" "values" "[I" ∈ zGW := List.mem_filter.mpr ⟨List.mem_of_getElem? (i := 330) (by decide +kernel), by decide +kernel⟩
theorem mm_332 : Cond.lays RX3 "TwoFit$Column" "settled" "I" ∈ zGW := List.mem_filter.mpr ⟨List.mem_of_getElem? (i := 332) (by decide +kernel), by decide +kernel⟩
theorem mm_335 : Cond.instantiable RX2 5 ∈ zGW := List.mem_filter.mpr ⟨List.mem_of_getElem? (i := 335) (by decide +kernel), by decide +kernel⟩
theorem mm_337 : Cond.instanceMethod yX2_init ∈ zGW := List.mem_filter.mpr ⟨List.mem_of_getElem? (i := 337) (by decide +kernel), by decide +kernel⟩
theorem mm_338 : Cond.code yX2_init cX2_init 1 none ∈ zGW := List.mem_filter.mpr ⟨List.mem_of_getElem? (i := 338) (by decide +kernel), by decide +kernel⟩
theorem mm_339 : Cond.methodLink RX2 3 objectInit ∈ zGW := List.mem_filter.mpr ⟨List.mem_of_getElem? (i := 339) (by decide +kernel), by decide +kernel⟩
theorem mm_340 : Cond.classLink RX2 26 "[[I" ∈ zGW := List.mem_filter.mpr ⟨List.mem_of_getElem? (i := 340) (by decide +kernel), by decide +kernel⟩
theorem mm_341 : Cond.fieldLink RX2 9 "TwoFit$Book" "lines" "I" ∈ zGW := List.mem_filter.mpr ⟨List.mem_of_getElem? (i := 341) (by decide +kernel), by decide +kernel⟩
theorem mm_343 : Cond.fieldLink RX2 15 "TwoFit$Book" "live" "I" ∈ zGW := List.mem_filter.mpr ⟨List.mem_of_getElem? (i := 343) (by decide +kernel), by decide +kernel⟩
theorem mm_345 : Cond.fieldLink RX2 18 "TwoFit$Book" "isShown" "Z" ∈ zGW := List.mem_filter.mpr ⟨List.mem_of_getElem? (i := 345) (by decide +kernel), by decide +kernel⟩
theorem mm_347 : Cond.fieldLink RX2 22 "TwoFit$Book" "owners" "[I" ∈ zGW := List.mem_filter.mpr ⟨List.mem_of_getElem? (i := 347) (by decide +kernel), by decide +kernel⟩
theorem mm_348 : Cond.fieldLink RX2 28 "TwoFit$Book" "nodes" "[[I" ∈ zGW := List.mem_filter.mpr ⟨List.mem_of_getElem? (i := 348) (by decide +kernel), by decide +kernel⟩
theorem mm_349 : Cond.lays RX2 "TwoFit$Book" "lines" "I" ∈ zGW := List.mem_filter.mpr ⟨List.mem_of_getElem? (i := 349) (by decide +kernel), by decide +kernel⟩
theorem mm_351 : Cond.lays RX2 "TwoFit$Book" "live" "I" ∈ zGW := List.mem_filter.mpr ⟨List.mem_of_getElem? (i := 351) (by decide +kernel), by decide +kernel⟩
theorem mm_353 : Cond.lays RX2 "TwoFit$Book" "isShown" "Z" ∈ zGW := List.mem_filter.mpr ⟨List.mem_of_getElem? (i := 353) (by decide +kernel), by decide +kernel⟩
theorem mm_355 : Cond.laysFinal RX2 "TwoFit$Book" "owners" "[I" ∈ zGW := List.mem_filter.mpr ⟨List.mem_of_getElem? (i := 355) (by decide +kernel), by decide +kernel⟩
theorem mm_357 : Cond.laysFinal RX2 "TwoFit$Book" "nodes" "[[I" ∈ zGW := List.mem_filter.mpr ⟨List.mem_of_getElem? (i := 357) (by decide +kernel), by decide +kernel⟩
theorem mm_360 : Cond.fieldLink RX8 11 "TwoFit" "columns" "[LTwoFit$Column;" ∈ zGW := List.mem_filter.mpr ⟨List.mem_of_getElem? (i := 360) (by decide +kernel), by decide +kernel⟩
theorem mm_361 : Cond.fieldLink RX8 15 "TwoFit" "wishes" "[I" ∈ zGW := List.mem_filter.mpr ⟨List.mem_of_getElem? (i := 361) (by decide +kernel), by decide +kernel⟩
theorem mm_362 : Cond.fieldLink RX8 22 "TwoFit" "tape" "LTwoFit$Tape;" ∈ zGW := List.mem_filter.mpr ⟨List.mem_of_getElem? (i := 362) (by decide +kernel), by decide +kernel⟩
theorem mm_363 : Cond.fieldLink RX8 28 "TwoFit" "books" "[LTwoFit$Book;" ∈ zGW := List.mem_filter.mpr ⟨List.mem_of_getElem? (i := 363) (by decide +kernel), by decide +kernel⟩
theorem mm_364 : Cond.fieldLink RX8 35 "TwoFit" "links" "LTwoFit$Links;" ∈ zGW := List.mem_filter.mpr ⟨List.mem_of_getElem? (i := 364) (by decide +kernel), by decide +kernel⟩
theorem mm_365 : Cond.fieldLink RX8 41 "TwoFit" "gossips" "[LTwoFit$Gossip;" ∈ zGW := List.mem_filter.mpr ⟨List.mem_of_getElem? (i := 365) (by decide +kernel), by decide +kernel⟩
theorem mm_366 : Cond.fieldLink RX8 48 "TwoFit" "matching" "LTwoFit$Matching;" ∈ zGW := List.mem_filter.mpr ⟨List.mem_of_getElem? (i := 366) (by decide +kernel), by decide +kernel⟩
theorem mm_367 : Cond.fieldLink RX8 55 "TwoFit" "asking" "LTwoFit$Asking;" ∈ zGW := List.mem_filter.mpr ⟨List.mem_of_getElem? (i := 367) (by decide +kernel), by decide +kernel⟩
theorem mm_368 : Cond.fieldLink RX8 62 "TwoFit" "blurs" "LTwoFit$Blurs;" ∈ zGW := List.mem_filter.mpr ⟨List.mem_of_getElem? (i := 368) (by decide +kernel), by decide +kernel⟩
theorem mm_369 : Cond.fieldLink RX8 66 "TwoFit" "letters" "[I" ∈ zGW := List.mem_filter.mpr ⟨List.mem_of_getElem? (i := 369) (by decide +kernel), by decide +kernel⟩
theorem mm_370 : Cond.fieldLink RX8 70 "TwoFit" "draft" "LTwoFit$Gossip;" ∈ zGW := List.mem_filter.mpr ⟨List.mem_of_getElem? (i := 370) (by decide +kernel), by decide +kernel⟩
theorem mm_371 : Cond.fieldLink RX8 74 "TwoFit" "people" "I" ∈ zGW := List.mem_filter.mpr ⟨List.mem_of_getElem? (i := 371) (by decide +kernel), by decide +kernel⟩
theorem mm_372 : Cond.fieldLink RX8 78 "TwoFit" "bookCount" "I" ∈ zGW := List.mem_filter.mpr ⟨List.mem_of_getElem? (i := 372) (by decide +kernel), by decide +kernel⟩
theorem mm_373 : Cond.laysFinal RX8 "TwoFit" "columns" "[LTwoFit$Column;" ∈ zGW := List.mem_filter.mpr ⟨List.mem_of_getElem? (i := 373) (by decide +kernel), by decide +kernel⟩
theorem mm_375 : Cond.laysFinal RX8 "TwoFit" "wishes" "[I" ∈ zGW := List.mem_filter.mpr ⟨List.mem_of_getElem? (i := 375) (by decide +kernel), by decide +kernel⟩
theorem mm_377 : Cond.laysFinal RX8 "TwoFit" "tape" "LTwoFit$Tape;" ∈ zGW := List.mem_filter.mpr ⟨List.mem_of_getElem? (i := 377) (by decide +kernel), by decide +kernel⟩
theorem mm_379 : Cond.laysFinal RX8 "TwoFit" "books" "[LTwoFit$Book;" ∈ zGW := List.mem_filter.mpr ⟨List.mem_of_getElem? (i := 379) (by decide +kernel), by decide +kernel⟩
theorem mm_381 : Cond.laysFinal RX8 "TwoFit" "links" "LTwoFit$Links;" ∈ zGW := List.mem_filter.mpr ⟨List.mem_of_getElem? (i := 381) (by decide +kernel), by decide +kernel⟩
theorem mm_383 : Cond.laysFinal RX8 "TwoFit" "gossips" "[LTwoFit$Gossip;" ∈ zGW := List.mem_filter.mpr ⟨List.mem_of_getElem? (i := 383) (by decide +kernel), by decide +kernel⟩
theorem mm_385 : Cond.laysFinal RX8 "TwoFit" "matching" "LTwoFit$Matching;" ∈ zGW := List.mem_filter.mpr ⟨List.mem_of_getElem? (i := 385) (by decide +kernel), by decide +kernel⟩
theorem mm_387 : Cond.laysFinal RX8 "TwoFit" "asking" "LTwoFit$Asking;" ∈ zGW := List.mem_filter.mpr ⟨List.mem_of_getElem? (i := 387) (by decide +kernel), by decide +kernel⟩
theorem mm_389 : Cond.laysFinal RX8 "TwoFit" "blurs" "LTwoFit$Blurs;" ∈ zGW := List.mem_filter.mpr ⟨List.mem_of_getElem? (i := 389) (by decide +kernel), by decide +kernel⟩
theorem mm_391 : Cond.laysFinal RX8 "TwoFit" "letters" "[I" ∈ zGW := List.mem_filter.mpr ⟨List.mem_of_getElem? (i := 391) (by decide +kernel), by decide +kernel⟩
theorem mm_393 : Cond.lays RX8 "TwoFit" "draft" "LTwoFit$Gossip;" ∈ zGW := List.mem_filter.mpr ⟨List.mem_of_getElem? (i := 393) (by decide +kernel), by decide +kernel⟩
theorem mm_395 : Cond.lays RX8 "TwoFit" "people" "I" ∈ zGW := List.mem_filter.mpr ⟨List.mem_of_getElem? (i := 395) (by decide +kernel), by decide +kernel⟩
theorem mm_397 : Cond.lays RX8 "TwoFit" "bookCount" "I" ∈ zGW := List.mem_filter.mpr ⟨List.mem_of_getElem? (i := 397) (by decide +kernel), by decide +kernel⟩
theorem mm_404 : Cond.methodLink RX8 83 yX8_isColumn ∈ zGW := List.mem_filter.mpr ⟨List.mem_of_getElem? (i := 404) (by decide +kernel), by decide +kernel⟩
theorem mm_405 : Cond.static yX8_isColumn ∈ zGW := List.mem_filter.mpr ⟨List.mem_of_getElem? (i := 405) (by decide +kernel), by decide +kernel⟩
theorem mm_406 : Cond.code yX8_isColumn cX8_isColumn 1 (some .boolean) ∈ zGW := List.mem_filter.mpr ⟨List.mem_of_getElem? (i := 406) (by decide +kernel), by decide +kernel⟩
theorem mm_407 : Cond.methodLink RX8 87 yX8_within ∈ zGW := List.mem_filter.mpr ⟨List.mem_of_getElem? (i := 407) (by decide +kernel), by decide +kernel⟩
theorem mm_408 : Cond.static yX8_within ∈ zGW := List.mem_filter.mpr ⟨List.mem_of_getElem? (i := 408) (by decide +kernel), by decide +kernel⟩
theorem mm_409 : Cond.code yX8_within cX8_within 3 (some .boolean) ∈ zGW := List.mem_filter.mpr ⟨List.mem_of_getElem? (i := 409) (by decide +kernel), by decide +kernel⟩
theorem mm_410 : Cond.methodLink RX8 91 yX3_hang ∈ zGW := List.mem_filter.mpr ⟨List.mem_of_getElem? (i := 410) (by decide +kernel), by decide +kernel⟩
theorem mm_411 : Cond.instanceMethod yX3_hang ∈ zGW := List.mem_filter.mpr ⟨List.mem_of_getElem? (i := 411) (by decide +kernel), by decide +kernel⟩
theorem mm_412 : Cond.selects RX3 yX3_hang yX3_hang ∈ zGW := List.mem_filter.mpr ⟨List.mem_of_getElem? (i := 412) (by decide +kernel), by decide +kernel⟩
theorem mm_413 : Cond.code yX3_hang cX3_hang 4 none ∈ zGW := List.mem_filter.mpr ⟨List.mem_of_getElem? (i := 413) (by decide +kernel), by decide +kernel⟩
theorem mm_415 : Cond.methodLink RX3 35 yX3_climb ∈ zGW := List.mem_filter.mpr ⟨List.mem_of_getElem? (i := 415) (by decide +kernel), by decide +kernel⟩
theorem mm_417 : Cond.instanceMethod yX3_climb ∈ zGW := List.mem_filter.mpr ⟨List.mem_of_getElem? (i := 417) (by decide +kernel), by decide +kernel⟩
theorem mm_418 : Cond.code yX3_climb cX3_climb 6 none ∈ zGW := List.mem_filter.mpr ⟨List.mem_of_getElem? (i := 418) (by decide +kernel), by decide +kernel⟩
theorem mm_419 : Cond.methodLink RX8 95 yX0_forget ∈ zGW := List.mem_filter.mpr ⟨List.mem_of_getElem? (i := 419) (by decide +kernel), by decide +kernel⟩
theorem mm_420 : Cond.instanceMethod yX0_forget ∈ zGW := List.mem_filter.mpr ⟨List.mem_of_getElem? (i := 420) (by decide +kernel), by decide +kernel⟩
theorem mm_421 : Cond.selects RX0 yX0_forget yX0_forget ∈ zGW := List.mem_filter.mpr ⟨List.mem_of_getElem? (i := 421) (by decide +kernel), by decide +kernel⟩
theorem mm_422 : Cond.code yX0_forget cX0_forget 1 none ∈ zGW := List.mem_filter.mpr ⟨List.mem_of_getElem? (i := 422) (by decide +kernel), by decide +kernel⟩
theorem mm_431 : Cond.methodLink RX8 101 yX8_isValue ∈ zGW := List.mem_filter.mpr ⟨List.mem_of_getElem? (i := 431) (by decide +kernel), by decide +kernel⟩
theorem mm_432 : Cond.static yX8_isValue ∈ zGW := List.mem_filter.mpr ⟨List.mem_of_getElem? (i := 432) (by decide +kernel), by decide +kernel⟩
theorem mm_433 : Cond.code yX8_isValue cX8_isValue 1 (some .boolean) ∈ zGW := List.mem_filter.mpr ⟨List.mem_of_getElem? (i := 433) (by decide +kernel), by decide +kernel⟩
theorem mm_451 : Cond.methodLink RX8 111 yX8_isPerson ∈ zGW := List.mem_filter.mpr ⟨List.mem_of_getElem? (i := 451) (by decide +kernel), by decide +kernel⟩
theorem mm_453 : Cond.instanceMethod yX8_isPerson ∈ zGW := List.mem_filter.mpr ⟨List.mem_of_getElem? (i := 453) (by decide +kernel), by decide +kernel⟩
theorem mm_454 : Cond.code yX8_isPerson cX8_isPerson 2 (some .boolean) ∈ zGW := List.mem_filter.mpr ⟨List.mem_of_getElem? (i := 454) (by decide +kernel), by decide +kernel⟩
theorem mm_521 : Cond.methodLink RX8 117 yX7_append ∈ zGW := List.mem_filter.mpr ⟨List.mem_of_getElem? (i := 521) (by decide +kernel), by decide +kernel⟩
theorem mm_522 : Cond.instanceMethod yX7_append ∈ zGW := List.mem_filter.mpr ⟨List.mem_of_getElem? (i := 522) (by decide +kernel), by decide +kernel⟩
theorem mm_523 : Cond.selects RX7 yX7_append yX7_append ∈ zGW := List.mem_filter.mpr ⟨List.mem_of_getElem? (i := 523) (by decide +kernel), by decide +kernel⟩
theorem mm_524 : Cond.code yX7_append cX7_append 3 none ∈ zGW := List.mem_filter.mpr ⟨List.mem_of_getElem? (i := 524) (by decide +kernel), by decide +kernel⟩
theorem mm_529 : Cond.methodLink RX8 120 yX8_isLevel ∈ zGW := List.mem_filter.mpr ⟨List.mem_of_getElem? (i := 529) (by decide +kernel), by decide +kernel⟩
theorem mm_530 : Cond.static yX8_isLevel ∈ zGW := List.mem_filter.mpr ⟨List.mem_of_getElem? (i := 530) (by decide +kernel), by decide +kernel⟩
theorem mm_531 : Cond.code yX8_isLevel cX8_isLevel 1 (some .boolean) ∈ zGW := List.mem_filter.mpr ⟨List.mem_of_getElem? (i := 531) (by decide +kernel), by decide +kernel⟩
theorem mm_532 : Cond.methodLink RX8 123 yX3_raised ∈ zGW := List.mem_filter.mpr ⟨List.mem_of_getElem? (i := 532) (by decide +kernel), by decide +kernel⟩
theorem mm_533 : Cond.instanceMethod yX3_raised ∈ zGW := List.mem_filter.mpr ⟨List.mem_of_getElem? (i := 533) (by decide +kernel), by decide +kernel⟩
theorem mm_534 : Cond.selects RX3 yX3_raised yX3_raised ∈ zGW := List.mem_filter.mpr ⟨List.mem_of_getElem? (i := 534) (by decide +kernel), by decide +kernel⟩
theorem mm_535 : Cond.code yX3_raised cX3_raised 5 (some .int) ∈ zGW := List.mem_filter.mpr ⟨List.mem_of_getElem? (i := 535) (by decide +kernel), by decide +kernel⟩
theorem mm_540 : Cond.methodLink RX8 127 yX3_valuesBelow ∈ zGW := List.mem_filter.mpr ⟨List.mem_of_getElem? (i := 540) (by decide +kernel), by decide +kernel⟩
theorem mm_541 : Cond.instanceMethod yX3_valuesBelow ∈ zGW := List.mem_filter.mpr ⟨List.mem_of_getElem? (i := 541) (by decide +kernel), by decide +kernel⟩
theorem mm_542 : Cond.selects RX3 yX3_valuesBelow yX3_valuesBelow ∈ zGW := List.mem_filter.mpr ⟨List.mem_of_getElem? (i := 542) (by decide +kernel), by decide +kernel⟩
theorem mm_543 : Cond.code yX3_valuesBelow cX3_valuesBelow 2 (some .int) ∈ zGW := List.mem_filter.mpr ⟨List.mem_of_getElem? (i := 543) (by decide +kernel), by decide +kernel⟩
theorem mm_583 : Cond.methodLink RX8 147 yX8_isLive ∈ zGW := List.mem_filter.mpr ⟨List.mem_of_getElem? (i := 583) (by decide +kernel), by decide +kernel⟩
theorem mm_585 : Cond.instanceMethod yX8_isLive ∈ zGW := List.mem_filter.mpr ⟨List.mem_of_getElem? (i := 585) (by decide +kernel), by decide +kernel⟩
theorem mm_586 : Cond.code yX8_isLive cX8_isLive 3 (some .boolean) ∈ zGW := List.mem_filter.mpr ⟨List.mem_of_getElem? (i := 586) (by decide +kernel), by decide +kernel⟩
theorem mm_587 : Cond.methodLink RX8 168 yX8_isLine ∈ zGW := List.mem_filter.mpr ⟨List.mem_of_getElem? (i := 587) (by decide +kernel), by decide +kernel⟩
theorem mm_589 : Cond.instanceMethod yX8_isLine ∈ zGW := List.mem_filter.mpr ⟨List.mem_of_getElem? (i := 589) (by decide +kernel), by decide +kernel⟩
theorem mm_590 : Cond.code yX8_isLine cX8_isLine 3 (some .boolean) ∈ zGW := List.mem_filter.mpr ⟨List.mem_of_getElem? (i := 590) (by decide +kernel), by decide +kernel⟩
theorem mm_591 : Cond.methodLink RX8 161 yX8_isBook ∈ zGW := List.mem_filter.mpr ⟨List.mem_of_getElem? (i := 591) (by decide +kernel), by decide +kernel⟩
theorem mm_593 : Cond.instanceMethod yX8_isBook ∈ zGW := List.mem_filter.mpr ⟨List.mem_of_getElem? (i := 593) (by decide +kernel), by decide +kernel⟩
theorem mm_594 : Cond.code yX8_isBook cX8_isBook 2 (some .boolean) ∈ zGW := List.mem_filter.mpr ⟨List.mem_of_getElem? (i := 594) (by decide +kernel), by decide +kernel⟩
theorem mm_663 : Cond.methodLink RX8 319 yX8_shownBooks ∈ zGW := List.mem_filter.mpr ⟨List.mem_of_getElem? (i := 663) (by decide +kernel), by decide +kernel⟩
theorem mm_665 : Cond.instanceMethod yX8_shownBooks ∈ zGW := List.mem_filter.mpr ⟨List.mem_of_getElem? (i := 665) (by decide +kernel), by decide +kernel⟩
theorem mm_666 : Cond.code yX8_shownBooks cX8_shownBooks 3 (some .int) ∈ zGW := List.mem_filter.mpr ⟨List.mem_of_getElem? (i := 666) (by decide +kernel), by decide +kernel⟩
theorem mm_699 : Cond.constantLong RX8 213 (-1) ∈ zGW := List.mem_filter.mpr ⟨List.mem_of_getElem? (i := 699) (by decide +kernel), by decide +kernel⟩
theorem mm_772 : Cond.methodLink RX8 251 yX8_isBar ∈ zGW := List.mem_filter.mpr ⟨List.mem_of_getElem? (i := 772) (by decide +kernel), by decide +kernel⟩
theorem mm_773 : Cond.static yX8_isBar ∈ zGW := List.mem_filter.mpr ⟨List.mem_of_getElem? (i := 773) (by decide +kernel), by decide +kernel⟩
theorem mm_774 : Cond.code yX8_isBar cX8_isBar 1 (some .boolean) ∈ zGW := List.mem_filter.mpr ⟨List.mem_of_getElem? (i := 774) (by decide +kernel), by decide +kernel⟩
theorem mm_947 : Cond.methodLink RX8 316 yX8_toldGossips ∈ zGW := List.mem_filter.mpr ⟨List.mem_of_getElem? (i := 947) (by decide +kernel), by decide +kernel⟩
theorem mm_949 : Cond.instanceMethod yX8_toldGossips ∈ zGW := List.mem_filter.mpr ⟨List.mem_of_getElem? (i := 949) (by decide +kernel), by decide +kernel⟩
theorem mm_950 : Cond.code yX8_toldGossips cX8_toldGossips 3 (some .int) ∈ zGW := List.mem_filter.mpr ⟨List.mem_of_getElem? (i := 950) (by decide +kernel), by decide +kernel⟩
theorem mm_1005 : Cond.lays RX9 "TwoFitModel" "people" "I" ∈ zGW := List.mem_filter.mpr ⟨List.mem_of_getElem? (i := 1005) (by decide +kernel), by decide +kernel⟩
theorem mm_1007 : Cond.laysFinal RX9 "TwoFitModel" "upperOf" "[I" ∈ zGW := List.mem_filter.mpr ⟨List.mem_of_getElem? (i := 1007) (by decide +kernel), by decide +kernel⟩
theorem mm_1009 : Cond.laysFinal RX9 "TwoFitModel" "weightOf" "[I" ∈ zGW := List.mem_filter.mpr ⟨List.mem_of_getElem? (i := 1009) (by decide +kernel), by decide +kernel⟩
theorem mm_1011 : Cond.laysFinal RX9 "TwoFitModel" "valueOf" "[I" ∈ zGW := List.mem_filter.mpr ⟨List.mem_of_getElem? (i := 1011) (by decide +kernel), by decide +kernel⟩
theorem mm_1013 : Cond.laysFinal RX9 "TwoFitModel" "wishOf" "[I" ∈ zGW := List.mem_filter.mpr ⟨List.mem_of_getElem? (i := 1013) (by decide +kernel), by decide +kernel⟩
theorem mm_1015 : Cond.lays RX9 "TwoFitModel" "books" "I" ∈ zGW := List.mem_filter.mpr ⟨List.mem_of_getElem? (i := 1015) (by decide +kernel), by decide +kernel⟩
theorem mm_1017 : Cond.lays RX9 "TwoFitModel" "links" "I" ∈ zGW := List.mem_filter.mpr ⟨List.mem_of_getElem? (i := 1017) (by decide +kernel), by decide +kernel⟩
theorem mm_1019 : Cond.lays RX9 "TwoFitModel" "gossips" "I" ∈ zGW := List.mem_filter.mpr ⟨List.mem_of_getElem? (i := 1019) (by decide +kernel), by decide +kernel⟩
theorem mm_1021 : Cond.lays RX9 "TwoFitModel" "shownSet" "I" ∈ zGW := List.mem_filter.mpr ⟨List.mem_of_getElem? (i := 1021) (by decide +kernel), by decide +kernel⟩
theorem mm_1023 : Cond.laysFinal RX9 "TwoFitModel" "lineMany" "[I" ∈ zGW := List.mem_filter.mpr ⟨List.mem_of_getElem? (i := 1023) (by decide +kernel), by decide +kernel⟩
theorem mm_1025 : Cond.laysFinal RX9 "TwoFitModel" "ownerOf" "[I" ∈ zGW := List.mem_filter.mpr ⟨List.mem_of_getElem? (i := 1025) (by decide +kernel), by decide +kernel⟩
theorem mm_1027 : Cond.laysFinal RX9 "TwoFitModel" "showsOf" "[I" ∈ zGW := List.mem_filter.mpr ⟨List.mem_of_getElem? (i := 1027) (by decide +kernel), by decide +kernel⟩
theorem mm_1029 : Cond.laysFinal RX9 "TwoFitModel" "linkA" "[I" ∈ zGW := List.mem_filter.mpr ⟨List.mem_of_getElem? (i := 1029) (by decide +kernel), by decide +kernel⟩
theorem mm_1031 : Cond.laysFinal RX9 "TwoFitModel" "linkB" "[I" ∈ zGW := List.mem_filter.mpr ⟨List.mem_of_getElem? (i := 1031) (by decide +kernel), by decide +kernel⟩
theorem mm_1033 : Cond.laysFinal RX9 "TwoFitModel" "isCut" "[Z" ∈ zGW := List.mem_filter.mpr ⟨List.mem_of_getElem? (i := 1033) (by decide +kernel), by decide +kernel⟩
theorem mm_1035 : Cond.laysFinal RX9 "TwoFitModel" "tape" "[B" ∈ zGW := List.mem_filter.mpr ⟨List.mem_of_getElem? (i := 1035) (by decide +kernel), by decide +kernel⟩
theorem mm_1037 : Cond.lays RX9 "TwoFitModel" "taped" "I" ∈ zGW := List.mem_filter.mpr ⟨List.mem_of_getElem? (i := 1037) (by decide +kernel), by decide +kernel⟩
theorem mm_1039 : Cond.lays RX9 "TwoFitModel" "place0" "I" ∈ zGW := List.mem_filter.mpr ⟨List.mem_of_getElem? (i := 1039) (by decide +kernel), by decide +kernel⟩
theorem mm_1041 : Cond.lays RX9 "TwoFitModel" "length0" "I" ∈ zGW := List.mem_filter.mpr ⟨List.mem_of_getElem? (i := 1041) (by decide +kernel), by decide +kernel⟩
theorem mm_1043 : Cond.lays RX9 "TwoFitModel" "fault" "I" ∈ zGW := List.mem_filter.mpr ⟨List.mem_of_getElem? (i := 1043) (by decide +kernel), by decide +kernel⟩
theorem mm_1045 : Cond.lays RX9 "TwoFitModel" "open" "I" ∈ zGW := List.mem_filter.mpr ⟨List.mem_of_getElem? (i := 1045) (by decide +kernel), by decide +kernel⟩
theorem mm_1047 : Cond.lays RX9 "TwoFitModel" "codeMany" "I" ∈ zGW := List.mem_filter.mpr ⟨List.mem_of_getElem? (i := 1047) (by decide +kernel), by decide +kernel⟩
theorem mm_1049 : Cond.lays RX9 "TwoFitModel" "waiting" "I" ∈ zGW := List.mem_filter.mpr ⟨List.mem_of_getElem? (i := 1049) (by decide +kernel), by decide +kernel⟩
theorem mm_1051 : Cond.lays RX9 "TwoFitModel" "number0" "I" ∈ zGW := List.mem_filter.mpr ⟨List.mem_of_getElem? (i := 1051) (by decide +kernel), by decide +kernel⟩
theorem mm_1053 : Cond.laysFinal RX9 "TwoFitModel" "said" "[I" ∈ zGW := List.mem_filter.mpr ⟨List.mem_of_getElem? (i := 1053) (by decide +kernel), by decide +kernel⟩
theorem mm_1055 : Cond.laysFinal RX9 "TwoFitModel" "waits" "[I" ∈ zGW := List.mem_filter.mpr ⟨List.mem_of_getElem? (i := 1055) (by decide +kernel), by decide +kernel⟩
theorem mm_1057 : Cond.laysFinal RX9 "TwoFitModel" "codes" "[I" ∈ zGW := List.mem_filter.mpr ⟨List.mem_of_getElem? (i := 1057) (by decide +kernel), by decide +kernel⟩
theorem mm_1059 : Cond.laysFinal RX9 "TwoFitModel" "codeTo" "[I" ∈ zGW := List.mem_filter.mpr ⟨List.mem_of_getElem? (i := 1059) (by decide +kernel), by decide +kernel⟩
theorem mm_1061 : Cond.laysFinal RX9 "TwoFitModel" "gossipOf" "[I" ∈ zGW := List.mem_filter.mpr ⟨List.mem_of_getElem? (i := 1061) (by decide +kernel), by decide +kernel⟩
theorem mm_1063 : Cond.laysFinal RX9 "TwoFitModel" "stack" "[I" ∈ zGW := List.mem_filter.mpr ⟨List.mem_of_getElem? (i := 1063) (by decide +kernel), by decide +kernel⟩
theorem mm_1065 : Cond.laysFinal RX9 "TwoFitModel" "facts" "[I" ∈ zGW := List.mem_filter.mpr ⟨List.mem_of_getElem? (i := 1065) (by decide +kernel), by decide +kernel⟩
theorem mm_1067 : Cond.laysFinal RX9 "TwoFitModel" "isReached" "[Z" ∈ zGW := List.mem_filter.mpr ⟨List.mem_of_getElem? (i := 1067) (by decide +kernel), by decide +kernel⟩
theorem mm_1069 : Cond.laysFinal RX9 "TwoFitModel" "fitting" "[I" ∈ zGW := List.mem_filter.mpr ⟨List.mem_of_getElem? (i := 1069) (by decide +kernel), by decide +kernel⟩
theorem mm_1071 : Cond.laysFinal RX9 "TwoFitModel" "ways" "[J" ∈ zGW := List.mem_filter.mpr ⟨List.mem_of_getElem? (i := 1071) (by decide +kernel), by decide +kernel⟩
theorem mm_1073 : Cond.laysFinal RX9 "TwoFitModel" "ones" "[I" ∈ zGW := List.mem_filter.mpr ⟨List.mem_of_getElem? (i := 1073) (by decide +kernel), by decide +kernel⟩
theorem mm_1075 : Cond.laysFinal RX9 "TwoFitModel" "hasOf" "[I" ∈ zGW := List.mem_filter.mpr ⟨List.mem_of_getElem? (i := 1075) (by decide +kernel), by decide +kernel⟩
theorem mm_1077 : Cond.laysFinal RX9 "TwoFitModel" "givenTo" "[I" ∈ zGW := List.mem_filter.mpr ⟨List.mem_of_getElem? (i := 1077) (by decide +kernel), by decide +kernel⟩
theorem mm_1079 : Cond.laysFinal RX9 "TwoFitModel" "askedBy" "[I" ∈ zGW := List.mem_filter.mpr ⟨List.mem_of_getElem? (i := 1079) (by decide +kernel), by decide +kernel⟩
theorem mm_1081 : Cond.laysFinal RX9 "TwoFitModel" "waitingLine" "[I" ∈ zGW := List.mem_filter.mpr ⟨List.mem_of_getElem? (i := 1081) (by decide +kernel), by decide +kernel⟩
theorem mm_1083 : Cond.laysFinal RX9 "TwoFitModel" "before" "[I" ∈ zGW := List.mem_filter.mpr ⟨List.mem_of_getElem? (i := 1083) (by decide +kernel), by decide +kernel⟩
theorem mm_1085 : Cond.lays RX9 "TwoFitModel" "must0" "I" ∈ zGW := List.mem_filter.mpr ⟨List.mem_of_getElem? (i := 1085) (by decide +kernel), by decide +kernel⟩
theorem mm_1087 : Cond.lays RX9 "TwoFitModel" "suspects" "I" ∈ zGW := List.mem_filter.mpr ⟨List.mem_of_getElem? (i := 1087) (by decide +kernel), by decide +kernel⟩
theorem mm_1089 : Cond.laysFinal RX9 "TwoFitModel" "suspect" "[I" ∈ zGW := List.mem_filter.mpr ⟨List.mem_of_getElem? (i := 1089) (by decide +kernel), by decide +kernel⟩
theorem mm_1091 : Cond.laysFinal RX9 "TwoFitModel" "parts" "[I" ∈ zGW := List.mem_filter.mpr ⟨List.mem_of_getElem? (i := 1091) (by decide +kernel), by decide +kernel⟩
theorem mm_1093 : Cond.laysFinal RX9 "TwoFitModel" "enough" "[I" ∈ zGW := List.mem_filter.mpr ⟨List.mem_of_getElem? (i := 1093) (by decide +kernel), by decide +kernel⟩
theorem mm_1095 : Cond.laysFinal RX9 "TwoFitModel" "blurShows" "[I" ∈ zGW := List.mem_filter.mpr ⟨List.mem_of_getElem? (i := 1095) (by decide +kernel), by decide +kernel⟩
theorem mm_1097 : Cond.lays RX9 "TwoFitModel" "cuts0" "I" ∈ zGW := List.mem_filter.mpr ⟨List.mem_of_getElem? (i := 1097) (by decide +kernel), by decide +kernel⟩
set_option maxRecDepth 20000 in
theorem inG0 : ∀ w ∈ u_ws RX0 TX0 5, w ∈ zGW := List.forall_mem_cons.mpr ⟨mm_222, List.forall_mem_cons.mpr ⟨mm_224, List.forall_mem_cons.mpr ⟨mm_226, List.forall_mem_cons.mpr ⟨mm_228, List.forall_mem_cons.mpr ⟨mm_230, fun _ h => absurd h List.not_mem_nil⟩⟩⟩⟩⟩
set_option maxRecDepth 20000 in
theorem inG1 : ∀ w ∈ u_ws RX1 TX1 7, w ∈ zGW := List.forall_mem_cons.mpr ⟨mm_251, List.forall_mem_cons.mpr ⟨mm_253, List.forall_mem_cons.mpr ⟨mm_255, List.forall_mem_cons.mpr ⟨mm_257, List.forall_mem_cons.mpr ⟨mm_259, List.forall_mem_cons.mpr ⟨mm_261, List.forall_mem_cons.mpr ⟨mm_263, fun _ h => absurd h List.not_mem_nil⟩⟩⟩⟩⟩⟩⟩
set_option maxRecDepth 20000 in
theorem inG2 : ∀ w ∈ u_ws RX2 TX2 5, w ∈ zGW := List.forall_mem_cons.mpr ⟨mm_349, List.forall_mem_cons.mpr ⟨mm_351, List.forall_mem_cons.mpr ⟨mm_353, List.forall_mem_cons.mpr ⟨mm_355, List.forall_mem_cons.mpr ⟨mm_357, fun _ h => absurd h List.not_mem_nil⟩⟩⟩⟩⟩
set_option maxRecDepth 20000 in
theorem inG3 : ∀ w ∈ u_ws RX3 TX3 6, w ∈ zGW := List.forall_mem_cons.mpr ⟨mm_322, List.forall_mem_cons.mpr ⟨mm_324, List.forall_mem_cons.mpr ⟨mm_326, List.forall_mem_cons.mpr ⟨mm_328, List.forall_mem_cons.mpr ⟨mm_330, List.forall_mem_cons.mpr ⟨mm_332, fun _ h => absurd h List.not_mem_nil⟩⟩⟩⟩⟩⟩
set_option maxRecDepth 20000 in
theorem inG4 : ∀ w ∈ u_ws RX4 TX4 11, w ∈ zGW := List.forall_mem_cons.mpr ⟨mm_287, List.forall_mem_cons.mpr ⟨mm_289, List.forall_mem_cons.mpr ⟨mm_291, List.forall_mem_cons.mpr ⟨mm_293, List.forall_mem_cons.mpr ⟨mm_295, List.forall_mem_cons.mpr ⟨mm_297, List.forall_mem_cons.mpr ⟨mm_299, List.forall_mem_cons.mpr ⟨mm_301, List.forall_mem_cons.mpr ⟨mm_303, List.forall_mem_cons.mpr ⟨mm_305, List.forall_mem_cons.mpr ⟨mm_307, fun _ h => absurd h List.not_mem_nil⟩⟩⟩⟩⟩⟩⟩⟩⟩⟩⟩
set_option maxRecDepth 20000 in
theorem inG5 : ∀ w ∈ u_ws RX5 TX5 3, w ∈ zGW := List.forall_mem_cons.mpr ⟨mm_157, List.forall_mem_cons.mpr ⟨mm_159, List.forall_mem_cons.mpr ⟨mm_161, fun _ h => absurd h List.not_mem_nil⟩⟩⟩
set_option maxRecDepth 20000 in
theorem inG6 : ∀ w ∈ u_ws RX6 TX6 10, w ∈ zGW := List.forall_mem_cons.mpr ⟨mm_189, List.forall_mem_cons.mpr ⟨mm_191, List.forall_mem_cons.mpr ⟨mm_193, List.forall_mem_cons.mpr ⟨mm_195, List.forall_mem_cons.mpr ⟨mm_197, List.forall_mem_cons.mpr ⟨mm_199, List.forall_mem_cons.mpr ⟨mm_201, List.forall_mem_cons.mpr ⟨mm_203, List.forall_mem_cons.mpr ⟨mm_205, List.forall_mem_cons.mpr ⟨mm_207, fun _ h => absurd h List.not_mem_nil⟩⟩⟩⟩⟩⟩⟩⟩⟩⟩
set_option maxRecDepth 20000 in
theorem inG7 : ∀ w ∈ u_ws RX7 TX7 2, w ∈ zGW := List.forall_mem_cons.mpr ⟨mm_139, List.forall_mem_cons.mpr ⟨mm_141, fun _ h => absurd h List.not_mem_nil⟩⟩
set_option maxRecDepth 20000 in
theorem inG8 : ∀ w ∈ u_ws RX8 TX8 13, w ∈ zGW := List.forall_mem_cons.mpr ⟨mm_373, List.forall_mem_cons.mpr ⟨mm_375, List.forall_mem_cons.mpr ⟨mm_377, List.forall_mem_cons.mpr ⟨mm_379, List.forall_mem_cons.mpr ⟨mm_381, List.forall_mem_cons.mpr ⟨mm_383, List.forall_mem_cons.mpr ⟨mm_385, List.forall_mem_cons.mpr ⟨mm_387, List.forall_mem_cons.mpr ⟨mm_389, List.forall_mem_cons.mpr ⟨mm_391, List.forall_mem_cons.mpr ⟨mm_393, List.forall_mem_cons.mpr ⟨mm_395, List.forall_mem_cons.mpr ⟨mm_397, fun _ h => absurd h List.not_mem_nil⟩⟩⟩⟩⟩⟩⟩⟩⟩⟩⟩⟩⟩
set_option maxRecDepth 20000 in
theorem inG9 : ∀ w ∈ u_ws RX9 TX9 47, w ∈ zGW := List.forall_mem_cons.mpr ⟨mm_1005, List.forall_mem_cons.mpr ⟨mm_1007, List.forall_mem_cons.mpr ⟨mm_1009, List.forall_mem_cons.mpr ⟨mm_1011, List.forall_mem_cons.mpr ⟨mm_1013, List.forall_mem_cons.mpr ⟨mm_1015, List.forall_mem_cons.mpr ⟨mm_1017, List.forall_mem_cons.mpr ⟨mm_1019, List.forall_mem_cons.mpr ⟨mm_1021, List.forall_mem_cons.mpr ⟨mm_1023, List.forall_mem_cons.mpr ⟨mm_1025, List.forall_mem_cons.mpr ⟨mm_1027, List.forall_mem_cons.mpr ⟨mm_1029, List.forall_mem_cons.mpr ⟨mm_1031, List.forall_mem_cons.mpr ⟨mm_1033, List.forall_mem_cons.mpr ⟨mm_1035, List.forall_mem_cons.mpr ⟨mm_1037, List.forall_mem_cons.mpr ⟨mm_1039, List.forall_mem_cons.mpr ⟨mm_1041, List.forall_mem_cons.mpr ⟨mm_1043, List.forall_mem_cons.mpr ⟨mm_1045, List.forall_mem_cons.mpr ⟨mm_1047, List.forall_mem_cons.mpr ⟨mm_1049, List.forall_mem_cons.mpr ⟨mm_1051, List.forall_mem_cons.mpr ⟨mm_1053, List.forall_mem_cons.mpr ⟨mm_1055, List.forall_mem_cons.mpr ⟨mm_1057, List.forall_mem_cons.mpr ⟨mm_1059, List.forall_mem_cons.mpr ⟨mm_1061, List.forall_mem_cons.mpr ⟨mm_1063, List.forall_mem_cons.mpr ⟨mm_1065, List.forall_mem_cons.mpr ⟨mm_1067, List.forall_mem_cons.mpr ⟨mm_1069, List.forall_mem_cons.mpr ⟨mm_1071, List.forall_mem_cons.mpr ⟨mm_1073, List.forall_mem_cons.mpr ⟨mm_1075, List.forall_mem_cons.mpr ⟨mm_1077, List.forall_mem_cons.mpr ⟨mm_1079, List.forall_mem_cons.mpr ⟨mm_1081, List.forall_mem_cons.mpr ⟨mm_1083, List.forall_mem_cons.mpr ⟨mm_1085, List.forall_mem_cons.mpr ⟨mm_1087, List.forall_mem_cons.mpr ⟨mm_1089, List.forall_mem_cons.mpr ⟨mm_1091, List.forall_mem_cons.mpr ⟨mm_1093, List.forall_mem_cons.mpr ⟨mm_1095, List.forall_mem_cons.mpr ⟨mm_1097, fun _ h => absurd h List.not_mem_nil⟩⟩⟩⟩⟩⟩⟩⟩⟩⟩⟩⟩⟩⟩⟩⟩⟩⟩⟩⟩⟩⟩⟩⟩⟩⟩⟩⟩⟩⟩⟩⟩⟩⟩⟩⟩⟩⟩⟩⟩⟩⟩⟩⟩⟩⟩⟩
