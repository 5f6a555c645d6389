theorem dX7_init_0 : decode cX7_init 0 = .ok (.aload_n 0, 1) := by decide +kernel
theorem dX7_init_1 : decode cX7_init 1 = .ok (.invokespecial 1, 3) := by decide +kernel
theorem dX7_init_4 : decode cX7_init 4 = .ok (.aload_n 0, 1) := by decide +kernel
theorem dX7_init_5 : decode cX7_init 5 = .ok (.bipush 63, 2) := by decide +kernel
theorem dX7_init_7 : decode cX7_init 7 = .ok (.newarray .int, 2) := by decide +kernel
theorem dX7_init_9 : decode cX7_init 9 = .ok (.putfield 7, 3) := by decide +kernel
theorem dX7_init_12 : decode cX7_init 12 = .ok (.aload_n 0, 1) := by decide +kernel
theorem dX7_init_13 : decode cX7_init 13 = .ok (.bipush 63, 2) := by decide +kernel
theorem dX7_init_15 : decode cX7_init 15 = .ok (.newarray .int, 2) := by decide +kernel
theorem dX7_init_17 : decode cX7_init 17 = .ok (.putfield 13, 3) := by decide +kernel
theorem dX7_init_20 : decode cX7_init 20 = .ok (.aload_n 0, 1) := by decide +kernel
theorem dX7_init_21 : decode cX7_init 21 = .ok (.sipush 160, 3) := by decide +kernel
theorem dX7_init_24 : decode cX7_init 24 = .ok (.newarray .int, 2) := by decide +kernel
theorem dX7_init_26 : decode cX7_init 26 = .ok (.putfield 16, 3) := by decide +kernel
theorem dX7_init_29 : decode cX7_init 29 = .ok (.aload_n 0, 1) := by decide +kernel
theorem dX7_init_30 : decode cX7_init 30 = .ok (.sipush 960, 3) := by decide +kernel
theorem dX7_init_33 : decode cX7_init 33 = .ok (.newarray .int, 2) := by decide +kernel
theorem dX7_init_35 : decode cX7_init 35 = .ok (.putfield 19, 3) := by decide +kernel
theorem dX7_init_38 : decode cX7_init 38 = .ok (.aload_n 0, 1) := by decide +kernel
theorem dX7_init_39 : decode cX7_init 39 = .ok (.bipush 18, 2) := by decide +kernel
theorem dX7_init_41 : decode cX7_init 41 = .ok (.newarray .int, 2) := by decide +kernel
theorem dX7_init_43 : decode cX7_init 43 = .ok (.putfield 22, 3) := by decide +kernel
theorem dX7_init_46 : decode cX7_init 46 = .ok (.aload_n 0, 1) := by decide +kernel
theorem dX7_init_47 : decode cX7_init 47 = .ok (.aload_n 0, 1) := by decide +kernel
theorem dX7_init_48 : decode cX7_init 48 = .ok (.invokevirtual 25, 3) := by decide +kernel
theorem dX7_init_51 : decode cX7_init 51 = .ok (.putfield 29, 3) := by decide +kernel
theorem dX7_init_54 : decode cX7_init 54 = .ok (.aload_n 0, 1) := by decide +kernel
theorem dX7_init_55 : decode cX7_init 55 = .ok (.bipush 72, 2) := by decide +kernel
theorem dX7_init_57 : decode cX7_init 57 = .ok (.newarray .char, 2) := by decide +kernel
theorem dX7_init_59 : decode cX7_init 59 = .ok (.dup, 1) := by decide +kernel
theorem dX7_init_60 : decode cX7_init 60 = .ok (.iconst 0, 1) := by decide +kernel
theorem dX7_init_61 : decode cX7_init 61 = .ok (.bipush 119, 2) := by decide +kernel
theorem dX7_init_63 : decode cX7_init 63 = .ok (.castore, 1) := by decide +kernel
theorem dX7_init_64 : decode cX7_init 64 = .ok (.dup, 1) := by decide +kernel
theorem dX7_init_65 : decode cX7_init 65 = .ok (.iconst 1, 1) := by decide +kernel
theorem dX7_init_66 : decode cX7_init 66 = .ok (.bipush 111, 2) := by decide +kernel
theorem dX7_init_68 : decode cX7_init 68 = .ok (.castore, 1) := by decide +kernel
theorem dX7_init_69 : decode cX7_init 69 = .ok (.dup, 1) := by decide +kernel
theorem dX7_init_70 : decode cX7_init 70 = .ok (.iconst 2, 1) := by decide +kernel
theorem dX7_init_71 : decode cX7_init 71 = .ok (.bipush 114, 2) := by decide +kernel
theorem dX7_init_73 : decode cX7_init 73 = .ok (.castore, 1) := by decide +kernel
theorem dX7_init_74 : decode cX7_init 74 = .ok (.dup, 1) := by decide +kernel
theorem dX7_init_75 : decode cX7_init 75 = .ok (.iconst 3, 1) := by decide +kernel
theorem dX7_init_76 : decode cX7_init 76 = .ok (.bipush 100, 2) := by decide +kernel
theorem dX7_init_78 : decode cX7_init 78 = .ok (.castore, 1) := by decide +kernel
theorem dX7_init_79 : decode cX7_init 79 = .ok (.dup, 1) := by decide +kernel
theorem dX7_init_80 : decode cX7_init 80 = .ok (.iconst 4, 1) := by decide +kernel
theorem dX7_init_81 : decode cX7_init 81 = .ok (.iconst 0, 1) := by decide +kernel
theorem dX7_init_82 : decode cX7_init 82 = .ok (.castore, 1) := by decide +kernel
theorem dX7_init_83 : decode cX7_init 83 = .ok (.dup, 1) := by decide +kernel
theorem dX7_init_84 : decode cX7_init 84 = .ok (.iconst 5, 1) := by decide +kernel
theorem dX7_init_85 : decode cX7_init 85 = .ok (.iconst 0, 1) := by decide +kernel
theorem dX7_init_86 : decode cX7_init 86 = .ok (.castore, 1) := by decide +kernel
theorem dX7_init_87 : decode cX7_init 87 = .ok (.dup, 1) := by decide +kernel
theorem dX7_init_88 : decode cX7_init 88 = .ok (.bipush 6, 2) := by decide +kernel
theorem dX7_init_90 : decode cX7_init 90 = .ok (.bipush 97, 2) := by decide +kernel
theorem dX7_init_92 : decode cX7_init 92 = .ok (.castore, 1) := by decide +kernel
theorem dX7_init_93 : decode cX7_init 93 = .ok (.dup, 1) := by decide +kernel
theorem dX7_init_94 : decode cX7_init 94 = .ok (.bipush 7, 2) := by decide +kernel
theorem dX7_init_96 : decode cX7_init 96 = .ok (.bipush 110, 2) := by decide +kernel
theorem dX7_init_98 : decode cX7_init 98 = .ok (.castore, 1) := by decide +kernel
theorem dX7_init_99 : decode cX7_init 99 = .ok (.dup, 1) := by decide +kernel
theorem dX7_init_100 : decode cX7_init 100 = .ok (.bipush 8, 2) := by decide +kernel
theorem dX7_init_102 : decode cX7_init 102 = .ok (.bipush 103, 2) := by decide +kernel
theorem dX7_init_104 : decode cX7_init 104 = .ok (.castore, 1) := by decide +kernel
theorem dX7_init_105 : decode cX7_init 105 = .ok (.dup, 1) := by decide +kernel
theorem dX7_init_106 : decode cX7_init 106 = .ok (.bipush 9, 2) := by decide +kernel
theorem dX7_init_108 : decode cX7_init 108 = .ok (.bipush 101, 2) := by decide +kernel
theorem dX7_init_110 : decode cX7_init 110 = .ok (.castore, 1) := by decide +kernel
theorem dX7_init_111 : decode cX7_init 111 = .ok (.dup, 1) := by decide +kernel
theorem dX7_init_112 : decode cX7_init 112 = .ok (.bipush 10, 2) := by decide +kernel
theorem dX7_init_114 : decode cX7_init 114 = .ok (.bipush 114, 2) := by decide +kernel
theorem dX7_init_116 : decode cX7_init 116 = .ok (.castore, 1) := by decide +kernel
theorem dX7_init_117 : decode cX7_init 117 = .ok (.dup, 1) := by decide +kernel
theorem dX7_init_118 : decode cX7_init 118 = .ok (.bipush 11, 2) := by decide +kernel
theorem dX7_init_120 : decode cX7_init 120 = .ok (.iconst 0, 1) := by decide +kernel
theorem dX7_init_121 : decode cX7_init 121 = .ok (.castore, 1) := by decide +kernel
theorem dX7_init_122 : decode cX7_init 122 = .ok (.dup, 1) := by decide +kernel
theorem dX7_init_123 : decode cX7_init 123 = .ok (.bipush 12, 2) := by decide +kernel
theorem dX7_init_125 : decode cX7_init 125 = .ok (.bipush 110, 2) := by decide +kernel
theorem dX7_init_127 : decode cX7_init 127 = .ok (.castore, 1) := by decide +kernel
theorem dX7_init_128 : decode cX7_init 128 = .ok (.dup, 1) := by decide +kernel
theorem dX7_init_129 : decode cX7_init 129 = .ok (.bipush 13, 2) := by decide +kernel
theorem dX7_init_131 : decode cX7_init 131 = .ok (.bipush 117, 2) := by decide +kernel
theorem dX7_init_133 : decode cX7_init 133 = .ok (.castore, 1) := by decide +kernel
theorem dX7_init_134 : decode cX7_init 134 = .ok (.dup, 1) := by decide +kernel
theorem dX7_init_135 : decode cX7_init 135 = .ok (.bipush 14, 2) := by decide +kernel
theorem dX7_init_137 : decode cX7_init 137 = .ok (.bipush 109, 2) := by decide +kernel
theorem dX7_init_139 : decode cX7_init 139 = .ok (.castore, 1) := by decide +kernel
theorem dX7_init_140 : decode cX7_init 140 = .ok (.dup, 1) := by decide +kernel
theorem dX7_init_141 : decode cX7_init 141 = .ok (.bipush 15, 2) := by decide +kernel
theorem dX7_init_143 : decode cX7_init 143 = .ok (.bipush 98, 2) := by decide +kernel
theorem dX7_init_145 : decode cX7_init 145 = .ok (.castore, 1) := by decide +kernel
theorem dX7_init_146 : decode cX7_init 146 = .ok (.dup, 1) := by decide +kernel
theorem dX7_init_147 : decode cX7_init 147 = .ok (.bipush 16, 2) := by decide +kernel
theorem dX7_init_149 : decode cX7_init 149 = .ok (.bipush 101, 2) := by decide +kernel
theorem dX7_init_151 : decode cX7_init 151 = .ok (.castore, 1) := by decide +kernel
theorem dX7_init_152 : decode cX7_init 152 = .ok (.dup, 1) := by decide +kernel
theorem dX7_init_153 : decode cX7_init 153 = .ok (.bipush 17, 2) := by decide +kernel
theorem dX7_init_155 : decode cX7_init 155 = .ok (.bipush 114, 2) := by decide +kernel
theorem dX7_init_157 : decode cX7_init 157 = .ok (.castore, 1) := by decide +kernel
theorem dX7_init_158 : decode cX7_init 158 = .ok (.dup, 1) := by decide +kernel
theorem dX7_init_159 : decode cX7_init 159 = .ok (.bipush 18, 2) := by decide +kernel
theorem dX7_init_161 : decode cX7_init 161 = .ok (.bipush 104, 2) := by decide +kernel
theorem dX7_init_163 : decode cX7_init 163 = .ok (.castore, 1) := by decide +kernel
theorem dX7_init_164 : decode cX7_init 164 = .ok (.dup, 1) := by decide +kernel
theorem dX7_init_165 : decode cX7_init 165 = .ok (.bipush 19, 2) := by decide +kernel
theorem dX7_init_167 : decode cX7_init 167 = .ok (.bipush 111, 2) := by decide +kernel
theorem dX7_init_169 : decode cX7_init 169 = .ok (.castore, 1) := by decide +kernel
theorem dX7_init_170 : decode cX7_init 170 = .ok (.dup, 1) := by decide +kernel
theorem dX7_init_171 : decode cX7_init 171 = .ok (.bipush 20, 2) := by decide +kernel
theorem dX7_init_173 : decode cX7_init 173 = .ok (.bipush 117, 2) := by decide +kernel
theorem dX7_init_175 : decode cX7_init 175 = .ok (.castore, 1) := by decide +kernel
theorem dX7_init_176 : decode cX7_init 176 = .ok (.dup, 1) := by decide +kernel
theorem dX7_init_177 : decode cX7_init 177 = .ok (.bipush 21, 2) := by decide +kernel
theorem dX7_init_179 : decode cX7_init 179 = .ok (.bipush 114, 2) := by decide +kernel
theorem dX7_init_181 : decode cX7_init 181 = .ok (.castore, 1) := by decide +kernel
theorem dX7_init_182 : decode cX7_init 182 = .ok (.dup, 1) := by decide +kernel
theorem dX7_init_183 : decode cX7_init 183 = .ok (.bipush 22, 2) := by decide +kernel
theorem dX7_init_185 : decode cX7_init 185 = .ok (.iconst 0, 1) := by decide +kernel
theorem dX7_init_186 : decode cX7_init 186 = .ok (.castore, 1) := by decide +kernel
theorem dX7_init_187 : decode cX7_init 187 = .ok (.dup, 1) := by decide +kernel
theorem dX7_init_188 : decode cX7_init 188 = .ok (.bipush 23, 2) := by decide +kernel
theorem dX7_init_190 : decode cX7_init 190 = .ok (.iconst 0, 1) := by decide +kernel
theorem dX7_init_191 : decode cX7_init 191 = .ok (.castore, 1) := by decide +kernel
theorem dX7_init_192 : decode cX7_init 192 = .ok (.dup, 1) := by decide +kernel
theorem dX7_init_193 : decode cX7_init 193 = .ok (.bipush 24, 2) := by decide +kernel
theorem dX7_init_195 : decode cX7_init 195 = .ok (.bipush 116, 2) := by decide +kernel
theorem dX7_init_197 : decode cX7_init 197 = .ok (.castore, 1) := by decide +kernel
theorem dX7_init_198 : decode cX7_init 198 = .ok (.dup, 1) := by decide +kernel
theorem dX7_init_199 : decode cX7_init 199 = .ok (.bipush 25, 2) := by decide +kernel
theorem dX7_init_201 : decode cX7_init 201 = .ok (.bipush 104, 2) := by decide +kernel
theorem dX7_init_203 : decode cX7_init 203 = .ok (.castore, 1) := by decide +kernel
theorem dX7_init_204 : decode cX7_init 204 = .ok (.dup, 1) := by decide +kernel
theorem dX7_init_205 : decode cX7_init 205 = .ok (.bipush 26, 2) := by decide +kernel
theorem dX7_init_207 : decode cX7_init 207 = .ok (.bipush 105, 2) := by decide +kernel
theorem dX7_init_209 : decode cX7_init 209 = .ok (.castore, 1) := by decide +kernel
theorem dX7_init_210 : decode cX7_init 210 = .ok (.dup, 1) := by decide +kernel
theorem dX7_init_211 : decode cX7_init 211 = .ok (.bipush 27, 2) := by decide +kernel
theorem dX7_init_213 : decode cX7_init 213 = .ok (.bipush 110, 2) := by decide +kernel
theorem dX7_init_215 : decode cX7_init 215 = .ok (.castore, 1) := by decide +kernel
theorem dX7_init_216 : decode cX7_init 216 = .ok (.dup, 1) := by decide +kernel
theorem dX7_init_217 : decode cX7_init 217 = .ok (.bipush 28, 2) := by decide +kernel
theorem dX7_init_219 : decode cX7_init 219 = .ok (.bipush 103, 2) := by decide +kernel
theorem dX7_init_221 : decode cX7_init 221 = .ok (.castore, 1) := by decide +kernel
theorem dX7_init_222 : decode cX7_init 222 = .ok (.dup, 1) := by decide +kernel
theorem dX7_init_223 : decode cX7_init 223 = .ok (.bipush 29, 2) := by decide +kernel
theorem dX7_init_225 : decode cX7_init 225 = .ok (.bipush 115, 2) := by decide +kernel
theorem dX7_init_227 : decode cX7_init 227 = .ok (.castore, 1) := by decide +kernel
theorem dX7_init_228 : decode cX7_init 228 = .ok (.dup, 1) := by decide +kernel
theorem dX7_init_229 : decode cX7_init 229 = .ok (.bipush 30, 2) := by decide +kernel
theorem dX7_init_231 : decode cX7_init 231 = .ok (.bipush 98, 2) := by decide +kernel
theorem dX7_init_233 : decode cX7_init 233 = .ok (.castore, 1) := by decide +kernel
theorem dX7_init_234 : decode cX7_init 234 = .ok (.dup, 1) := by decide +kernel
theorem dX7_init_235 : decode cX7_init 235 = .ok (.bipush 31, 2) := by decide +kernel
theorem dX7_init_237 : decode cX7_init 237 = .ok (.bipush 101, 2) := by decide +kernel
theorem dX7_init_239 : decode cX7_init 239 = .ok (.castore, 1) := by decide +kernel
theorem dX7_init_240 : decode cX7_init 240 = .ok (.dup, 1) := by decide +kernel
theorem dX7_init_241 : decode cX7_init 241 = .ok (.bipush 32, 2) := by decide +kernel
theorem dX7_init_243 : decode cX7_init 243 = .ok (.bipush 110, 2) := by decide +kernel
theorem dX7_init_245 : decode cX7_init 245 = .ok (.castore, 1) := by decide +kernel
theorem dX7_init_246 : decode cX7_init 246 = .ok (.dup, 1) := by decide +kernel
theorem dX7_init_247 : decode cX7_init 247 = .ok (.bipush 33, 2) := by decide +kernel
theorem dX7_init_249 : decode cX7_init 249 = .ok (.bipush 99, 2) := by decide +kernel
theorem dX7_init_251 : decode cX7_init 251 = .ok (.castore, 1) := by decide +kernel
theorem dX7_init_252 : decode cX7_init 252 = .ok (.dup, 1) := by decide +kernel
theorem dX7_init_253 : decode cX7_init 253 = .ok (.bipush 34, 2) := by decide +kernel
theorem dX7_init_255 : decode cX7_init 255 = .ok (.bipush 104, 2) := by decide +kernel
theorem dX7_init_257 : decode cX7_init 257 = .ok (.castore, 1) := by decide +kernel
theorem dX7_init_258 : decode cX7_init 258 = .ok (.dup, 1) := by decide +kernel
theorem dX7_init_259 : decode cX7_init 259 = .ok (.bipush 35, 2) := by decide +kernel
theorem dX7_init_261 : decode cX7_init 261 = .ok (.iconst 0, 1) := by decide +kernel
theorem dX7_init_262 : decode cX7_init 262 = .ok (.castore, 1) := by decide +kernel
theorem dX7_init_263 : decode cX7_init 263 = .ok (.dup, 1) := by decide +kernel
theorem dX7_init_264 : decode cX7_init 264 = .ok (.bipush 36, 2) := by decide +kernel
theorem dX7_init_266 : decode cX7_init 266 = .ok (.bipush 104, 2) := by decide +kernel
theorem dX7_init_268 : decode cX7_init 268 = .ok (.castore, 1) := by decide +kernel
theorem dX7_init_269 : decode cX7_init 269 = .ok (.dup, 1) := by decide +kernel
theorem dX7_init_270 : decode cX7_init 270 = .ok (.bipush 37, 2) := by decide +kernel
theorem dX7_init_272 : decode cX7_init 272 = .ok (.bipush 101, 2) := by decide +kernel
theorem dX7_init_274 : decode cX7_init 274 = .ok (.castore, 1) := by decide +kernel
theorem dX7_init_275 : decode cX7_init 275 = .ok (.dup, 1) := by decide +kernel
theorem dX7_init_276 : decode cX7_init 276 = .ok (.bipush 38, 2) := by decide +kernel
theorem dX7_init_278 : decode cX7_init 278 = .ok (.bipush 97, 2) := by decide +kernel
theorem dX7_init_280 : decode cX7_init 280 = .ok (.castore, 1) := by decide +kernel
theorem dX7_init_281 : decode cX7_init 281 = .ok (.dup, 1) := by decide +kernel
theorem dX7_init_282 : decode cX7_init 282 = .ok (.bipush 39, 2) := by decide +kernel
theorem dX7_init_284 : decode cX7_init 284 = .ok (.bipush 116, 2) := by decide +kernel
theorem dX7_init_286 : decode cX7_init 286 = .ok (.castore, 1) := by decide +kernel
theorem dX7_init_287 : decode cX7_init 287 = .ok (.dup, 1) := by decide +kernel
theorem dX7_init_288 : decode cX7_init 288 = .ok (.bipush 40, 2) := by decide +kernel
theorem dX7_init_290 : decode cX7_init 290 = .ok (.bipush 115, 2) := by decide +kernel
theorem dX7_init_292 : decode cX7_init 292 = .ok (.castore, 1) := by decide +kernel
theorem dX7_init_293 : decode cX7_init 293 = .ok (.dup, 1) := by decide +kernel
theorem dX7_init_294 : decode cX7_init 294 = .ok (.bipush 41, 2) := by decide +kernel
theorem dX7_init_296 : decode cX7_init 296 = .ok (.iconst 0, 1) := by decide +kernel
theorem dX7_init_297 : decode cX7_init 297 = .ok (.castore, 1) := by decide +kernel
theorem dX7_init_298 : decode cX7_init 298 = .ok (.dup, 1) := by decide +kernel
theorem dX7_init_299 : decode cX7_init 299 = .ok (.bipush 42, 2) := by decide +kernel
theorem dX7_init_301 : decode cX7_init 301 = .ok (.bipush 99, 2) := by decide +kernel
theorem dX7_init_303 : decode cX7_init 303 = .ok (.castore, 1) := by decide +kernel
theorem dX7_init_304 : decode cX7_init 304 = .ok (.dup, 1) := by decide +kernel
theorem dX7_init_305 : decode cX7_init 305 = .ok (.bipush 43, 2) := by decide +kernel
theorem dX7_init_307 : decode cX7_init 307 = .ok (.bipush 111, 2) := by decide +kernel
theorem dX7_init_309 : decode cX7_init 309 = .ok (.castore, 1) := by decide +kernel
theorem dX7_init_310 : decode cX7_init 310 = .ok (.dup, 1) := by decide +kernel
theorem dX7_init_311 : decode cX7_init 311 = .ok (.bipush 44, 2) := by decide +kernel
theorem dX7_init_313 : decode cX7_init 313 = .ok (.bipush 111, 2) := by decide +kernel
theorem dX7_init_315 : decode cX7_init 315 = .ok (.castore, 1) := by decide +kernel
theorem dX7_init_316 : decode cX7_init 316 = .ok (.dup, 1) := by decide +kernel
theorem dX7_init_317 : decode cX7_init 317 = .ok (.bipush 45, 2) := by decide +kernel
theorem dX7_init_319 : decode cX7_init 319 = .ok (.bipush 108, 2) := by decide +kernel
theorem dX7_init_321 : decode cX7_init 321 = .ok (.castore, 1) := by decide +kernel
theorem dX7_init_322 : decode cX7_init 322 = .ok (.dup, 1) := by decide +kernel
theorem dX7_init_323 : decode cX7_init 323 = .ok (.bipush 46, 2) := by decide +kernel
theorem dX7_init_325 : decode cX7_init 325 = .ok (.bipush 115, 2) := by decide +kernel
theorem dX7_init_327 : decode cX7_init 327 = .ok (.castore, 1) := by decide +kernel
theorem dX7_init_328 : decode cX7_init 328 = .ok (.dup, 1) := by decide +kernel
theorem dX7_init_329 : decode cX7_init 329 = .ok (.bipush 47, 2) := by decide +kernel
theorem dX7_init_331 : decode cX7_init 331 = .ok (.iconst 0, 1) := by decide +kernel
theorem dX7_init_332 : decode cX7_init 332 = .ok (.castore, 1) := by decide +kernel
theorem dX7_init_333 : decode cX7_init 333 = .ok (.dup, 1) := by decide +kernel
theorem dX7_init_334 : decode cX7_init 334 = .ok (.bipush 48, 2) := by decide +kernel
theorem dX7_init_336 : decode cX7_init 336 = .ok (.bipush 102, 2) := by decide +kernel
theorem dX7_init_338 : decode cX7_init 338 = .ok (.castore, 1) := by decide +kernel
theorem dX7_init_339 : decode cX7_init 339 = .ok (.dup, 1) := by decide +kernel
theorem dX7_init_340 : decode cX7_init 340 = .ok (.bipush 49, 2) := by decide +kernel
theorem dX7_init_342 : decode cX7_init 342 = .ok (.bipush 97, 2) := by decide +kernel
theorem dX7_init_344 : decode cX7_init 344 = .ok (.castore, 1) := by decide +kernel
theorem dX7_init_345 : decode cX7_init 345 = .ok (.dup, 1) := by decide +kernel
theorem dX7_init_346 : decode cX7_init 346 = .ok (.bipush 50, 2) := by decide +kernel
theorem dX7_init_348 : decode cX7_init 348 = .ok (.bipush 114, 2) := by decide +kernel
theorem dX7_init_350 : decode cX7_init 350 = .ok (.castore, 1) := by decide +kernel
theorem dX7_init_351 : decode cX7_init 351 = .ok (.dup, 1) := by decide +kernel
theorem dX7_init_352 : decode cX7_init 352 = .ok (.bipush 51, 2) := by decide +kernel
theorem dX7_init_354 : decode cX7_init 354 = .ok (.iconst 0, 1) := by decide +kernel
theorem dX7_init_355 : decode cX7_init 355 = .ok (.castore, 1) := by decide +kernel
theorem dX7_init_356 : decode cX7_init 356 = .ok (.dup, 1) := by decide +kernel
theorem dX7_init_357 : decode cX7_init 357 = .ok (.bipush 52, 2) := by decide +kernel
theorem dX7_init_359 : decode cX7_init 359 = .ok (.iconst 0, 1) := by decide +kernel
theorem dX7_init_360 : decode cX7_init 360 = .ok (.castore, 1) := by decide +kernel
theorem dX7_init_361 : decode cX7_init 361 = .ok (.dup, 1) := by decide +kernel
theorem dX7_init_362 : decode cX7_init 362 = .ok (.bipush 53, 2) := by decide +kernel
theorem dX7_init_364 : decode cX7_init 364 = .ok (.iconst 0, 1) := by decide +kernel
theorem dX7_init_365 : decode cX7_init 365 = .ok (.castore, 1) := by decide +kernel
theorem dX7_init_366 : decode cX7_init 366 = .ok (.dup, 1) := by decide +kernel
theorem dX7_init_367 : decode cX7_init 367 = .ok (.bipush 54, 2) := by decide +kernel
theorem dX7_init_369 : decode cX7_init 369 = .ok (.bipush 111, 2) := by decide +kernel
theorem dX7_init_371 : decode cX7_init 371 = .ok (.castore, 1) := by decide +kernel
theorem dX7_init_372 : decode cX7_init 372 = .ok (.dup, 1) := by decide +kernel
theorem dX7_init_373 : decode cX7_init 373 = .ok (.bipush 55, 2) := by decide +kernel
theorem dX7_init_375 : decode cX7_init 375 = .ok (.bipush 114, 2) := by decide +kernel
theorem dX7_init_377 : decode cX7_init 377 = .ok (.castore, 1) := by decide +kernel
theorem dX7_init_378 : decode cX7_init 378 = .ok (.dup, 1) := by decide +kernel
theorem dX7_init_379 : decode cX7_init 379 = .ok (.bipush 56, 2) := by decide +kernel
theorem dX7_init_381 : decode cX7_init 381 = .ok (.iconst 0, 1) := by decide +kernel
theorem dX7_init_382 : decode cX7_init 382 = .ok (.castore, 1) := by decide +kernel
theorem dX7_init_383 : decode cX7_init 383 = .ok (.dup, 1) := by decide +kernel
theorem dX7_init_384 : decode cX7_init 384 = .ok (.bipush 57, 2) := by decide +kernel
theorem dX7_init_386 : decode cX7_init 386 = .ok (.iconst 0, 1) := by decide +kernel
theorem dX7_init_387 : decode cX7_init 387 = .ok (.castore, 1) := by decide +kernel
theorem dX7_init_388 : decode cX7_init 388 = .ok (.dup, 1) := by decide +kernel
theorem dX7_init_389 : decode cX7_init 389 = .ok (.bipush 58, 2) := by decide +kernel
theorem dX7_init_391 : decode cX7_init 391 = .ok (.iconst 0, 1) := by decide +kernel
theorem dX7_init_392 : decode cX7_init 392 = .ok (.castore, 1) := by decide +kernel
theorem dX7_init_393 : decode cX7_init 393 = .ok (.dup, 1) := by decide +kernel
theorem dX7_init_394 : decode cX7_init 394 = .ok (.bipush 59, 2) := by decide +kernel
theorem dX7_init_396 : decode cX7_init 396 = .ok (.iconst 0, 1) := by decide +kernel
theorem dX7_init_397 : decode cX7_init 397 = .ok (.castore, 1) := by decide +kernel
theorem dX7_init_398 : decode cX7_init 398 = .ok (.dup, 1) := by decide +kernel
theorem dX7_init_399 : decode cX7_init 399 = .ok (.bipush 60, 2) := by decide +kernel
theorem dX7_init_401 : decode cX7_init 401 = .ok (.bipush 97, 2) := by decide +kernel
theorem dX7_init_403 : decode cX7_init 403 = .ok (.castore, 1) := by decide +kernel
theorem dX7_init_404 : decode cX7_init 404 = .ok (.dup, 1) := by decide +kernel
theorem dX7_init_405 : decode cX7_init 405 = .ok (.bipush 61, 2) := by decide +kernel
theorem dX7_init_407 : decode cX7_init 407 = .ok (.bipush 110, 2) := by decide +kernel
theorem dX7_init_409 : decode cX7_init 409 = .ok (.castore, 1) := by decide +kernel
theorem dX7_init_410 : decode cX7_init 410 = .ok (.dup, 1) := by decide +kernel
theorem dX7_init_411 : decode cX7_init 411 = .ok (.bipush 62, 2) := by decide +kernel
theorem dX7_init_413 : decode cX7_init 413 = .ok (.bipush 100, 2) := by decide +kernel
theorem dX7_init_415 : decode cX7_init 415 = .ok (.castore, 1) := by decide +kernel
theorem dX7_init_416 : decode cX7_init 416 = .ok (.dup, 1) := by decide +kernel
theorem dX7_init_417 : decode cX7_init 417 = .ok (.bipush 63, 2) := by decide +kernel
theorem dX7_init_419 : decode cX7_init 419 = .ok (.iconst 0, 1) := by decide +kernel
theorem dX7_init_420 : decode cX7_init 420 = .ok (.castore, 1) := by decide +kernel
theorem dX7_init_421 : decode cX7_init 421 = .ok (.dup, 1) := by decide +kernel
theorem dX7_init_422 : decode cX7_init 422 = .ok (.bipush 64, 2) := by decide +kernel
theorem dX7_init_424 : decode cX7_init 424 = .ok (.iconst 0, 1) := by decide +kernel
theorem dX7_init_425 : decode cX7_init 425 = .ok (.castore, 1) := by decide +kernel
theorem dX7_init_426 : decode cX7_init 426 = .ok (.dup, 1) := by decide +kernel
theorem dX7_init_427 : decode cX7_init 427 = .ok (.bipush 65, 2) := by decide +kernel
theorem dX7_init_429 : decode cX7_init 429 = .ok (.iconst 0, 1) := by decide +kernel
theorem dX7_init_430 : decode cX7_init 430 = .ok (.castore, 1) := by decide +kernel
theorem dX7_init_431 : decode cX7_init 431 = .ok (.dup, 1) := by decide +kernel
theorem dX7_init_432 : decode cX7_init 432 = .ok (.bipush 66, 2) := by decide +kernel
theorem dX7_init_434 : decode cX7_init 434 = .ok (.bipush 110, 2) := by decide +kernel
theorem dX7_init_436 : decode cX7_init 436 = .ok (.castore, 1) := by decide +kernel
theorem dX7_init_437 : decode cX7_init 437 = .ok (.dup, 1) := by decide +kernel
theorem dX7_init_438 : decode cX7_init 438 = .ok (.bipush 67, 2) := by decide +kernel
theorem dX7_init_440 : decode cX7_init 440 = .ok (.bipush 111, 2) := by decide +kernel
theorem dX7_init_442 : decode cX7_init 442 = .ok (.castore, 1) := by decide +kernel
theorem dX7_init_443 : decode cX7_init 443 = .ok (.dup, 1) := by decide +kernel
theorem dX7_init_444 : decode cX7_init 444 = .ok (.bipush 68, 2) := by decide +kernel
theorem dX7_init_446 : decode cX7_init 446 = .ok (.bipush 116, 2) := by decide +kernel
theorem dX7_init_448 : decode cX7_init 448 = .ok (.castore, 1) := by decide +kernel
theorem dX7_init_449 : decode cX7_init 449 = .ok (.dup, 1) := by decide +kernel
theorem dX7_init_450 : decode cX7_init 450 = .ok (.bipush 69, 2) := by decide +kernel
theorem dX7_init_452 : decode cX7_init 452 = .ok (.iconst 0, 1) := by decide +kernel
theorem dX7_init_453 : decode cX7_init 453 = .ok (.castore, 1) := by decide +kernel
theorem dX7_init_454 : decode cX7_init 454 = .ok (.dup, 1) := by decide +kernel
theorem dX7_init_455 : decode cX7_init 455 = .ok (.bipush 70, 2) := by decide +kernel
theorem dX7_init_457 : decode cX7_init 457 = .ok (.iconst 0, 1) := by decide +kernel
theorem dX7_init_458 : decode cX7_init 458 = .ok (.castore, 1) := by decide +kernel
theorem dX7_init_459 : decode cX7_init 459 = .ok (.dup, 1) := by decide +kernel
theorem dX7_init_460 : decode cX7_init 460 = .ok (.bipush 71, 2) := by decide +kernel
theorem dX7_init_462 : decode cX7_init 462 = .ok (.iconst 0, 1) := by decide +kernel
theorem dX7_init_463 : decode cX7_init 463 = .ok (.castore, 1) := by decide +kernel
theorem dX7_init_464 : decode cX7_init 464 = .ok (.putfield 33, 3) := by decide +kernel
theorem dX7_init_467 : decode cX7_init 467 = .ok (.aload_n 0, 1) := by decide +kernel
theorem dX7_init_468 : decode cX7_init 468 = .ok (.sipush 160, 3) := by decide +kernel
theorem dX7_init_471 : decode cX7_init 471 = .ok (.newarray .int, 2) := by decide +kernel
theorem dX7_init_473 : decode cX7_init 473 = .ok (.putfield 37, 3) := by decide +kernel
theorem dX7_init_476 : decode cX7_init 476 = .ok (.aload_n 0, 1) := by decide +kernel
theorem dX7_init_477 : decode cX7_init 477 = .ok (.sipush 160, 3) := by decide +kernel
theorem dX7_init_480 : decode cX7_init 480 = .ok (.newarray .int, 2) := by decide +kernel
theorem dX7_init_482 : decode cX7_init 482 = .ok (.putfield 40, 3) := by decide +kernel
theorem dX7_init_485 : decode cX7_init 485 = .ok (.aload_n 0, 1) := by decide +kernel
theorem dX7_init_486 : decode cX7_init 486 = .ok (.sipush 600, 3) := by decide +kernel
theorem dX7_init_489 : decode cX7_init 489 = .ok (.newarray .int, 2) := by decide +kernel
theorem dX7_init_491 : decode cX7_init 491 = .ok (.putfield 43, 3) := by decide +kernel
theorem dX7_init_494 : decode cX7_init 494 = .ok (.aload_n 0, 1) := by decide +kernel
theorem dX7_init_495 : decode cX7_init 495 = .ok (.bipush 100, 2) := by decide +kernel
theorem dX7_init_497 : decode cX7_init 497 = .ok (.newarray .int, 2) := by decide +kernel
theorem dX7_init_499 : decode cX7_init 499 = .ok (.putfield 46, 3) := by decide +kernel
theorem dX7_init_502 : decode cX7_init 502 = .ok (.aload_n 0, 1) := by decide +kernel
theorem dX7_init_503 : decode cX7_init 503 = .ok (.bipush 100, 2) := by decide +kernel
theorem dX7_init_505 : decode cX7_init 505 = .ok (.newarray .int, 2) := by decide +kernel
theorem dX7_init_507 : decode cX7_init 507 = .ok (.putfield 49, 3) := by decide +kernel
theorem dX7_init_510 : decode cX7_init 510 = .ok (.aload_n 0, 1) := by decide +kernel
theorem dX7_init_511 : decode cX7_init 511 = .ok (.bipush 100, 2) := by decide +kernel
theorem dX7_init_513 : decode cX7_init 513 = .ok (.newarray .boolean, 2) := by decide +kernel
theorem dX7_init_515 : decode cX7_init 515 = .ok (.putfield 52, 3) := by decide +kernel
theorem dX7_init_518 : decode cX7_init 518 = .ok (.aload_n 0, 1) := by decide +kernel
theorem dX7_init_519 : decode cX7_init 519 = .ok (.bipush 100, 2) := by decide +kernel
theorem dX7_init_521 : decode cX7_init 521 = .ok (.newarray .long, 2) := by decide +kernel
theorem dX7_init_523 : decode cX7_init 523 = .ok (.putfield 56, 3) := by decide +kernel
theorem dX7_init_526 : decode cX7_init 526 = .ok (.aload_n 0, 1) := by decide +kernel
theorem dX7_init_527 : decode cX7_init 527 = .ok (.bipush 100, 2) := by decide +kernel
theorem dX7_init_529 : decode cX7_init 529 = .ok (.newarray .long, 2) := by decide +kernel
theorem dX7_init_531 : decode cX7_init 531 = .ok (.putfield 60, 3) := by decide +kernel
theorem dX7_init_534 : decode cX7_init 534 = .ok (.aload_n 0, 1) := by decide +kernel
theorem dX7_init_535 : decode cX7_init 535 = .ok (.iconst 4, 1) := by decide +kernel
theorem dX7_init_536 : decode cX7_init 536 = .ok (.newarray .int, 2) := by decide +kernel
theorem dX7_init_538 : decode cX7_init 538 = .ok (.dup, 1) := by decide +kernel
theorem dX7_init_539 : decode cX7_init 539 = .ok (.iconst 0, 1) := by decide +kernel
theorem dX7_init_540 : decode cX7_init 540 = .ok (.iconst (-1), 1) := by decide +kernel
theorem dX7_init_541 : decode cX7_init 541 = .ok (.iastore, 1) := by decide +kernel
theorem dX7_init_542 : decode cX7_init 542 = .ok (.dup, 1) := by decide +kernel
theorem dX7_init_543 : decode cX7_init 543 = .ok (.iconst 1, 1) := by decide +kernel
theorem dX7_init_544 : decode cX7_init 544 = .ok (.iconst (-1), 1) := by decide +kernel
theorem dX7_init_545 : decode cX7_init 545 = .ok (.iastore, 1) := by decide +kernel
theorem dX7_init_546 : decode cX7_init 546 = .ok (.dup, 1) := by decide +kernel
theorem dX7_init_547 : decode cX7_init 547 = .ok (.iconst 2, 1) := by decide +kernel
theorem dX7_init_548 : decode cX7_init 548 = .ok (.iconst (-1), 1) := by decide +kernel
theorem dX7_init_549 : decode cX7_init 549 = .ok (.iastore, 1) := by decide +kernel
theorem dX7_init_550 : decode cX7_init 550 = .ok (.dup, 1) := by decide +kernel
theorem dX7_init_551 : decode cX7_init 551 = .ok (.iconst 3, 1) := by decide +kernel
theorem dX7_init_552 : decode cX7_init 552 = .ok (.iconst (-1), 1) := by decide +kernel
theorem dX7_init_553 : decode cX7_init 553 = .ok (.iastore, 1) := by decide +kernel
theorem dX7_init_554 : decode cX7_init 554 = .ok (.putfield 63, 3) := by decide +kernel
theorem dX7_init_557 : decode cX7_init 557 = .ok (.aload_n 0, 1) := by decide +kernel
theorem dX7_init_558 : decode cX7_init 558 = .ok (.iconst 4, 1) := by decide +kernel
theorem dX7_init_559 : decode cX7_init 559 = .ok (.newarray .int, 2) := by decide +kernel
theorem dX7_init_561 : decode cX7_init 561 = .ok (.putfield 66, 3) := by decide +kernel
theorem dX7_init_564 : decode cX7_init 564 = .ok (.aload_n 0, 1) := by decide +kernel
theorem dX7_init_565 : decode cX7_init 565 = .ok (.sipush 160, 3) := by decide +kernel
theorem dX7_init_568 : decode cX7_init 568 = .ok (.newarray .int, 2) := by decide +kernel
theorem dX7_init_570 : decode cX7_init 570 = .ok (.putfield 69, 3) := by decide +kernel
theorem dX7_init_573 : decode cX7_init 573 = .ok (.aload_n 0, 1) := by decide +kernel
theorem dX7_init_574 : decode cX7_init 574 = .ok (.bipush 40, 2) := by decide +kernel
theorem dX7_init_576 : decode cX7_init 576 = .ok (.newarray .int, 2) := by decide +kernel
theorem dX7_init_578 : decode cX7_init 578 = .ok (.putfield 72, 3) := by decide +kernel
theorem dX7_init_581 : decode cX7_init 581 = .ok (.aload_n 0, 1) := by decide +kernel
theorem dX7_init_582 : decode cX7_init 582 = .ok (.bipush 6, 2) := by decide +kernel
theorem dX7_init_584 : decode cX7_init 584 = .ok (.newarray .int, 2) := by decide +kernel
theorem dX7_init_586 : decode cX7_init 586 = .ok (.dup, 1) := by decide +kernel
theorem dX7_init_587 : decode cX7_init 587 = .ok (.iconst 0, 1) := by decide +kernel
theorem dX7_init_588 : decode cX7_init 588 = .ok (.iconst (-1), 1) := by decide +kernel
theorem dX7_init_589 : decode cX7_init 589 = .ok (.iastore, 1) := by decide +kernel
theorem dX7_init_590 : decode cX7_init 590 = .ok (.dup, 1) := by decide +kernel
theorem dX7_init_591 : decode cX7_init 591 = .ok (.iconst 1, 1) := by decide +kernel
theorem dX7_init_592 : decode cX7_init 592 = .ok (.iconst 0, 1) := by decide +kernel
theorem dX7_init_593 : decode cX7_init 593 = .ok (.iastore, 1) := by decide +kernel
theorem dX7_init_594 : decode cX7_init 594 = .ok (.dup, 1) := by decide +kernel
theorem dX7_init_595 : decode cX7_init 595 = .ok (.iconst 2, 1) := by decide +kernel
theorem dX7_init_596 : decode cX7_init 596 = .ok (.iconst 0, 1) := by decide +kernel
theorem dX7_init_597 : decode cX7_init 597 = .ok (.iastore, 1) := by decide +kernel
theorem dX7_init_598 : decode cX7_init 598 = .ok (.dup, 1) := by decide +kernel
theorem dX7_init_599 : decode cX7_init 599 = .ok (.iconst 3, 1) := by decide +kernel
theorem dX7_init_600 : decode cX7_init 600 = .ok (.iconst 1, 1) := by decide +kernel
theorem dX7_init_601 : decode cX7_init 601 = .ok (.iastore, 1) := by decide +kernel
theorem dX7_init_602 : decode cX7_init 602 = .ok (.dup, 1) := by decide +kernel
theorem dX7_init_603 : decode cX7_init 603 = .ok (.iconst 4, 1) := by decide +kernel
theorem dX7_init_604 : decode cX7_init 604 = .ok (.iconst 2, 1) := by decide +kernel
theorem dX7_init_605 : decode cX7_init 605 = .ok (.iastore, 1) := by decide +kernel
theorem dX7_init_606 : decode cX7_init 606 = .ok (.dup, 1) := by decide +kernel
theorem dX7_init_607 : decode cX7_init 607 = .ok (.iconst 5, 1) := by decide +kernel
theorem dX7_init_608 : decode cX7_init 608 = .ok (.iconst 0, 1) := by decide +kernel
theorem dX7_init_609 : decode cX7_init 609 = .ok (.iastore, 1) := by decide +kernel
theorem dX7_init_610 : decode cX7_init 610 = .ok (.putfield 75, 3) := by decide +kernel
theorem dX7_init_613 : decode cX7_init 613 = .ok (.return_, 1) := by decide +kernel
theorem dX7_isIn_0 : decode cX7_isIn 0 = .ok (.iload_n 0, 1) := by decide +kernel
theorem dX7_isIn_1 : decode cX7_isIn 1 = .ok (.iload_n 1, 1) := by decide +kernel
theorem dX7_isIn_2 : decode cX7_isIn 2 = .ok (.if_icmp .lt 12, 3) := by decide +kernel
theorem dX7_isIn_5 : decode cX7_isIn 5 = .ok (.iload_n 0, 1) := by decide +kernel
theorem dX7_isIn_6 : decode cX7_isIn 6 = .ok (.iload_n 2, 1) := by decide +kernel
theorem dX7_isIn_7 : decode cX7_isIn 7 = .ok (.if_icmp .gt 7, 3) := by decide +kernel
theorem dX7_isIn_10 : decode cX7_isIn 10 = .ok (.iconst 1, 1) := by decide +kernel
theorem dX7_isIn_11 : decode cX7_isIn 11 = .ok (.goto 4, 3) := by decide +kernel
theorem dX7_isIn_14 : decode cX7_isIn 14 = .ok (.iconst 0, 1) := by decide +kernel
theorem dX7_isIn_15 : decode cX7_isIn 15 = .ok (.ireturn, 1) := by decide +kernel
theorem dX7_bound_0 : decode cX7_bound 0 = .ok (.iload_n 0, 1) := by decide +kernel
theorem dX7_bound_1 : decode cX7_bound 1 = .ok (.iload_n 1, 1) := by decide +kernel
theorem dX7_bound_2 : decode cX7_bound 2 = .ok (.if_icmp .ge 7, 3) := by decide +kernel
theorem dX7_bound_5 : decode cX7_bound 5 = .ok (.iload_n 1, 1) := by decide +kernel
theorem dX7_bound_6 : decode cX7_bound 6 = .ok (.goto 13, 3) := by decide +kernel
theorem dX7_bound_9 : decode cX7_bound 9 = .ok (.iload_n 0, 1) := by decide +kernel
theorem dX7_bound_10 : decode cX7_bound 10 = .ok (.iload_n 2, 1) := by decide +kernel
theorem dX7_bound_11 : decode cX7_bound 11 = .ok (.if_icmp .le 7, 3) := by decide +kernel
theorem dX7_bound_14 : decode cX7_bound 14 = .ok (.iload_n 2, 1) := by decide +kernel
theorem dX7_bound_15 : decode cX7_bound 15 = .ok (.goto 4, 3) := by decide +kernel
theorem dX7_bound_18 : decode cX7_bound 18 = .ok (.iload_n 0, 1) := by decide +kernel
theorem dX7_bound_19 : decode cX7_bound 19 = .ok (.ireturn, 1) := by decide +kernel
theorem dX7_many_0 : decode cX7_many 0 = .ok (.aload_n 0, 1) := by decide +kernel
theorem dX7_many_1 : decode cX7_many 1 = .ok (.getfield 7, 3) := by decide +kernel
theorem dX7_many_4 : decode cX7_many 4 = .ok (.bipush 60, 2) := by decide +kernel
theorem dX7_many_6 : decode cX7_many 6 = .ok (.iaload, 1) := by decide +kernel
theorem dX7_many_7 : decode cX7_many 7 = .ok (.ireturn, 1) := by decide +kernel
theorem dX7_isPair_0 : decode cX7_isPair 0 = .ok (.iload_n 1, 1) := by decide +kernel
theorem dX7_isPair_1 : decode cX7_isPair 1 = .ok (.iconst 0, 1) := by decide +kernel
theorem dX7_isPair_2 : decode cX7_isPair 2 = .ok (.aload_n 0, 1) := by decide +kernel
theorem dX7_isPair_3 : decode cX7_isPair 3 = .ok (.getfield 7, 3) := by decide +kernel
theorem dX7_isPair_6 : decode cX7_isPair 6 = .ok (.bipush 60, 2) := by decide +kernel
theorem dX7_isPair_8 : decode cX7_isPair 8 = .ok (.iaload, 1) := by decide +kernel
theorem dX7_isPair_9 : decode cX7_isPair 9 = .ok (.iconst 1, 1) := by decide +kernel
theorem dX7_isPair_10 : decode cX7_isPair 10 = .ok (.isub, 1) := by decide +kernel
theorem dX7_isPair_11 : decode cX7_isPair 11 = .ok (.invokestatic 78, 3) := by decide +kernel
theorem dX7_isPair_14 : decode cX7_isPair 14 = .ok (.ireturn, 1) := by decide +kernel
theorem dX7_kind_0 : decode cX7_kind 0 = .ok (.aload_n 0, 1) := by decide +kernel
theorem dX7_kind_1 : decode cX7_kind 1 = .ok (.getfield 7, 3) := by decide +kernel
theorem dX7_kind_4 : decode cX7_kind 4 = .ok (.bipush 40, 2) := by decide +kernel
theorem dX7_kind_6 : decode cX7_kind 6 = .ok (.iconst 4, 1) := by decide +kernel
theorem dX7_kind_7 : decode cX7_kind 7 = .ok (.iload_n 1, 1) := by decide +kernel
theorem dX7_kind_8 : decode cX7_kind 8 = .ok (.imul, 1) := by decide +kernel
theorem dX7_kind_9 : decode cX7_kind 9 = .ok (.iadd, 1) := by decide +kernel
theorem dX7_kind_10 : decode cX7_kind 10 = .ok (.iaload, 1) := by decide +kernel
theorem dX7_kind_11 : decode cX7_kind 11 = .ok (.ireturn, 1) := by decide +kernel
theorem dX7_number_0 : decode cX7_number 0 = .ok (.aload_n 0, 1) := by decide +kernel
theorem dX7_number_1 : decode cX7_number 1 = .ok (.getfield 7, 3) := by decide +kernel
theorem dX7_number_4 : decode cX7_number 4 = .ok (.bipush 40, 2) := by decide +kernel
theorem dX7_number_6 : decode cX7_number 6 = .ok (.iconst 4, 1) := by decide +kernel
theorem dX7_number_7 : decode cX7_number 7 = .ok (.iload_n 1, 1) := by decide +kernel
theorem dX7_number_8 : decode cX7_number 8 = .ok (.imul, 1) := by decide +kernel
theorem dX7_number_9 : decode cX7_number 9 = .ok (.iadd, 1) := by decide +kernel
theorem dX7_number_10 : decode cX7_number 10 = .ok (.iconst 1, 1) := by decide +kernel
theorem dX7_number_11 : decode cX7_number 11 = .ok (.iadd, 1) := by decide +kernel
theorem dX7_number_12 : decode cX7_number 12 = .ok (.iaload, 1) := by decide +kernel
theorem dX7_number_13 : decode cX7_number 13 = .ok (.ireturn, 1) := by decide +kernel
theorem dX7_anger_0 : decode cX7_anger 0 = .ok (.aload_n 0, 1) := by decide +kernel
theorem dX7_anger_1 : decode cX7_anger 1 = .ok (.getfield 7, 3) := by decide +kernel
theorem dX7_anger_4 : decode cX7_anger 4 = .ok (.bipush 40, 2) := by decide +kernel
theorem dX7_anger_6 : decode cX7_anger 6 = .ok (.iconst 4, 1) := by decide +kernel
theorem dX7_anger_7 : decode cX7_anger 7 = .ok (.iload_n 1, 1) := by decide +kernel
theorem dX7_anger_8 : decode cX7_anger 8 = .ok (.imul, 1) := by decide +kernel
theorem dX7_anger_9 : decode cX7_anger 9 = .ok (.iadd, 1) := by decide +kernel
theorem dX7_anger_10 : decode cX7_anger 10 = .ok (.iconst 2, 1) := by decide +kernel
theorem dX7_anger_11 : decode cX7_anger 11 = .ok (.iadd, 1) := by decide +kernel
theorem dX7_anger_12 : decode cX7_anger 12 = .ok (.iaload, 1) := by decide +kernel
theorem dX7_anger_13 : decode cX7_anger 13 = .ok (.ireturn, 1) := by decide +kernel
theorem dX7_most_0 : decode cX7_most 0 = .ok (.iload_n 0, 1) := by decide +kernel
theorem dX7_most_1 : decode cX7_most 1 = .ok (.ifCond .eq 8, 3) := by decide +kernel
theorem dX7_most_4 : decode cX7_most 4 = .ok (.iload_n 0, 1) := by decide +kernel
theorem dX7_most_5 : decode cX7_most 5 = .ok (.iconst 3, 1) := by decide +kernel
theorem dX7_most_6 : decode cX7_most 6 = .ok (.if_icmp .ne 8, 3) := by decide +kernel
theorem dX7_most_9 : decode cX7_most 9 = .ok (.bipush 99, 2) := by decide +kernel
theorem dX7_most_11 : decode cX7_most 11 = .ok (.goto 15, 3) := by decide +kernel
theorem dX7_most_14 : decode cX7_most 14 = .ok (.iload_n 0, 1) := by decide +kernel
theorem dX7_most_15 : decode cX7_most 15 = .ok (.iconst 1, 1) := by decide +kernel
theorem dX7_most_16 : decode cX7_most 16 = .ok (.if_icmp .ne 8, 3) := by decide +kernel
theorem dX7_most_19 : decode cX7_most 19 = .ok (.bipush 7, 2) := by decide +kernel
theorem dX7_most_21 : decode cX7_most 21 = .ok (.goto 5, 3) := by decide +kernel
theorem dX7_most_24 : decode cX7_most 24 = .ok (.bipush 9, 2) := by decide +kernel
theorem dX7_most_26 : decode cX7_most 26 = .ok (.ireturn, 1) := by decide +kernel
theorem dX7_place_0 : decode cX7_place 0 = .ok (.iload_n 1, 1) := by decide +kernel
theorem dX7_place_1 : decode cX7_place 1 = .ok (.ifCond .ne 6, 3) := by decide +kernel
theorem dX7_place_4 : decode cX7_place 4 = .ok (.bipush 61, 2) := by decide +kernel
theorem dX7_place_6 : decode cX7_place 6 = .ok (.ireturn, 1) := by decide +kernel
theorem dX7_place_7 : decode cX7_place 7 = .ok (.iload_n 1, 1) := by decide +kernel
theorem dX7_place_8 : decode cX7_place 8 = .ok (.iconst 1, 1) := by decide +kernel
theorem dX7_place_9 : decode cX7_place 9 = .ok (.if_icmp .ne 19, 3) := by decide +kernel
theorem dX7_place_12 : decode cX7_place 12 = .ok (.iload_n 2, 1) := by decide +kernel
theorem dX7_place_13 : decode cX7_place 13 = .ok (.iconst 0, 1) := by decide +kernel
theorem dX7_place_14 : decode cX7_place 14 = .ok (.bipush 39, 2) := by decide +kernel
theorem dX7_place_16 : decode cX7_place 16 = .ok (.invokestatic 78, 3) := by decide +kernel
theorem dX7_place_19 : decode cX7_place 19 = .ok (.ifCond .eq 7, 3) := by decide +kernel
theorem dX7_place_22 : decode cX7_place 22 = .ok (.iload_n 2, 1) := by decide +kernel
theorem dX7_place_23 : decode cX7_place 23 = .ok (.goto 4, 3) := by decide +kernel
theorem dX7_place_26 : decode cX7_place 26 = .ok (.iconst (-1), 1) := by decide +kernel
theorem dX7_place_27 : decode cX7_place 27 = .ok (.ireturn, 1) := by decide +kernel
theorem dX7_place_28 : decode cX7_place 28 = .ok (.aload_n 0, 1) := by decide +kernel
theorem dX7_place_29 : decode cX7_place 29 = .ok (.iload_n 2, 1) := by decide +kernel
theorem dX7_place_30 : decode cX7_place 30 = .ok (.invokevirtual 82, 3) := by decide +kernel
theorem dX7_place_33 : decode cX7_place 33 = .ok (.ifCond .eq 16, 3) := by decide +kernel
theorem dX7_place_36 : decode cX7_place 36 = .ok (.bipush 40, 2) := by decide +kernel
theorem dX7_place_38 : decode cX7_place 38 = .ok (.iconst 4, 1) := by decide +kernel
theorem dX7_place_39 : decode cX7_place 39 = .ok (.iload_n 2, 1) := by decide +kernel
theorem dX7_place_40 : decode cX7_place 40 = .ok (.imul, 1) := by decide +kernel
theorem dX7_place_41 : decode cX7_place 41 = .ok (.iadd, 1) := by decide +kernel
theorem dX7_place_42 : decode cX7_place 42 = .ok (.iload_n 1, 1) := by decide +kernel
theorem dX7_place_43 : decode cX7_place 43 = .ok (.iadd, 1) := by decide +kernel
theorem dX7_place_44 : decode cX7_place 44 = .ok (.iconst 1, 1) := by decide +kernel
theorem dX7_place_45 : decode cX7_place 45 = .ok (.isub, 1) := by decide +kernel
theorem dX7_place_46 : decode cX7_place 46 = .ok (.goto 4, 3) := by decide +kernel
theorem dX7_place_49 : decode cX7_place 49 = .ok (.iconst (-1), 1) := by decide +kernel
theorem dX7_place_50 : decode cX7_place 50 = .ok (.ireturn, 1) := by decide +kernel
theorem dX7_set_0 : decode cX7_set 0 = .ok (.iload_n 1, 1) := by decide +kernel
theorem dX7_set_1 : decode cX7_set 1 = .ok (.iconst 0, 1) := by decide +kernel
theorem dX7_set_2 : decode cX7_set 2 = .ok (.iconst 3, 1) := by decide +kernel
theorem dX7_set_3 : decode cX7_set 3 = .ok (.invokestatic 78, 3) := by decide +kernel
theorem dX7_set_6 : decode cX7_set 6 = .ok (.ifCond .eq 25, 3) := by decide +kernel
theorem dX7_set_9 : decode cX7_set 9 = .ok (.iload_n 3, 1) := by decide +kernel
theorem dX7_set_10 : decode cX7_set 10 = .ok (.iconst 0, 1) := by decide +kernel
theorem dX7_set_11 : decode cX7_set 11 = .ok (.iload_n 1, 1) := by decide +kernel
theorem dX7_set_12 : decode cX7_set 12 = .ok (.invokestatic 86, 3) := by decide +kernel
theorem dX7_set_15 : decode cX7_set 15 = .ok (.invokestatic 78, 3) := by decide +kernel
theorem dX7_set_18 : decode cX7_set 18 = .ok (.ifCond .eq 13, 3) := by decide +kernel
theorem dX7_set_21 : decode cX7_set 21 = .ok (.aload_n 0, 1) := by decide +kernel
theorem dX7_set_22 : decode cX7_set 22 = .ok (.iload_n 1, 1) := by decide +kernel
theorem dX7_set_23 : decode cX7_set 23 = .ok (.iload_n 2, 1) := by decide +kernel
theorem dX7_set_24 : decode cX7_set 24 = .ok (.invokevirtual 90, 3) := by decide +kernel
theorem dX7_set_27 : decode cX7_set 27 = .ok (.iconst (-1), 1) := by decide +kernel
theorem dX7_set_28 : decode cX7_set 28 = .ok (.if_icmp .ne 6, 3) := by decide +kernel
theorem dX7_set_31 : decode cX7_set 31 = .ok (.bipush (-2), 2) := by decide +kernel
theorem dX7_set_33 : decode cX7_set 33 = .ok (.ireturn, 1) := by decide +kernel
theorem dX7_set_34 : decode cX7_set 34 = .ok (.aload_n 0, 1) := by decide +kernel
theorem dX7_set_35 : decode cX7_set 35 = .ok (.getfield 7, 3) := by decide +kernel
theorem dX7_set_38 : decode cX7_set 38 = .ok (.aload_n 0, 1) := by decide +kernel
theorem dX7_set_39 : decode cX7_set 39 = .ok (.iload_n 1, 1) := by decide +kernel
theorem dX7_set_40 : decode cX7_set 40 = .ok (.iload_n 2, 1) := by decide +kernel
theorem dX7_set_41 : decode cX7_set 41 = .ok (.invokevirtual 90, 3) := by decide +kernel
theorem dX7_set_44 : decode cX7_set 44 = .ok (.iaload, 1) := by decide +kernel
theorem dX7_set_45 : decode cX7_set 45 = .ok (.istore 4, 2) := by decide +kernel
theorem dX7_set_47 : decode cX7_set 47 = .ok (.aload_n 0, 1) := by decide +kernel
theorem dX7_set_48 : decode cX7_set 48 = .ok (.getfield 7, 3) := by decide +kernel
theorem dX7_set_51 : decode cX7_set 51 = .ok (.aload_n 0, 1) := by decide +kernel
theorem dX7_set_52 : decode cX7_set 52 = .ok (.iload_n 1, 1) := by decide +kernel
theorem dX7_set_53 : decode cX7_set 53 = .ok (.iload_n 2, 1) := by decide +kernel
theorem dX7_set_54 : decode cX7_set 54 = .ok (.invokevirtual 90, 3) := by decide +kernel
theorem dX7_set_57 : decode cX7_set 57 = .ok (.iload_n 3, 1) := by decide +kernel
theorem dX7_set_58 : decode cX7_set 58 = .ok (.iastore, 1) := by decide +kernel
theorem dX7_set_59 : decode cX7_set 59 = .ok (.iload 4, 2) := by decide +kernel
theorem dX7_set_61 : decode cX7_set 61 = .ok (.ireturn, 1) := by decide +kernel
theorem dX7_pair_0 : decode cX7_pair 0 = .ok (.iload_n 1, 1) := by decide +kernel
theorem dX7_pair_1 : decode cX7_pair 1 = .ok (.iconst 0, 1) := by decide +kernel
theorem dX7_pair_2 : decode cX7_pair 2 = .ok (.iconst 5, 1) := by decide +kernel
theorem dX7_pair_3 : decode cX7_pair 3 = .ok (.invokestatic 78, 3) := by decide +kernel
theorem dX7_pair_6 : decode cX7_pair 6 = .ok (.ifCond .eq 23, 3) := by decide +kernel
theorem dX7_pair_9 : decode cX7_pair 9 = .ok (.iload_n 2, 1) := by decide +kernel
theorem dX7_pair_10 : decode cX7_pair 10 = .ok (.iconst 0, 1) := by decide +kernel
theorem dX7_pair_11 : decode cX7_pair 11 = .ok (.bipush 9, 2) := by decide +kernel
theorem dX7_pair_13 : decode cX7_pair 13 = .ok (.invokestatic 78, 3) := by decide +kernel
theorem dX7_pair_16 : decode cX7_pair 16 = .ok (.ifCond .eq 13, 3) := by decide +kernel
theorem dX7_pair_19 : decode cX7_pair 19 = .ok (.iload_n 3, 1) := by decide +kernel
theorem dX7_pair_20 : decode cX7_pair 20 = .ok (.iconst 0, 1) := by decide +kernel
theorem dX7_pair_21 : decode cX7_pair 21 = .ok (.bipush 99, 2) := by decide +kernel
theorem dX7_pair_23 : decode cX7_pair 23 = .ok (.invokestatic 78, 3) := by decide +kernel
theorem dX7_pair_26 : decode cX7_pair 26 = .ok (.ifCond .ne 6, 3) := by decide +kernel
theorem dX7_pair_29 : decode cX7_pair 29 = .ok (.bipush (-2), 2) := by decide +kernel
theorem dX7_pair_31 : decode cX7_pair 31 = .ok (.ireturn, 1) := by decide +kernel
theorem dX7_pair_32 : decode cX7_pair 32 = .ok (.aload_n 0, 1) := by decide +kernel
theorem dX7_pair_33 : decode cX7_pair 33 = .ok (.invokevirtual 94, 3) := by decide +kernel
theorem dX7_pair_36 : decode cX7_pair 36 = .ok (.iconst 5, 1) := by decide +kernel
theorem dX7_pair_37 : decode cX7_pair 37 = .ok (.if_icmp .ne 6, 3) := by decide +kernel
theorem dX7_pair_40 : decode cX7_pair 40 = .ok (.bipush (-4), 2) := by decide +kernel
theorem dX7_pair_42 : decode cX7_pair 42 = .ok (.ireturn, 1) := by decide +kernel
theorem dX7_pair_43 : decode cX7_pair 43 = .ok (.aload_n 0, 1) := by decide +kernel
theorem dX7_pair_44 : decode cX7_pair 44 = .ok (.invokevirtual 94, 3) := by decide +kernel
theorem dX7_pair_47 : decode cX7_pair 47 = .ok (.istore 4, 2) := by decide +kernel
theorem dX7_pair_49 : decode cX7_pair 49 = .ok (.aload_n 0, 1) := by decide +kernel
theorem dX7_pair_50 : decode cX7_pair 50 = .ok (.getfield 7, 3) := by decide +kernel
theorem dX7_pair_53 : decode cX7_pair 53 = .ok (.bipush 40, 2) := by decide +kernel
theorem dX7_pair_55 : decode cX7_pair 55 = .ok (.iconst 4, 1) := by decide +kernel
theorem dX7_pair_56 : decode cX7_pair 56 = .ok (.iload 4, 2) := by decide +kernel
theorem dX7_pair_58 : decode cX7_pair 58 = .ok (.imul, 1) := by decide +kernel
theorem dX7_pair_59 : decode cX7_pair 59 = .ok (.iadd, 1) := by decide +kernel
theorem dX7_pair_60 : decode cX7_pair 60 = .ok (.iload_n 1, 1) := by decide +kernel
theorem dX7_pair_61 : decode cX7_pair 61 = .ok (.iastore, 1) := by decide +kernel
theorem dX7_pair_62 : decode cX7_pair 62 = .ok (.aload_n 0, 1) := by decide +kernel
theorem dX7_pair_63 : decode cX7_pair 63 = .ok (.getfield 7, 3) := by decide +kernel
theorem dX7_pair_66 : decode cX7_pair 66 = .ok (.bipush 40, 2) := by decide +kernel
theorem dX7_pair_68 : decode cX7_pair 68 = .ok (.iconst 4, 1) := by decide +kernel
theorem dX7_pair_69 : decode cX7_pair 69 = .ok (.iload 4, 2) := by decide +kernel
theorem dX7_pair_71 : decode cX7_pair 71 = .ok (.imul, 1) := by decide +kernel
theorem dX7_pair_72 : decode cX7_pair 72 = .ok (.iadd, 1) := by decide +kernel
theorem dX7_pair_73 : decode cX7_pair 73 = .ok (.iconst 1, 1) := by decide +kernel
theorem dX7_pair_74 : decode cX7_pair 74 = .ok (.iadd, 1) := by decide +kernel
theorem dX7_pair_75 : decode cX7_pair 75 = .ok (.iload_n 2, 1) := by decide +kernel
theorem dX7_pair_76 : decode cX7_pair 76 = .ok (.iastore, 1) := by decide +kernel
theorem dX7_pair_77 : decode cX7_pair 77 = .ok (.aload_n 0, 1) := by decide +kernel
theorem dX7_pair_78 : decode cX7_pair 78 = .ok (.getfield 7, 3) := by decide +kernel
theorem dX7_pair_81 : decode cX7_pair 81 = .ok (.bipush 40, 2) := by decide +kernel
theorem dX7_pair_83 : decode cX7_pair 83 = .ok (.iconst 4, 1) := by decide +kernel
theorem dX7_pair_84 : decode cX7_pair 84 = .ok (.iload 4, 2) := by decide +kernel
theorem dX7_pair_86 : decode cX7_pair 86 = .ok (.imul, 1) := by decide +kernel
theorem dX7_pair_87 : decode cX7_pair 87 = .ok (.iadd, 1) := by decide +kernel
theorem dX7_pair_88 : decode cX7_pair 88 = .ok (.iconst 2, 1) := by decide +kernel
theorem dX7_pair_89 : decode cX7_pair 89 = .ok (.iadd, 1) := by decide +kernel
theorem dX7_pair_90 : decode cX7_pair 90 = .ok (.iload_n 3, 1) := by decide +kernel
theorem dX7_pair_91 : decode cX7_pair 91 = .ok (.iastore, 1) := by decide +kernel
theorem dX7_pair_92 : decode cX7_pair 92 = .ok (.aload_n 0, 1) := by decide +kernel
theorem dX7_pair_93 : decode cX7_pair 93 = .ok (.getfield 7, 3) := by decide +kernel
theorem dX7_pair_96 : decode cX7_pair 96 = .ok (.bipush 40, 2) := by decide +kernel
theorem dX7_pair_98 : decode cX7_pair 98 = .ok (.iconst 4, 1) := by decide +kernel
theorem dX7_pair_99 : decode cX7_pair 99 = .ok (.iload 4, 2) := by decide +kernel
theorem dX7_pair_101 : decode cX7_pair 101 = .ok (.imul, 1) := by decide +kernel
theorem dX7_pair_102 : decode cX7_pair 102 = .ok (.iadd, 1) := by decide +kernel
theorem dX7_pair_103 : decode cX7_pair 103 = .ok (.iconst 3, 1) := by decide +kernel
theorem dX7_pair_104 : decode cX7_pair 104 = .ok (.iadd, 1) := by decide +kernel
theorem dX7_pair_105 : decode cX7_pair 105 = .ok (.iconst 0, 1) := by decide +kernel
theorem dX7_pair_106 : decode cX7_pair 106 = .ok (.iastore, 1) := by decide +kernel
theorem dX7_pair_107 : decode cX7_pair 107 = .ok (.aload_n 0, 1) := by decide +kernel
theorem dX7_pair_108 : decode cX7_pair 108 = .ok (.getfield 7, 3) := by decide +kernel
theorem dX7_pair_111 : decode cX7_pair 111 = .ok (.bipush 60, 2) := by decide +kernel
theorem dX7_pair_113 : decode cX7_pair 113 = .ok (.dup2, 1) := by decide +kernel
theorem dX7_pair_114 : decode cX7_pair 114 = .ok (.iaload, 1) := by decide +kernel
theorem dX7_pair_115 : decode cX7_pair 115 = .ok (.iconst 1, 1) := by decide +kernel
theorem dX7_pair_116 : decode cX7_pair 116 = .ok (.iadd, 1) := by decide +kernel
theorem dX7_pair_117 : decode cX7_pair 117 = .ok (.iastore, 1) := by decide +kernel
theorem dX7_pair_118 : decode cX7_pair 118 = .ok (.iload 4, 2) := by decide +kernel
theorem dX7_pair_120 : decode cX7_pair 120 = .ok (.ireturn, 1) := by decide +kernel
theorem dX7_told_0 : decode cX7_told 0 = .ok (.iload_n 2, 1) := by decide +kernel
theorem dX7_told_1 : decode cX7_told 1 = .ok (.ifCond .eq 8, 3) := by decide +kernel
theorem dX7_told_4 : decode cX7_told 4 = .ok (.iload_n 2, 1) := by decide +kernel
theorem dX7_told_5 : decode cX7_told 5 = .ok (.iconst 1, 1) := by decide +kernel
theorem dX7_told_6 : decode cX7_told 6 = .ok (.if_icmp .ne 31, 3) := by decide +kernel
theorem dX7_told_9 : decode cX7_told 9 = .ok (.aload_n 0, 1) := by decide +kernel
theorem dX7_told_10 : decode cX7_told 10 = .ok (.iload_n 2, 1) := by decide +kernel
theorem dX7_told_11 : decode cX7_told 11 = .ok (.iload_n 1, 1) := by decide +kernel
theorem dX7_told_12 : decode cX7_told 12 = .ok (.invokevirtual 90, 3) := by decide +kernel
theorem dX7_told_15 : decode cX7_told 15 = .ok (.iconst (-1), 1) := by decide +kernel
theorem dX7_told_16 : decode cX7_told 16 = .ok (.if_icmp .ne 9, 3) := by decide +kernel
theorem dX7_told_19 : decode cX7_told 19 = .ok (.sipush (-1000), 3) := by decide +kernel
theorem dX7_told_22 : decode cX7_told 22 = .ok (.goto 14, 3) := by decide +kernel
theorem dX7_told_25 : decode cX7_told 25 = .ok (.aload_n 0, 1) := by decide +kernel
theorem dX7_told_26 : decode cX7_told 26 = .ok (.getfield 7, 3) := by decide +kernel
theorem dX7_told_29 : decode cX7_told 29 = .ok (.aload_n 0, 1) := by decide +kernel
theorem dX7_told_30 : decode cX7_told 30 = .ok (.iload_n 2, 1) := by decide +kernel
theorem dX7_told_31 : decode cX7_told 31 = .ok (.iload_n 1, 1) := by decide +kernel
theorem dX7_told_32 : decode cX7_told 32 = .ok (.invokevirtual 90, 3) := by decide +kernel
theorem dX7_told_35 : decode cX7_told 35 = .ok (.iaload, 1) := by decide +kernel
theorem dX7_told_36 : decode cX7_told 36 = .ok (.ireturn, 1) := by decide +kernel
theorem dX7_told_37 : decode cX7_told 37 = .ok (.aload_n 0, 1) := by decide +kernel
theorem dX7_told_38 : decode cX7_told 38 = .ok (.iload_n 1, 1) := by decide +kernel
theorem dX7_told_39 : decode cX7_told 39 = .ok (.invokevirtual 82, 3) := by decide +kernel
theorem dX7_told_42 : decode cX7_told 42 = .ok (.ifCond .ne 7, 3) := by decide +kernel
theorem dX7_told_45 : decode cX7_told 45 = .ok (.sipush (-1000), 3) := by decide +kernel
theorem dX7_told_48 : decode cX7_told 48 = .ok (.ireturn, 1) := by decide +kernel
theorem dX7_told_49 : decode cX7_told 49 = .ok (.aload_n 0, 1) := by decide +kernel
theorem dX7_told_50 : decode cX7_told 50 = .ok (.iload_n 1, 1) := by decide +kernel
theorem dX7_told_51 : decode cX7_told 51 = .ok (.invokevirtual 97, 3) := by decide +kernel
theorem dX7_told_54 : decode cX7_told 54 = .ok (.aload_n 0, 1) := by decide +kernel
theorem dX7_told_55 : decode cX7_told 55 = .ok (.iload_n 1, 1) := by decide +kernel
theorem dX7_told_56 : decode cX7_told 56 = .ok (.invokevirtual 101, 3) := by decide +kernel
theorem dX7_told_59 : decode cX7_told 59 = .ok (.istore_n 3, 1) := by decide +kernel
theorem dX7_told_60 : decode cX7_told 60 = .ok (.iload_n 2, 1) := by decide +kernel
theorem dX7_told_61 : decode cX7_told 61 = .ok (.tableswitch 79 2 7 #[39, 45, 47, 53, 67, 73], 39) := by decide +kernel
theorem dX7_told_100 : decode cX7_told 100 = .ok (.aload_n 0, 1) := by decide +kernel
theorem dX7_told_101 : decode cX7_told 101 = .ok (.iload_n 1, 1) := by decide +kernel
theorem dX7_told_102 : decode cX7_told 102 = .ok (.invokevirtual 104, 3) := by decide +kernel
theorem dX7_told_105 : decode cX7_told 105 = .ok (.ireturn, 1) := by decide +kernel
theorem dX7_told_106 : decode cX7_told 106 = .ok (.iload_n 3, 1) := by decide +kernel
theorem dX7_told_107 : decode cX7_told 107 = .ok (.ireturn, 1) := by decide +kernel
theorem dX7_told_108 : decode cX7_told 108 = .ok (.aload_n 0, 1) := by decide +kernel
theorem dX7_told_109 : decode cX7_told 109 = .ok (.iload_n 1, 1) := by decide +kernel
theorem dX7_told_110 : decode cX7_told 110 = .ok (.invokevirtual 107, 3) := by decide +kernel
theorem dX7_told_113 : decode cX7_told 113 = .ok (.ireturn, 1) := by decide +kernel
theorem dX7_told_114 : decode cX7_told 114 = .ok (.aload_n 0, 1) := by decide +kernel
theorem dX7_told_115 : decode cX7_told 115 = .ok (.getfield 7, 3) := by decide +kernel
theorem dX7_told_118 : decode cX7_told 118 = .ok (.bipush 40, 2) := by decide +kernel
theorem dX7_told_120 : decode cX7_told 120 = .ok (.iconst 4, 1) := by decide +kernel
theorem dX7_told_121 : decode cX7_told 121 = .ok (.iload_n 1, 1) := by decide +kernel
theorem dX7_told_122 : decode cX7_told 122 = .ok (.imul, 1) := by decide +kernel
theorem dX7_told_123 : decode cX7_told 123 = .ok (.iadd, 1) := by decide +kernel
theorem dX7_told_124 : decode cX7_told 124 = .ok (.iconst 3, 1) := by decide +kernel
theorem dX7_told_125 : decode cX7_told 125 = .ok (.iadd, 1) := by decide +kernel
theorem dX7_told_126 : decode cX7_told 126 = .ok (.iaload, 1) := by decide +kernel
theorem dX7_told_127 : decode cX7_told 127 = .ok (.ireturn, 1) := by decide +kernel
theorem dX7_told_128 : decode cX7_told 128 = .ok (.aload_n 0, 1) := by decide +kernel
theorem dX7_told_129 : decode cX7_told 129 = .ok (.iload_n 3, 1) := by decide +kernel
theorem dX7_told_130 : decode cX7_told 130 = .ok (.invokevirtual 110, 3) := by decide +kernel
theorem dX7_told_133 : decode cX7_told 133 = .ok (.ireturn, 1) := by decide +kernel
theorem dX7_told_134 : decode cX7_told 134 = .ok (.aload_n 0, 1) := by decide +kernel
theorem dX7_told_135 : decode cX7_told 135 = .ok (.iload_n 3, 1) := by decide +kernel
theorem dX7_told_136 : decode cX7_told 136 = .ok (.invokevirtual 113, 3) := by decide +kernel
theorem dX7_told_139 : decode cX7_told 139 = .ok (.ireturn, 1) := by decide +kernel
theorem dX7_told_140 : decode cX7_told 140 = .ok (.iload_n 2, 1) := by decide +kernel
theorem dX7_told_141 : decode cX7_told 141 = .ok (.bipush 10, 2) := by decide +kernel
theorem dX7_told_143 : decode cX7_told 143 = .ok (.bipush 15, 2) := by decide +kernel
theorem dX7_told_145 : decode cX7_told 145 = .ok (.invokestatic 78, 3) := by decide +kernel
theorem dX7_told_148 : decode cX7_told 148 = .ok (.ifCond .eq 15, 3) := by decide +kernel
theorem dX7_told_151 : decode cX7_told 151 = .ok (.aload_n 0, 1) := by decide +kernel
theorem dX7_told_152 : decode cX7_told 152 = .ok (.iload_n 3, 1) := by decide +kernel
theorem dX7_told_153 : decode cX7_told 153 = .ok (.iload_n 2, 1) := by decide +kernel
theorem dX7_told_154 : decode cX7_told 154 = .ok (.bipush 10, 2) := by decide +kernel
theorem dX7_told_156 : decode cX7_told 156 = .ok (.isub, 1) := by decide +kernel
theorem dX7_told_157 : decode cX7_told 157 = .ok (.invokevirtual 116, 3) := by decide +kernel
theorem dX7_told_160 : decode cX7_told 160 = .ok (.goto 6, 3) := by decide +kernel
theorem dX7_told_163 : decode cX7_told 163 = .ok (.sipush (-1000), 3) := by decide +kernel
theorem dX7_told_166 : decode cX7_told 166 = .ok (.ireturn, 1) := by decide +kernel
theorem dX7_things_0 : decode cX7_things 0 = .ok (.iconst 0, 1) := by decide +kernel
theorem dX7_things_1 : decode cX7_things 1 = .ok (.istore_n 1, 1) := by decide +kernel
theorem dX7_things_2 : decode cX7_things 2 = .ok (.iconst 0, 1) := by decide +kernel
theorem dX7_things_3 : decode cX7_things 3 = .ok (.istore_n 2, 1) := by decide +kernel
theorem dX7_things_4 : decode cX7_things 4 = .ok (.iload_n 2, 1) := by decide +kernel
theorem dX7_things_5 : decode cX7_things 5 = .ok (.bipush 40, 2) := by decide +kernel
theorem dX7_things_7 : decode cX7_things 7 = .ok (.if_icmp .ge 26, 3) := by decide +kernel
theorem dX7_things_10 : decode cX7_things 10 = .ok (.iload_n 1, 1) := by decide +kernel
theorem dX7_things_11 : decode cX7_things 11 = .ok (.aload_n 0, 1) := by decide +kernel
theorem dX7_things_12 : decode cX7_things 12 = .ok (.getfield 7, 3) := by decide +kernel
theorem dX7_things_15 : decode cX7_things 15 = .ok (.iload_n 2, 1) := by decide +kernel
theorem dX7_things_16 : decode cX7_things 16 = .ok (.iaload, 1) := by decide +kernel
theorem dX7_things_17 : decode cX7_things 17 = .ok (.ifCond .eq 7, 3) := by decide +kernel
theorem dX7_things_20 : decode cX7_things 20 = .ok (.iconst 1, 1) := by decide +kernel
theorem dX7_things_21 : decode cX7_things 21 = .ok (.goto 4, 3) := by decide +kernel
theorem dX7_things_24 : decode cX7_things 24 = .ok (.iconst 0, 1) := by decide +kernel
theorem dX7_things_25 : decode cX7_things 25 = .ok (.iadd, 1) := by decide +kernel
theorem dX7_things_26 : decode cX7_things 26 = .ok (.istore_n 1, 1) := by decide +kernel
theorem dX7_things_27 : decode cX7_things 27 = .ok (.iinc 2 1, 3) := by decide +kernel
theorem dX7_things_30 : decode cX7_things 30 = .ok (.goto (-26), 3) := by decide +kernel
theorem dX7_things_33 : decode cX7_things 33 = .ok (.iload_n 1, 1) := by decide +kernel
theorem dX7_things_34 : decode cX7_things 34 = .ok (.ireturn, 1) := by decide +kernel
theorem dX7_firstText_0 : decode cX7_firstText 0 = .ok (.bipush 7, 2) := by decide +kernel
theorem dX7_firstText_2 : decode cX7_firstText 2 = .ok (.newarray .int, 2) := by decide +kernel
theorem dX7_firstText_4 : decode cX7_firstText 4 = .ok (.dup, 1) := by decide +kernel
theorem dX7_firstText_5 : decode cX7_firstText 5 = .ok (.iconst 0, 1) := by decide +kernel
theorem dX7_firstText_6 : decode cX7_firstText 6 = .ok (.iconst 5, 1) := by decide +kernel
theorem dX7_firstText_7 : decode cX7_firstText 7 = .ok (.iastore, 1) := by decide +kernel
theorem dX7_firstText_8 : decode cX7_firstText 8 = .ok (.dup, 1) := by decide +kernel
theorem dX7_firstText_9 : decode cX7_firstText 9 = .ok (.iconst 1, 1) := by decide +kernel
theorem dX7_firstText_10 : decode cX7_firstText 10 = .ok (.bipush (-10), 2) := by decide +kernel
theorem dX7_firstText_12 : decode cX7_firstText 12 = .ok (.iastore, 1) := by decide +kernel
theorem dX7_firstText_13 : decode cX7_firstText 13 = .ok (.dup, 1) := by decide +kernel
theorem dX7_firstText_14 : decode cX7_firstText 14 = .ok (.iconst 2, 1) := by decide +kernel
theorem dX7_firstText_15 : decode cX7_firstText 15 = .ok (.iconst 3, 1) := by decide +kernel
theorem dX7_firstText_16 : decode cX7_firstText 16 = .ok (.iastore, 1) := by decide +kernel
theorem dX7_firstText_17 : decode cX7_firstText 17 = .ok (.dup, 1) := by decide +kernel
theorem dX7_firstText_18 : decode cX7_firstText 18 = .ok (.iconst 3, 1) := by decide +kernel
theorem dX7_firstText_19 : decode cX7_firstText 19 = .ok (.bipush (-27), 2) := by decide +kernel
theorem dX7_firstText_21 : decode cX7_firstText 21 = .ok (.iastore, 1) := by decide +kernel
theorem dX7_firstText_22 : decode cX7_firstText 22 = .ok (.dup, 1) := by decide +kernel
theorem dX7_firstText_23 : decode cX7_firstText 23 = .ok (.iconst 4, 1) := by decide +kernel
theorem dX7_firstText_24 : decode cX7_firstText 24 = .ok (.bipush (-25), 2) := by decide +kernel
theorem dX7_firstText_26 : decode cX7_firstText 26 = .ok (.iastore, 1) := by decide +kernel
theorem dX7_firstText_27 : decode cX7_firstText 27 = .ok (.dup, 1) := by decide +kernel
theorem dX7_firstText_28 : decode cX7_firstText 28 = .ok (.iconst 5, 1) := by decide +kernel
theorem dX7_firstText_29 : decode cX7_firstText 29 = .ok (.iconst 2, 1) := by decide +kernel
theorem dX7_firstText_30 : decode cX7_firstText 30 = .ok (.iastore, 1) := by decide +kernel
theorem dX7_firstText_31 : decode cX7_firstText 31 = .ok (.dup, 1) := by decide +kernel
theorem dX7_firstText_32 : decode cX7_firstText 32 = .ok (.bipush 6, 2) := by decide +kernel
theorem dX7_firstText_34 : decode cX7_firstText 34 = .ok (.bipush (-11), 2) := by decide +kernel
theorem dX7_firstText_36 : decode cX7_firstText 36 = .ok (.iastore, 1) := by decide +kernel
theorem dX7_firstText_37 : decode cX7_firstText 37 = .ok (.astore_n 1, 1) := by decide +kernel
theorem dX7_firstText_38 : decode cX7_firstText 38 = .ok (.iconst 0, 1) := by decide +kernel
theorem dX7_firstText_39 : decode cX7_firstText 39 = .ok (.istore_n 2, 1) := by decide +kernel
theorem dX7_firstText_40 : decode cX7_firstText 40 = .ok (.iload_n 2, 1) := by decide +kernel
theorem dX7_firstText_41 : decode cX7_firstText 41 = .ok (.bipush 7, 2) := by decide +kernel
theorem dX7_firstText_43 : decode cX7_firstText 43 = .ok (.if_icmp .ge 18, 3) := by decide +kernel
theorem dX7_firstText_46 : decode cX7_firstText 46 = .ok (.aload_n 0, 1) := by decide +kernel
theorem dX7_firstText_47 : decode cX7_firstText 47 = .ok (.getfield 19, 3) := by decide +kernel
theorem dX7_firstText_50 : decode cX7_firstText 50 = .ok (.iload_n 2, 1) := by decide +kernel
theorem dX7_firstText_51 : decode cX7_firstText 51 = .ok (.aload_n 1, 1) := by decide +kernel
theorem dX7_firstText_52 : decode cX7_firstText 52 = .ok (.iload_n 2, 1) := by decide +kernel
theorem dX7_firstText_53 : decode cX7_firstText 53 = .ok (.iaload, 1) := by decide +kernel
theorem dX7_firstText_54 : decode cX7_firstText 54 = .ok (.iastore, 1) := by decide +kernel
theorem dX7_firstText_55 : decode cX7_firstText 55 = .ok (.iinc 2 1, 3) := by decide +kernel
theorem dX7_firstText_58 : decode cX7_firstText 58 = .ok (.goto (-18), 3) := by decide +kernel
theorem dX7_firstText_61 : decode cX7_firstText 61 = .ok (.aload_n 0, 1) := by decide +kernel
theorem dX7_firstText_62 : decode cX7_firstText 62 = .ok (.getfield 22, 3) := by decide +kernel
theorem dX7_firstText_65 : decode cX7_firstText 65 = .ok (.iconst 0, 1) := by decide +kernel
theorem dX7_firstText_66 : decode cX7_firstText 66 = .ok (.iconst 5, 1) := by decide +kernel
theorem dX7_firstText_67 : decode cX7_firstText 67 = .ok (.iastore, 1) := by decide +kernel
theorem dX7_firstText_68 : decode cX7_firstText 68 = .ok (.aload_n 0, 1) := by decide +kernel
theorem dX7_firstText_69 : decode cX7_firstText 69 = .ok (.getfield 22, 3) := by decide +kernel
theorem dX7_firstText_72 : decode cX7_firstText 72 = .ok (.iconst 1, 1) := by decide +kernel
theorem dX7_firstText_73 : decode cX7_firstText 73 = .ok (.bipush 6, 2) := by decide +kernel
theorem dX7_firstText_75 : decode cX7_firstText 75 = .ok (.iastore, 1) := by decide +kernel
theorem dX7_firstText_76 : decode cX7_firstText 76 = .ok (.aload_n 0, 1) := by decide +kernel
theorem dX7_firstText_77 : decode cX7_firstText 77 = .ok (.getfield 22, 3) := by decide +kernel
theorem dX7_firstText_80 : decode cX7_firstText 80 = .ok (.iconst 2, 1) := by decide +kernel
theorem dX7_firstText_81 : decode cX7_firstText 81 = .ok (.bipush 7, 2) := by decide +kernel
theorem dX7_firstText_83 : decode cX7_firstText 83 = .ok (.iastore, 1) := by decide +kernel
theorem dX7_firstText_84 : decode cX7_firstText 84 = .ok (.iconst 1, 1) := by decide +kernel
theorem dX7_firstText_85 : decode cX7_firstText 85 = .ok (.ireturn, 1) := by decide +kernel
theorem dX7_feed_0 : decode cX7_feed 0 = .ok (.iload_n 1, 1) := by decide +kernel
theorem dX7_feed_1 : decode cX7_feed 1 = .ok (.iconst 0, 1) := by decide +kernel
theorem dX7_feed_2 : decode cX7_feed 2 = .ok (.sipush 255, 3) := by decide +kernel
theorem dX7_feed_5 : decode cX7_feed 5 = .ok (.invokestatic 78, 3) := by decide +kernel
theorem dX7_feed_8 : decode cX7_feed 8 = .ok (.ifCond .ne 6, 3) := by decide +kernel
theorem dX7_feed_11 : decode cX7_feed 11 = .ok (.bipush (-2), 2) := by decide +kernel
theorem dX7_feed_13 : decode cX7_feed 13 = .ok (.ireturn, 1) := by decide +kernel
theorem dX7_feed_14 : decode cX7_feed 14 = .ok (.aload_n 0, 1) := by decide +kernel
theorem dX7_feed_15 : decode cX7_feed 15 = .ok (.getfield 119, 3) := by decide +kernel
theorem dX7_feed_18 : decode cX7_feed 18 = .ok (.sipush 160, 3) := by decide +kernel
theorem dX7_feed_21 : decode cX7_feed 21 = .ok (.if_icmp .ne 6, 3) := by decide +kernel
theorem dX7_feed_24 : decode cX7_feed 24 = .ok (.bipush (-4), 2) := by decide +kernel
theorem dX7_feed_26 : decode cX7_feed 26 = .ok (.ireturn, 1) := by decide +kernel
theorem dX7_feed_27 : decode cX7_feed 27 = .ok (.aload_n 0, 1) := by decide +kernel
theorem dX7_feed_28 : decode cX7_feed 28 = .ok (.getfield 16, 3) := by decide +kernel
theorem dX7_feed_31 : decode cX7_feed 31 = .ok (.aload_n 0, 1) := by decide +kernel
theorem dX7_feed_32 : decode cX7_feed 32 = .ok (.getfield 119, 3) := by decide +kernel
theorem dX7_feed_35 : decode cX7_feed 35 = .ok (.iload_n 1, 1) := by decide +kernel
theorem dX7_feed_36 : decode cX7_feed 36 = .ok (.iastore, 1) := by decide +kernel
theorem dX7_feed_37 : decode cX7_feed 37 = .ok (.aload_n 0, 1) := by decide +kernel
theorem dX7_feed_38 : decode cX7_feed 38 = .ok (.dup, 1) := by decide +kernel
theorem dX7_feed_39 : decode cX7_feed 39 = .ok (.getfield 119, 3) := by decide +kernel
theorem dX7_feed_42 : decode cX7_feed 42 = .ok (.iconst 1, 1) := by decide +kernel
theorem dX7_feed_43 : decode cX7_feed 43 = .ok (.iadd, 1) := by decide +kernel
theorem dX7_feed_44 : decode cX7_feed 44 = .ok (.putfield 119, 3) := by decide +kernel
theorem dX7_feed_47 : decode cX7_feed 47 = .ok (.aload_n 0, 1) := by decide +kernel
theorem dX7_feed_48 : decode cX7_feed 48 = .ok (.getfield 119, 3) := by decide +kernel
theorem dX7_feed_51 : decode cX7_feed 51 = .ok (.ireturn, 1) := by decide +kernel
theorem dX7_sortAt_0 : decode cX7_sortAt 0 = .ok (.iload_n 1, 1) := by decide +kernel
theorem dX7_sortAt_1 : decode cX7_sortAt 1 = .ok (.aload_n 0, 1) := by decide +kernel
theorem dX7_sortAt_2 : decode cX7_sortAt 2 = .ok (.getfield 119, 3) := by decide +kernel
theorem dX7_sortAt_5 : decode cX7_sortAt 5 = .ok (.if_icmp .lt 7, 3) := by decide +kernel
theorem dX7_sortAt_8 : decode cX7_sortAt 8 = .ok (.iconst 0, 1) := by decide +kernel
theorem dX7_sortAt_9 : decode cX7_sortAt 9 = .ok (.goto 44, 3) := by decide +kernel
theorem dX7_sortAt_12 : decode cX7_sortAt 12 = .ok (.aload_n 0, 1) := by decide +kernel
theorem dX7_sortAt_13 : decode cX7_sortAt 13 = .ok (.getfield 16, 3) := by decide +kernel
theorem dX7_sortAt_16 : decode cX7_sortAt 16 = .ok (.iload_n 1, 1) := by decide +kernel
theorem dX7_sortAt_17 : decode cX7_sortAt 17 = .ok (.iaload, 1) := by decide +kernel
theorem dX7_sortAt_18 : decode cX7_sortAt 18 = .ok (.bipush 97, 2) := by decide +kernel
theorem dX7_sortAt_20 : decode cX7_sortAt 20 = .ok (.bipush 122, 2) := by decide +kernel
theorem dX7_sortAt_22 : decode cX7_sortAt 22 = .ok (.invokestatic 78, 3) := by decide +kernel
theorem dX7_sortAt_25 : decode cX7_sortAt 25 = .ok (.ifCond .eq 7, 3) := by decide +kernel
theorem dX7_sortAt_28 : decode cX7_sortAt 28 = .ok (.iconst 1, 1) := by decide +kernel
theorem dX7_sortAt_29 : decode cX7_sortAt 29 = .ok (.goto 24, 3) := by decide +kernel
theorem dX7_sortAt_32 : decode cX7_sortAt 32 = .ok (.aload_n 0, 1) := by decide +kernel
theorem dX7_sortAt_33 : decode cX7_sortAt 33 = .ok (.getfield 16, 3) := by decide +kernel
theorem dX7_sortAt_36 : decode cX7_sortAt 36 = .ok (.iload_n 1, 1) := by decide +kernel
theorem dX7_sortAt_37 : decode cX7_sortAt 37 = .ok (.iaload, 1) := by decide +kernel
theorem dX7_sortAt_38 : decode cX7_sortAt 38 = .ok (.bipush 48, 2) := by decide +kernel
theorem dX7_sortAt_40 : decode cX7_sortAt 40 = .ok (.bipush 57, 2) := by decide +kernel
theorem dX7_sortAt_42 : decode cX7_sortAt 42 = .ok (.invokestatic 78, 3) := by decide +kernel
theorem dX7_sortAt_45 : decode cX7_sortAt 45 = .ok (.ifCond .eq 7, 3) := by decide +kernel
theorem dX7_sortAt_48 : decode cX7_sortAt 48 = .ok (.iconst 2, 1) := by decide +kernel
theorem dX7_sortAt_49 : decode cX7_sortAt 49 = .ok (.goto 4, 3) := by decide +kernel
theorem dX7_sortAt_52 : decode cX7_sortAt 52 = .ok (.iconst 3, 1) := by decide +kernel
theorem dX7_sortAt_53 : decode cX7_sortAt 53 = .ok (.ireturn, 1) := by decide +kernel
theorem dX7_next_0 : decode cX7_next 0 = .ok (.aload_n 0, 1) := by decide +kernel
theorem dX7_next_1 : decode cX7_next 1 = .ok (.getfield 122, 3) := by decide +kernel
theorem dX7_next_4 : decode cX7_next 4 = .ok (.aload_n 0, 1) := by decide +kernel
theorem dX7_next_5 : decode cX7_next 5 = .ok (.getfield 119, 3) := by decide +kernel
theorem dX7_next_8 : decode cX7_next 8 = .ok (.if_icmp .ge 44, 3) := by decide +kernel
theorem dX7_next_11 : decode cX7_next 11 = .ok (.aload_n 0, 1) := by decide +kernel
theorem dX7_next_12 : decode cX7_next 12 = .ok (.getfield 16, 3) := by decide +kernel
theorem dX7_next_15 : decode cX7_next 15 = .ok (.aload_n 0, 1) := by decide +kernel
theorem dX7_next_16 : decode cX7_next 16 = .ok (.getfield 122, 3) := by decide +kernel
theorem dX7_next_19 : decode cX7_next 19 = .ok (.iaload, 1) := by decide +kernel
theorem dX7_next_20 : decode cX7_next 20 = .ok (.bipush 32, 2) := by decide +kernel
theorem dX7_next_22 : decode cX7_next 22 = .ok (.if_icmp .eq 17, 3) := by decide +kernel
theorem dX7_next_25 : decode cX7_next 25 = .ok (.aload_n 0, 1) := by decide +kernel
theorem dX7_next_26 : decode cX7_next 26 = .ok (.getfield 16, 3) := by decide +kernel
theorem dX7_next_29 : decode cX7_next 29 = .ok (.aload_n 0, 1) := by decide +kernel
theorem dX7_next_30 : decode cX7_next 30 = .ok (.getfield 122, 3) := by decide +kernel
theorem dX7_next_33 : decode cX7_next 33 = .ok (.iaload, 1) := by decide +kernel
theorem dX7_next_34 : decode cX7_next 34 = .ok (.bipush 10, 2) := by decide +kernel
theorem dX7_next_36 : decode cX7_next 36 = .ok (.if_icmp .ne 16, 3) := by decide +kernel
theorem dX7_next_39 : decode cX7_next 39 = .ok (.aload_n 0, 1) := by decide +kernel
theorem dX7_next_40 : decode cX7_next 40 = .ok (.dup, 1) := by decide +kernel
theorem dX7_next_41 : decode cX7_next 41 = .ok (.getfield 122, 3) := by decide +kernel
theorem dX7_next_44 : decode cX7_next 44 = .ok (.iconst 1, 1) := by decide +kernel
theorem dX7_next_45 : decode cX7_next 45 = .ok (.iadd, 1) := by decide +kernel
theorem dX7_next_46 : decode cX7_next 46 = .ok (.putfield 122, 3) := by decide +kernel
theorem dX7_next_49 : decode cX7_next 49 = .ok (.goto (-49), 3) := by decide +kernel
theorem dX7_next_52 : decode cX7_next 52 = .ok (.aload_n 0, 1) := by decide +kernel
theorem dX7_next_53 : decode cX7_next 53 = .ok (.aload_n 0, 1) := by decide +kernel
theorem dX7_next_54 : decode cX7_next 54 = .ok (.getfield 122, 3) := by decide +kernel
theorem dX7_next_57 : decode cX7_next 57 = .ok (.putfield 125, 3) := by decide +kernel
theorem dX7_next_60 : decode cX7_next 60 = .ok (.aload_n 0, 1) := by decide +kernel
theorem dX7_next_61 : decode cX7_next 61 = .ok (.aload_n 0, 1) := by decide +kernel
theorem dX7_next_62 : decode cX7_next 62 = .ok (.aload_n 0, 1) := by decide +kernel
theorem dX7_next_63 : decode cX7_next 63 = .ok (.getfield 122, 3) := by decide +kernel
theorem dX7_next_66 : decode cX7_next 66 = .ok (.invokevirtual 128, 3) := by decide +kernel
theorem dX7_next_69 : decode cX7_next 69 = .ok (.putfield 131, 3) := by decide +kernel
theorem dX7_next_72 : decode cX7_next 72 = .ok (.aload_n 0, 1) := by decide +kernel
theorem dX7_next_73 : decode cX7_next 73 = .ok (.getfield 131, 3) := by decide +kernel
theorem dX7_next_76 : decode cX7_next 76 = .ok (.ifCond .le 49, 3) := by decide +kernel
theorem dX7_next_79 : decode cX7_next 79 = .ok (.aload_n 0, 1) := by decide +kernel
theorem dX7_next_80 : decode cX7_next 80 = .ok (.dup, 1) := by decide +kernel
theorem dX7_next_81 : decode cX7_next 81 = .ok (.getfield 122, 3) := by decide +kernel
theorem dX7_next_84 : decode cX7_next 84 = .ok (.iconst 1, 1) := by decide +kernel
theorem dX7_next_85 : decode cX7_next 85 = .ok (.iadd, 1) := by decide +kernel
theorem dX7_next_86 : decode cX7_next 86 = .ok (.putfield 122, 3) := by decide +kernel
theorem dX7_next_89 : decode cX7_next 89 = .ok (.aload_n 0, 1) := by decide +kernel
theorem dX7_next_90 : decode cX7_next 90 = .ok (.getfield 131, 3) := by decide +kernel
theorem dX7_next_93 : decode cX7_next 93 = .ok (.iconst 3, 1) := by decide +kernel
theorem dX7_next_94 : decode cX7_next 94 = .ok (.if_icmp .ge 31, 3) := by decide +kernel
theorem dX7_next_97 : decode cX7_next 97 = .ok (.aload_n 0, 1) := by decide +kernel
theorem dX7_next_98 : decode cX7_next 98 = .ok (.aload_n 0, 1) := by decide +kernel
theorem dX7_next_99 : decode cX7_next 99 = .ok (.getfield 122, 3) := by decide +kernel
theorem dX7_next_102 : decode cX7_next 102 = .ok (.invokevirtual 128, 3) := by decide +kernel
theorem dX7_next_105 : decode cX7_next 105 = .ok (.aload_n 0, 1) := by decide +kernel
theorem dX7_next_106 : decode cX7_next 106 = .ok (.getfield 131, 3) := by decide +kernel
theorem dX7_next_109 : decode cX7_next 109 = .ok (.if_icmp .ne 16, 3) := by decide +kernel
theorem dX7_next_112 : decode cX7_next 112 = .ok (.aload_n 0, 1) := by decide +kernel
theorem dX7_next_113 : decode cX7_next 113 = .ok (.dup, 1) := by decide +kernel
theorem dX7_next_114 : decode cX7_next 114 = .ok (.getfield 122, 3) := by decide +kernel
theorem dX7_next_117 : decode cX7_next 117 = .ok (.iconst 1, 1) := by decide +kernel
theorem dX7_next_118 : decode cX7_next 118 = .ok (.iadd, 1) := by decide +kernel
theorem dX7_next_119 : decode cX7_next 119 = .ok (.putfield 122, 3) := by decide +kernel
theorem dX7_next_122 : decode cX7_next 122 = .ok (.goto (-33), 3) := by decide +kernel
theorem dX7_next_125 : decode cX7_next 125 = .ok (.return_, 1) := by decide +kernel
theorem dX7_word_0 : decode cX7_word 0 = .ok (.iconst (-1), 1) := by decide +kernel
theorem dX7_word_1 : decode cX7_word 1 = .ok (.istore_n 1, 1) := by decide +kernel
theorem dX7_word_2 : decode cX7_word 2 = .ok (.iconst 0, 1) := by decide +kernel
theorem dX7_word_3 : decode cX7_word 3 = .ok (.istore_n 2, 1) := by decide +kernel
theorem dX7_word_4 : decode cX7_word 4 = .ok (.iload_n 2, 1) := by decide +kernel
theorem dX7_word_5 : decode cX7_word 5 = .ok (.bipush 12, 2) := by decide +kernel
theorem dX7_word_7 : decode cX7_word 7 = .ok (.if_icmp .ge 118, 3) := by decide +kernel
theorem dX7_word_10 : decode cX7_word 10 = .ok (.aload_n 0, 1) := by decide +kernel
theorem dX7_word_11 : decode cX7_word 11 = .ok (.getfield 131, 3) := by decide +kernel
theorem dX7_word_14 : decode cX7_word 14 = .ok (.iconst 1, 1) := by decide +kernel
theorem dX7_word_15 : decode cX7_word 15 = .ok (.if_icmp .ne 21, 3) := by decide +kernel
theorem dX7_word_18 : decode cX7_word 18 = .ok (.aload_n 0, 1) := by decide +kernel
theorem dX7_word_19 : decode cX7_word 19 = .ok (.getfield 122, 3) := by decide +kernel
theorem dX7_word_22 : decode cX7_word 22 = .ok (.aload_n 0, 1) := by decide +kernel
theorem dX7_word_23 : decode cX7_word 23 = .ok (.getfield 125, 3) := by decide +kernel
theorem dX7_word_26 : decode cX7_word 26 = .ok (.isub, 1) := by decide +kernel
theorem dX7_word_27 : decode cX7_word 27 = .ok (.bipush 6, 2) := by decide +kernel
theorem dX7_word_29 : decode cX7_word 29 = .ok (.if_icmp .gt 7, 3) := by decide +kernel
theorem dX7_word_32 : decode cX7_word 32 = .ok (.iconst 1, 1) := by decide +kernel
theorem dX7_word_33 : decode cX7_word 33 = .ok (.goto 4, 3) := by decide +kernel
theorem dX7_word_36 : decode cX7_word 36 = .ok (.iconst 0, 1) := by decide +kernel
theorem dX7_word_37 : decode cX7_word 37 = .ok (.istore_n 3, 1) := by decide +kernel
theorem dX7_word_38 : decode cX7_word 38 = .ok (.iconst 0, 1) := by decide +kernel
theorem dX7_word_39 : decode cX7_word 39 = .ok (.istore 4, 2) := by decide +kernel
theorem dX7_word_41 : decode cX7_word 41 = .ok (.iload_n 3, 1) := by decide +kernel
theorem dX7_word_42 : decode cX7_word 42 = .ok (.ifCond .eq 67, 3) := by decide +kernel
theorem dX7_word_45 : decode cX7_word 45 = .ok (.iload 4, 2) := by decide +kernel
theorem dX7_word_47 : decode cX7_word 47 = .ok (.bipush 6, 2) := by decide +kernel
theorem dX7_word_49 : decode cX7_word 49 = .ok (.if_icmp .ge 60, 3) := by decide +kernel
theorem dX7_word_52 : decode cX7_word 52 = .ok (.aload_n 0, 1) := by decide +kernel
theorem dX7_word_53 : decode cX7_word 53 = .ok (.getfield 33, 3) := by decide +kernel
theorem dX7_word_56 : decode cX7_word 56 = .ok (.bipush 6, 2) := by decide +kernel
theorem dX7_word_58 : decode cX7_word 58 = .ok (.iload_n 2, 1) := by decide +kernel
theorem dX7_word_59 : decode cX7_word 59 = .ok (.imul, 1) := by decide +kernel
theorem dX7_word_60 : decode cX7_word 60 = .ok (.iload 4, 2) := by decide +kernel
theorem dX7_word_62 : decode cX7_word 62 = .ok (.iadd, 1) := by decide +kernel
theorem dX7_word_63 : decode cX7_word 63 = .ok (.caload, 1) := by decide +kernel
theorem dX7_word_64 : decode cX7_word 64 = .ok (.aload_n 0, 1) := by decide +kernel
theorem dX7_word_65 : decode cX7_word 65 = .ok (.getfield 125, 3) := by decide +kernel
theorem dX7_word_68 : decode cX7_word 68 = .ok (.iload 4, 2) := by decide +kernel
theorem dX7_word_70 : decode cX7_word 70 = .ok (.iadd, 1) := by decide +kernel
theorem dX7_word_71 : decode cX7_word 71 = .ok (.aload_n 0, 1) := by decide +kernel
theorem dX7_word_72 : decode cX7_word 72 = .ok (.getfield 122, 3) := by decide +kernel
theorem dX7_word_75 : decode cX7_word 75 = .ok (.if_icmp .ge 18, 3) := by decide +kernel
theorem dX7_word_78 : decode cX7_word 78 = .ok (.aload_n 0, 1) := by decide +kernel
theorem dX7_word_79 : decode cX7_word 79 = .ok (.getfield 16, 3) := by decide +kernel
theorem dX7_word_82 : decode cX7_word 82 = .ok (.aload_n 0, 1) := by decide +kernel
theorem dX7_word_83 : decode cX7_word 83 = .ok (.getfield 125, 3) := by decide +kernel
theorem dX7_word_86 : decode cX7_word 86 = .ok (.iload 4, 2) := by decide +kernel
theorem dX7_word_88 : decode cX7_word 88 = .ok (.iadd, 1) := by decide +kernel
theorem dX7_word_89 : decode cX7_word 89 = .ok (.iaload, 1) := by decide +kernel
theorem dX7_word_90 : decode cX7_word 90 = .ok (.goto 4, 3) := by decide +kernel
theorem dX7_word_93 : decode cX7_word 93 = .ok (.iconst 0, 1) := by decide +kernel
theorem dX7_word_94 : decode cX7_word 94 = .ok (.if_icmp .ne 7, 3) := by decide +kernel
theorem dX7_word_97 : decode cX7_word 97 = .ok (.iconst 1, 1) := by decide +kernel
theorem dX7_word_98 : decode cX7_word 98 = .ok (.goto 4, 3) := by decide +kernel
theorem dX7_word_101 : decode cX7_word 101 = .ok (.iconst 0, 1) := by decide +kernel
theorem dX7_word_102 : decode cX7_word 102 = .ok (.istore_n 3, 1) := by decide +kernel
theorem dX7_word_103 : decode cX7_word 103 = .ok (.iinc 4 1, 3) := by decide +kernel
theorem dX7_word_106 : decode cX7_word 106 = .ok (.goto (-65), 3) := by decide +kernel
theorem dX7_word_109 : decode cX7_word 109 = .ok (.iload_n 3, 1) := by decide +kernel
theorem dX7_word_110 : decode cX7_word 110 = .ok (.ifCond .eq 7, 3) := by decide +kernel
theorem dX7_word_113 : decode cX7_word 113 = .ok (.iload_n 2, 1) := by decide +kernel
theorem dX7_word_114 : decode cX7_word 114 = .ok (.goto 4, 3) := by decide +kernel
theorem dX7_word_117 : decode cX7_word 117 = .ok (.iload_n 1, 1) := by decide +kernel
theorem dX7_word_118 : decode cX7_word 118 = .ok (.istore_n 1, 1) := by decide +kernel
theorem dX7_word_119 : decode cX7_word 119 = .ok (.iinc 2 1, 3) := by decide +kernel
theorem dX7_word_122 : decode cX7_word 122 = .ok (.goto (-118), 3) := by decide +kernel
theorem dX7_word_125 : decode cX7_word 125 = .ok (.iload_n 1, 1) := by decide +kernel
theorem dX7_word_126 : decode cX7_word 126 = .ok (.ireturn, 1) := by decide +kernel
theorem dX7_isSign_0 : decode cX7_isSign 0 = .ok (.aload_n 0, 1) := by decide +kernel
theorem dX7_isSign_1 : decode cX7_isSign 1 = .ok (.getfield 131, 3) := by decide +kernel
theorem dX7_isSign_4 : decode cX7_isSign 4 = .ok (.iconst 3, 1) := by decide +kernel
theorem dX7_isSign_5 : decode cX7_isSign 5 = .ok (.if_icmp .ne 20, 3) := by decide +kernel
theorem dX7_isSign_8 : decode cX7_isSign 8 = .ok (.aload_n 0, 1) := by decide +kernel
theorem dX7_isSign_9 : decode cX7_isSign 9 = .ok (.getfield 16, 3) := by decide +kernel
theorem dX7_isSign_12 : decode cX7_isSign 12 = .ok (.aload_n 0, 1) := by decide +kernel
theorem dX7_isSign_13 : decode cX7_isSign 13 = .ok (.getfield 125, 3) := by decide +kernel
theorem dX7_isSign_16 : decode cX7_isSign 16 = .ok (.iaload, 1) := by decide +kernel
theorem dX7_isSign_17 : decode cX7_isSign 17 = .ok (.iload_n 1, 1) := by decide +kernel
theorem dX7_isSign_18 : decode cX7_isSign 18 = .ok (.if_icmp .ne 7, 3) := by decide +kernel
theorem dX7_isSign_21 : decode cX7_isSign 21 = .ok (.iconst 1, 1) := by decide +kernel
theorem dX7_isSign_22 : decode cX7_isSign 22 = .ok (.goto 4, 3) := by decide +kernel
theorem dX7_isSign_25 : decode cX7_isSign 25 = .ok (.iconst 0, 1) := by decide +kernel
theorem dX7_isSign_26 : decode cX7_isSign 26 = .ok (.ireturn, 1) := by decide +kernel
theorem dX7_write_0 : decode cX7_write 0 = .ok (.aload_n 0, 1) := by decide +kernel
theorem dX7_write_1 : decode cX7_write 1 = .ok (.getfield 19, 3) := by decide +kernel
theorem dX7_write_4 : decode cX7_write 4 = .ok (.sipush 160, 3) := by decide +kernel
theorem dX7_write_7 : decode cX7_write 7 = .ok (.aload_n 0, 1) := by decide +kernel
theorem dX7_write_8 : decode cX7_write 8 = .ok (.getfield 29, 3) := by decide +kernel
theorem dX7_write_11 : decode cX7_write 11 = .ok (.imul, 1) := by decide +kernel
theorem dX7_write_12 : decode cX7_write 12 = .ok (.aload_n 0, 1) := by decide +kernel
theorem dX7_write_13 : decode cX7_write 13 = .ok (.getfield 134, 3) := by decide +kernel
theorem dX7_write_16 : decode cX7_write 16 = .ok (.iadd, 1) := by decide +kernel
theorem dX7_write_17 : decode cX7_write 17 = .ok (.iload_n 1, 1) := by decide +kernel
theorem dX7_write_18 : decode cX7_write 18 = .ok (.iastore, 1) := by decide +kernel
theorem dX7_write_19 : decode cX7_write 19 = .ok (.aload_n 0, 1) := by decide +kernel
theorem dX7_write_20 : decode cX7_write 20 = .ok (.dup, 1) := by decide +kernel
theorem dX7_write_21 : decode cX7_write 21 = .ok (.getfield 134, 3) := by decide +kernel
theorem dX7_write_24 : decode cX7_write 24 = .ok (.iconst 1, 1) := by decide +kernel
theorem dX7_write_25 : decode cX7_write 25 = .ok (.iadd, 1) := by decide +kernel
theorem dX7_write_26 : decode cX7_write 26 = .ok (.putfield 134, 3) := by decide +kernel
theorem dX7_write_29 : decode cX7_write 29 = .ok (.return_, 1) := by decide +kernel
theorem dX7_rank_0 : decode cX7_rank 0 = .ok (.iload_n 0, 1) := by decide +kernel
theorem dX7_rank_1 : decode cX7_rank 1 = .ok (.ifCond .ne 7, 3) := by decide +kernel
theorem dX7_rank_4 : decode cX7_rank 4 = .ok (.iconst 0, 1) := by decide +kernel
theorem dX7_rank_5 : decode cX7_rank 5 = .ok (.goto 72, 3) := by decide +kernel
theorem dX7_rank_8 : decode cX7_rank 8 = .ok (.iload_n 0, 1) := by decide +kernel
theorem dX7_rank_9 : decode cX7_rank 9 = .ok (.bipush (-20), 2) := by decide +kernel
theorem dX7_rank_11 : decode cX7_rank 11 = .ok (.if_icmp .ne 7, 3) := by decide +kernel
theorem dX7_rank_14 : decode cX7_rank 14 = .ok (.iconst 1, 1) := by decide +kernel
theorem dX7_rank_15 : decode cX7_rank 15 = .ok (.goto 62, 3) := by decide +kernel
theorem dX7_rank_18 : decode cX7_rank 18 = .ok (.iload_n 0, 1) := by decide +kernel
theorem dX7_rank_19 : decode cX7_rank 19 = .ok (.bipush (-21), 2) := by decide +kernel
theorem dX7_rank_21 : decode cX7_rank 21 = .ok (.if_icmp .ne 7, 3) := by decide +kernel
theorem dX7_rank_24 : decode cX7_rank 24 = .ok (.iconst 2, 1) := by decide +kernel
theorem dX7_rank_25 : decode cX7_rank 25 = .ok (.goto 52, 3) := by decide +kernel
theorem dX7_rank_28 : decode cX7_rank 28 = .ok (.iload_n 0, 1) := by decide +kernel
theorem dX7_rank_29 : decode cX7_rank 29 = .ok (.bipush (-22), 2) := by decide +kernel
theorem dX7_rank_31 : decode cX7_rank 31 = .ok (.if_icmp .ne 7, 3) := by decide +kernel
theorem dX7_rank_34 : decode cX7_rank 34 = .ok (.iconst 3, 1) := by decide +kernel
theorem dX7_rank_35 : decode cX7_rank 35 = .ok (.goto 42, 3) := by decide +kernel
theorem dX7_rank_38 : decode cX7_rank 38 = .ok (.iload_n 0, 1) := by decide +kernel
theorem dX7_rank_39 : decode cX7_rank 39 = .ok (.bipush (-23), 2) := by decide +kernel
theorem dX7_rank_41 : decode cX7_rank 41 = .ok (.if_icmp .eq 9, 3) := by decide +kernel
theorem dX7_rank_44 : decode cX7_rank 44 = .ok (.iload_n 0, 1) := by decide +kernel
theorem dX7_rank_45 : decode cX7_rank 45 = .ok (.bipush (-24), 2) := by decide +kernel
theorem dX7_rank_47 : decode cX7_rank 47 = .ok (.if_icmp .ne 7, 3) := by decide +kernel
theorem dX7_rank_50 : decode cX7_rank 50 = .ok (.iconst 4, 1) := by decide +kernel
theorem dX7_rank_51 : decode cX7_rank 51 = .ok (.goto 26, 3) := by decide +kernel
theorem dX7_rank_54 : decode cX7_rank 54 = .ok (.iload_n 0, 1) := by decide +kernel
theorem dX7_rank_55 : decode cX7_rank 55 = .ok (.bipush (-27), 2) := by decide +kernel
theorem dX7_rank_57 : decode cX7_rank 57 = .ok (.if_icmp .ne 8, 3) := by decide +kernel
theorem dX7_rank_60 : decode cX7_rank 60 = .ok (.bipush 6, 2) := by decide +kernel
theorem dX7_rank_62 : decode cX7_rank 62 = .ok (.goto 15, 3) := by decide +kernel
theorem dX7_rank_65 : decode cX7_rank 65 = .ok (.iload_n 0, 1) := by decide +kernel
theorem dX7_rank_66 : decode cX7_rank 66 = .ok (.bipush (-28), 2) := by decide +kernel
theorem dX7_rank_68 : decode cX7_rank 68 = .ok (.if_icmp .ne 8, 3) := by decide +kernel
theorem dX7_rank_71 : decode cX7_rank 71 = .ok (.bipush 7, 2) := by decide +kernel
theorem dX7_rank_73 : decode cX7_rank 73 = .ok (.goto 4, 3) := by decide +kernel
theorem dX7_rank_76 : decode cX7_rank 76 = .ok (.iconst 5, 1) := by decide +kernel
theorem dX7_rank_77 : decode cX7_rank 77 = .ok (.ireturn, 1) := by decide +kernel
theorem dX7_await_0 : decode cX7_await 0 = .ok (.aload_n 0, 1) := by decide +kernel
theorem dX7_await_1 : decode cX7_await 1 = .ok (.getfield 37, 3) := by decide +kernel
theorem dX7_await_4 : decode cX7_await 4 = .ok (.aload_n 0, 1) := by decide +kernel
theorem dX7_await_5 : decode cX7_await 5 = .ok (.getfield 137, 3) := by decide +kernel
theorem dX7_await_8 : decode cX7_await 8 = .ok (.iload_n 1, 1) := by decide +kernel
theorem dX7_await_9 : decode cX7_await 9 = .ok (.iastore, 1) := by decide +kernel
theorem dX7_await_10 : decode cX7_await 10 = .ok (.aload_n 0, 1) := by decide +kernel
theorem dX7_await_11 : decode cX7_await 11 = .ok (.dup, 1) := by decide +kernel
theorem dX7_await_12 : decode cX7_await 12 = .ok (.getfield 137, 3) := by decide +kernel
theorem dX7_await_15 : decode cX7_await 15 = .ok (.iconst 1, 1) := by decide +kernel
theorem dX7_await_16 : decode cX7_await 16 = .ok (.iadd, 1) := by decide +kernel
theorem dX7_await_17 : decode cX7_await 17 = .ok (.putfield 137, 3) := by decide +kernel
theorem dX7_await_20 : decode cX7_await 20 = .ok (.return_, 1) := by decide +kernel
theorem dX7_last_0 : decode cX7_last 0 = .ok (.aload_n 0, 1) := by decide +kernel
theorem dX7_last_1 : decode cX7_last 1 = .ok (.getfield 137, 3) := by decide +kernel
theorem dX7_last_4 : decode cX7_last 4 = .ok (.ifCond .ne 7, 3) := by decide +kernel
theorem dX7_last_7 : decode cX7_last 7 = .ok (.iconst 0, 1) := by decide +kernel
theorem dX7_last_8 : decode cX7_last 8 = .ok (.goto 17, 3) := by decide +kernel
theorem dX7_last_11 : decode cX7_last 11 = .ok (.aload_n 0, 1) := by decide +kernel
theorem dX7_last_12 : decode cX7_last 12 = .ok (.getfield 37, 3) := by decide +kernel
theorem dX7_last_15 : decode cX7_last 15 = .ok (.aload_n 0, 1) := by decide +kernel
theorem dX7_last_16 : decode cX7_last 16 = .ok (.getfield 137, 3) := by decide +kernel
theorem dX7_last_19 : decode cX7_last 19 = .ok (.iconst 1, 1) := by decide +kernel
theorem dX7_last_20 : decode cX7_last 20 = .ok (.isub, 1) := by decide +kernel
theorem dX7_last_21 : decode cX7_last 21 = .ok (.iaload, 1) := by decide +kernel
theorem dX7_last_22 : decode cX7_last 22 = .ok (.invokestatic 140, 3) := by decide +kernel
theorem dX7_last_25 : decode cX7_last 25 = .ok (.ireturn, 1) := by decide +kernel
theorem dX7_settle_0 : decode cX7_settle 0 = .ok (.aload_n 0, 1) := by decide +kernel
theorem dX7_settle_1 : decode cX7_settle 1 = .ok (.invokevirtual 143, 3) := by decide +kernel
theorem dX7_settle_4 : decode cX7_settle 4 = .ok (.ifCond .le 79, 3) := by decide +kernel
theorem dX7_settle_7 : decode cX7_settle 7 = .ok (.aload_n 0, 1) := by decide +kernel
theorem dX7_settle_8 : decode cX7_settle 8 = .ok (.invokevirtual 143, 3) := by decide +kernel
theorem dX7_settle_11 : decode cX7_settle 11 = .ok (.iload_n 1, 1) := by decide +kernel
theorem dX7_settle_12 : decode cX7_settle 12 = .ok (.if_icmp .lt 71, 3) := by decide +kernel
theorem dX7_settle_15 : decode cX7_settle 15 = .ok (.aload_n 0, 1) := by decide +kernel
theorem dX7_settle_16 : decode cX7_settle 16 = .ok (.dup, 1) := by decide +kernel
theorem dX7_settle_17 : decode cX7_settle 17 = .ok (.getfield 137, 3) := by decide +kernel
theorem dX7_settle_20 : decode cX7_settle 20 = .ok (.iconst 1, 1) := by decide +kernel
theorem dX7_settle_21 : decode cX7_settle 21 = .ok (.isub, 1) := by decide +kernel
theorem dX7_settle_22 : decode cX7_settle 22 = .ok (.putfield 137, 3) := by decide +kernel
theorem dX7_settle_25 : decode cX7_settle 25 = .ok (.aload_n 0, 1) := by decide +kernel
theorem dX7_settle_26 : decode cX7_settle 26 = .ok (.aload_n 0, 1) := by decide +kernel
theorem dX7_settle_27 : decode cX7_settle 27 = .ok (.getfield 37, 3) := by decide +kernel
theorem dX7_settle_30 : decode cX7_settle 30 = .ok (.aload_n 0, 1) := by decide +kernel
theorem dX7_settle_31 : decode cX7_settle 31 = .ok (.getfield 137, 3) := by decide +kernel
theorem dX7_settle_34 : decode cX7_settle 34 = .ok (.iaload, 1) := by decide +kernel
theorem dX7_settle_35 : decode cX7_settle 35 = .ok (.invokevirtual 146, 3) := by decide +kernel
theorem dX7_settle_38 : decode cX7_settle 38 = .ok (.aload_n 0, 1) := by decide +kernel
theorem dX7_settle_39 : decode cX7_settle 39 = .ok (.dup, 1) := by decide +kernel
theorem dX7_settle_40 : decode cX7_settle 40 = .ok (.getfield 149, 3) := by decide +kernel
theorem dX7_settle_43 : decode cX7_settle 43 = .ok (.aload_n 0, 1) := by decide +kernel
theorem dX7_settle_44 : decode cX7_settle 44 = .ok (.getfield 37, 3) := by decide +kernel
theorem dX7_settle_47 : decode cX7_settle 47 = .ok (.aload_n 0, 1) := by decide +kernel
theorem dX7_settle_48 : decode cX7_settle 48 = .ok (.getfield 137, 3) := by decide +kernel
theorem dX7_settle_51 : decode cX7_settle 51 = .ok (.iaload, 1) := by decide +kernel
theorem dX7_settle_52 : decode cX7_settle 52 = .ok (.bipush (-22), 2) := by decide +kernel
theorem dX7_settle_54 : decode cX7_settle 54 = .ok (.if_icmp .eq 17, 3) := by decide +kernel
theorem dX7_settle_57 : decode cX7_settle 57 = .ok (.aload_n 0, 1) := by decide +kernel
theorem dX7_settle_58 : decode cX7_settle 58 = .ok (.getfield 37, 3) := by decide +kernel
theorem dX7_settle_61 : decode cX7_settle 61 = .ok (.aload_n 0, 1) := by decide +kernel
theorem dX7_settle_62 : decode cX7_settle 62 = .ok (.getfield 137, 3) := by decide +kernel
theorem dX7_settle_65 : decode cX7_settle 65 = .ok (.iaload, 1) := by decide +kernel
theorem dX7_settle_66 : decode cX7_settle 66 = .ok (.bipush (-28), 2) := by decide +kernel
theorem dX7_settle_68 : decode cX7_settle 68 = .ok (.if_icmp .ne 7, 3) := by decide +kernel
theorem dX7_settle_71 : decode cX7_settle 71 = .ok (.iconst 1, 1) := by decide +kernel
theorem dX7_settle_72 : decode cX7_settle 72 = .ok (.goto 4, 3) := by decide +kernel
theorem dX7_settle_75 : decode cX7_settle 75 = .ok (.iconst 0, 1) := by decide +kernel
theorem dX7_settle_76 : decode cX7_settle 76 = .ok (.isub, 1) := by decide +kernel
theorem dX7_settle_77 : decode cX7_settle 77 = .ok (.putfield 149, 3) := by decide +kernel
theorem dX7_settle_80 : decode cX7_settle 80 = .ok (.goto (-80), 3) := by decide +kernel
theorem dX7_settle_83 : decode cX7_settle 83 = .ok (.return_, 1) := by decide +kernel
theorem dX7_between_0 : decode cX7_between 0 = .ok (.aload_n 0, 1) := by decide +kernel
theorem dX7_between_1 : decode cX7_between 1 = .ok (.invokevirtual 152, 3) := by decide +kernel
theorem dX7_between_4 : decode cX7_between 4 = .ok (.istore_n 1, 1) := by decide +kernel
theorem dX7_between_5 : decode cX7_between 5 = .ok (.iload_n 1, 1) := by decide +kernel
theorem dX7_between_6 : decode cX7_between 6 = .ok (.bipush 9, 2) := by decide +kernel
theorem dX7_between_8 : decode cX7_between 8 = .ok (.if_icmp .ne 8, 3) := by decide +kernel
theorem dX7_between_11 : decode cX7_between 11 = .ok (.bipush (-20), 2) := by decide +kernel
theorem dX7_between_13 : decode cX7_between 13 = .ok (.goto 85, 3) := by decide +kernel
theorem dX7_between_16 : decode cX7_between 16 = .ok (.iload_n 1, 1) := by decide +kernel
theorem dX7_between_17 : decode cX7_between 17 = .ok (.bipush 10, 2) := by decide +kernel
theorem dX7_between_19 : decode cX7_between 19 = .ok (.if_icmp .ne 8, 3) := by decide +kernel
theorem dX7_between_22 : decode cX7_between 22 = .ok (.bipush (-21), 2) := by decide +kernel
theorem dX7_between_24 : decode cX7_between 24 = .ok (.goto 74, 3) := by decide +kernel
theorem dX7_between_27 : decode cX7_between 27 = .ok (.aload_n 0, 1) := by decide +kernel
theorem dX7_between_28 : decode cX7_between 28 = .ok (.bipush 60, 2) := by decide +kernel
theorem dX7_between_30 : decode cX7_between 30 = .ok (.invokevirtual 155, 3) := by decide +kernel
theorem dX7_between_33 : decode cX7_between 33 = .ok (.ifCond .eq 8, 3) := by decide +kernel
theorem dX7_between_36 : decode cX7_between 36 = .ok (.bipush (-23), 2) := by decide +kernel
theorem dX7_between_38 : decode cX7_between 38 = .ok (.goto 60, 3) := by decide +kernel
theorem dX7_between_41 : decode cX7_between 41 = .ok (.aload_n 0, 1) := by decide +kernel
theorem dX7_between_42 : decode cX7_between 42 = .ok (.bipush 61, 2) := by decide +kernel
theorem dX7_between_44 : decode cX7_between 44 = .ok (.invokevirtual 155, 3) := by decide +kernel
theorem dX7_between_47 : decode cX7_between 47 = .ok (.ifCond .eq 8, 3) := by decide +kernel
theorem dX7_between_50 : decode cX7_between 50 = .ok (.bipush (-24), 2) := by decide +kernel
theorem dX7_between_52 : decode cX7_between 52 = .ok (.goto 46, 3) := by decide +kernel
theorem dX7_between_55 : decode cX7_between 55 = .ok (.aload_n 0, 1) := by decide +kernel
theorem dX7_between_56 : decode cX7_between 56 = .ok (.bipush 43, 2) := by decide +kernel
theorem dX7_between_58 : decode cX7_between 58 = .ok (.invokevirtual 155, 3) := by decide +kernel
theorem dX7_between_61 : decode cX7_between 61 = .ok (.ifCond .eq 8, 3) := by decide +kernel
theorem dX7_between_64 : decode cX7_between 64 = .ok (.bipush (-25), 2) := by decide +kernel
theorem dX7_between_66 : decode cX7_between 66 = .ok (.goto 32, 3) := by decide +kernel
theorem dX7_between_69 : decode cX7_between 69 = .ok (.aload_n 0, 1) := by decide +kernel
theorem dX7_between_70 : decode cX7_between 70 = .ok (.bipush 45, 2) := by decide +kernel
theorem dX7_between_72 : decode cX7_between 72 = .ok (.invokevirtual 155, 3) := by decide +kernel
theorem dX7_between_75 : decode cX7_between 75 = .ok (.ifCond .eq 8, 3) := by decide +kernel
theorem dX7_between_78 : decode cX7_between 78 = .ok (.bipush (-26), 2) := by decide +kernel
theorem dX7_between_80 : decode cX7_between 80 = .ok (.goto 18, 3) := by decide +kernel
theorem dX7_between_83 : decode cX7_between 83 = .ok (.aload_n 0, 1) := by decide +kernel
theorem dX7_between_84 : decode cX7_between 84 = .ok (.bipush 42, 2) := by decide +kernel
theorem dX7_between_86 : decode cX7_between 86 = .ok (.invokevirtual 155, 3) := by decide +kernel
theorem dX7_between_89 : decode cX7_between 89 = .ok (.ifCond .eq 8, 3) := by decide +kernel
theorem dX7_between_92 : decode cX7_between 92 = .ok (.bipush (-27), 2) := by decide +kernel
theorem dX7_between_94 : decode cX7_between 94 = .ok (.goto 4, 3) := by decide +kernel
theorem dX7_between_97 : decode cX7_between 97 = .ok (.iconst 0, 1) := by decide +kernel
theorem dX7_between_98 : decode cX7_between 98 = .ok (.ireturn, 1) := by decide +kernel
theorem dX7_numberThere_0 : decode cX7_numberThere 0 = .ok (.iconst 0, 1) := by decide +kernel
theorem dX7_numberThere_1 : decode cX7_numberThere 1 = .ok (.istore_n 1, 1) := by decide +kernel
theorem dX7_numberThere_2 : decode cX7_numberThere 2 = .ok (.aload_n 0, 1) := by decide +kernel
theorem dX7_numberThere_3 : decode cX7_numberThere 3 = .ok (.getfield 125, 3) := by decide +kernel
theorem dX7_numberThere_6 : decode cX7_numberThere 6 = .ok (.istore_n 2, 1) := by decide +kernel
theorem dX7_numberThere_7 : decode cX7_numberThere 7 = .ok (.iload_n 2, 1) := by decide +kernel
theorem dX7_numberThere_8 : decode cX7_numberThere 8 = .ok (.aload_n 0, 1) := by decide +kernel
theorem dX7_numberThere_9 : decode cX7_numberThere 9 = .ok (.getfield 122, 3) := by decide +kernel
theorem dX7_numberThere_12 : decode cX7_numberThere 12 = .ok (.if_icmp .ge 24, 3) := by decide +kernel
theorem dX7_numberThere_15 : decode cX7_numberThere 15 = .ok (.bipush 10, 2) := by decide +kernel
theorem dX7_numberThere_17 : decode cX7_numberThere 17 = .ok (.iload_n 1, 1) := by decide +kernel
theorem dX7_numberThere_18 : decode cX7_numberThere 18 = .ok (.imul, 1) := by decide +kernel
theorem dX7_numberThere_19 : decode cX7_numberThere 19 = .ok (.aload_n 0, 1) := by decide +kernel
theorem dX7_numberThere_20 : decode cX7_numberThere 20 = .ok (.getfield 16, 3) := by decide +kernel
theorem dX7_numberThere_23 : decode cX7_numberThere 23 = .ok (.iload_n 2, 1) := by decide +kernel
theorem dX7_numberThere_24 : decode cX7_numberThere 24 = .ok (.iaload, 1) := by decide +kernel
theorem dX7_numberThere_25 : decode cX7_numberThere 25 = .ok (.iadd, 1) := by decide +kernel
theorem dX7_numberThere_26 : decode cX7_numberThere 26 = .ok (.bipush 48, 2) := by decide +kernel
theorem dX7_numberThere_28 : decode cX7_numberThere 28 = .ok (.isub, 1) := by decide +kernel
theorem dX7_numberThere_29 : decode cX7_numberThere 29 = .ok (.istore_n 1, 1) := by decide +kernel
theorem dX7_numberThere_30 : decode cX7_numberThere 30 = .ok (.iinc 2 1, 3) := by decide +kernel
theorem dX7_numberThere_33 : decode cX7_numberThere 33 = .ok (.goto (-26), 3) := by decide +kernel
theorem dX7_numberThere_36 : decode cX7_numberThere 36 = .ok (.iload_n 1, 1) := by decide +kernel
theorem dX7_numberThere_37 : decode cX7_numberThere 37 = .ok (.ireturn, 1) := by decide +kernel
theorem dX7_begin_0 : decode cX7_begin 0 = .ok (.aload_n 0, 1) := by decide +kernel
theorem dX7_begin_1 : decode cX7_begin 1 = .ok (.invokevirtual 152, 3) := by decide +kernel
theorem dX7_begin_4 : decode cX7_begin 4 = .ok (.istore_n 1, 1) := by decide +kernel
theorem dX7_begin_5 : decode cX7_begin 5 = .ok (.iload_n 1, 1) := by decide +kernel
theorem dX7_begin_6 : decode cX7_begin 6 = .ok (.iconst 0, 1) := by decide +kernel
theorem dX7_begin_7 : decode cX7_begin 7 = .ok (.iconst 5, 1) := by decide +kernel
theorem dX7_begin_8 : decode cX7_begin 8 = .ok (.invokestatic 78, 3) := by decide +kernel
theorem dX7_begin_11 : decode cX7_begin 11 = .ok (.ifCond .eq 13, 3) := by decide +kernel
theorem dX7_begin_14 : decode cX7_begin 14 = .ok (.aload_n 0, 1) := by decide +kernel
theorem dX7_begin_15 : decode cX7_begin 15 = .ok (.bipush (-10), 2) := by decide +kernel
theorem dX7_begin_17 : decode cX7_begin 17 = .ok (.iload_n 1, 1) := by decide +kernel
theorem dX7_begin_18 : decode cX7_begin 18 = .ok (.isub, 1) := by decide +kernel
theorem dX7_begin_19 : decode cX7_begin 19 = .ok (.invokevirtual 146, 3) := by decide +kernel
theorem dX7_begin_22 : decode cX7_begin 22 = .ok (.iconst 1, 1) := by decide +kernel
theorem dX7_begin_23 : decode cX7_begin 23 = .ok (.ireturn, 1) := by decide +kernel
theorem dX7_begin_24 : decode cX7_begin 24 = .ok (.aload_n 0, 1) := by decide +kernel
theorem dX7_begin_25 : decode cX7_begin 25 = .ok (.getfield 131, 3) := by decide +kernel
theorem dX7_begin_28 : decode cX7_begin 28 = .ok (.iconst 2, 1) := by decide +kernel
theorem dX7_begin_29 : decode cX7_begin 29 = .ok (.if_icmp .ne 26, 3) := by decide +kernel
theorem dX7_begin_32 : decode cX7_begin 32 = .ok (.aload_n 0, 1) := by decide +kernel
theorem dX7_begin_33 : decode cX7_begin 33 = .ok (.getfield 122, 3) := by decide +kernel
theorem dX7_begin_36 : decode cX7_begin 36 = .ok (.aload_n 0, 1) := by decide +kernel
theorem dX7_begin_37 : decode cX7_begin 37 = .ok (.getfield 125, 3) := by decide +kernel
theorem dX7_begin_40 : decode cX7_begin 40 = .ok (.isub, 1) := by decide +kernel
theorem dX7_begin_41 : decode cX7_begin 41 = .ok (.iconst 4, 1) := by decide +kernel
theorem dX7_begin_42 : decode cX7_begin 42 = .ok (.if_icmp .gt 13, 3) := by decide +kernel
theorem dX7_begin_45 : decode cX7_begin 45 = .ok (.aload_n 0, 1) := by decide +kernel
theorem dX7_begin_46 : decode cX7_begin 46 = .ok (.aload_n 0, 1) := by decide +kernel
theorem dX7_begin_47 : decode cX7_begin 47 = .ok (.invokevirtual 158, 3) := by decide +kernel
theorem dX7_begin_50 : decode cX7_begin 50 = .ok (.invokevirtual 146, 3) := by decide +kernel
theorem dX7_begin_53 : decode cX7_begin 53 = .ok (.iconst 1, 1) := by decide +kernel
theorem dX7_begin_54 : decode cX7_begin 54 = .ok (.ireturn, 1) := by decide +kernel
theorem dX7_begin_55 : decode cX7_begin 55 = .ok (.aload_n 0, 1) := by decide +kernel
theorem dX7_begin_56 : decode cX7_begin 56 = .ok (.bipush 40, 2) := by decide +kernel
theorem dX7_begin_58 : decode cX7_begin 58 = .ok (.invokevirtual 155, 3) := by decide +kernel
theorem dX7_begin_61 : decode cX7_begin 61 = .ok (.ifCond .eq 7, 3) := by decide +kernel
theorem dX7_begin_64 : decode cX7_begin 64 = .ok (.iconst 0, 1) := by decide +kernel
theorem dX7_begin_65 : decode cX7_begin 65 = .ok (.goto 38, 3) := by decide +kernel
theorem dX7_begin_68 : decode cX7_begin 68 = .ok (.aload_n 0, 1) := by decide +kernel
theorem dX7_begin_69 : decode cX7_begin 69 = .ok (.bipush 45, 2) := by decide +kernel
theorem dX7_begin_71 : decode cX7_begin 71 = .ok (.invokevirtual 155, 3) := by decide +kernel
theorem dX7_begin_74 : decode cX7_begin 74 = .ok (.ifCond .eq 8, 3) := by decide +kernel
theorem dX7_begin_77 : decode cX7_begin 77 = .ok (.bipush (-28), 2) := by decide +kernel
theorem dX7_begin_79 : decode cX7_begin 79 = .ok (.goto 24, 3) := by decide +kernel
theorem dX7_begin_82 : decode cX7_begin 82 = .ok (.iload_n 1, 1) := by decide +kernel
theorem dX7_begin_83 : decode cX7_begin 83 = .ok (.bipush 11, 2) := by decide +kernel
theorem dX7_begin_85 : decode cX7_begin 85 = .ok (.if_icmp .ne 16, 3) := by decide +kernel
theorem dX7_begin_88 : decode cX7_begin 88 = .ok (.aload_n 0, 1) := by decide +kernel
theorem dX7_begin_89 : decode cX7_begin 89 = .ok (.invokevirtual 143, 3) := by decide +kernel
theorem dX7_begin_92 : decode cX7_begin 92 = .ok (.iconst 3, 1) := by decide +kernel
theorem dX7_begin_93 : decode cX7_begin 93 = .ok (.if_icmp .gt 8, 3) := by decide +kernel
theorem dX7_begin_96 : decode cX7_begin 96 = .ok (.bipush (-22), 2) := by decide +kernel
theorem dX7_begin_98 : decode cX7_begin 98 = .ok (.goto 5, 3) := by decide +kernel
theorem dX7_begin_101 : decode cX7_begin 101 = .ok (.bipush (-25), 2) := by decide +kernel
theorem dX7_begin_103 : decode cX7_begin 103 = .ok (.istore_n 2, 1) := by decide +kernel
theorem dX7_begin_104 : decode cX7_begin 104 = .ok (.iload_n 2, 1) := by decide +kernel
theorem dX7_begin_105 : decode cX7_begin 105 = .ok (.bipush (-25), 2) := by decide +kernel
theorem dX7_begin_107 : decode cX7_begin 107 = .ok (.if_icmp .eq 11, 3) := by decide +kernel
theorem dX7_begin_110 : decode cX7_begin 110 = .ok (.aload_n 0, 1) := by decide +kernel
theorem dX7_begin_111 : decode cX7_begin 111 = .ok (.getfield 149, 3) := by decide +kernel
theorem dX7_begin_114 : decode cX7_begin 114 = .ok (.iconst 5, 1) := by decide +kernel
theorem dX7_begin_115 : decode cX7_begin 115 = .ok (.if_icmp .ne 5, 3) := by decide +kernel
theorem dX7_begin_118 : decode cX7_begin 118 = .ok (.iconst 0, 1) := by decide +kernel
theorem dX7_begin_119 : decode cX7_begin 119 = .ok (.ireturn, 1) := by decide +kernel
theorem dX7_begin_120 : decode cX7_begin 120 = .ok (.aload_n 0, 1) := by decide +kernel
theorem dX7_begin_121 : decode cX7_begin 121 = .ok (.dup, 1) := by decide +kernel
theorem dX7_begin_122 : decode cX7_begin 122 = .ok (.getfield 149, 3) := by decide +kernel
theorem dX7_begin_125 : decode cX7_begin 125 = .ok (.iconst 1, 1) := by decide +kernel
theorem dX7_begin_126 : decode cX7_begin 126 = .ok (.iadd, 1) := by decide +kernel
theorem dX7_begin_127 : decode cX7_begin 127 = .ok (.putfield 149, 3) := by decide +kernel
theorem dX7_begin_130 : decode cX7_begin 130 = .ok (.aload_n 0, 1) := by decide +kernel
theorem dX7_begin_131 : decode cX7_begin 131 = .ok (.iload_n 2, 1) := by decide +kernel
theorem dX7_begin_132 : decode cX7_begin 132 = .ok (.invokevirtual 161, 3) := by decide +kernel
theorem dX7_begin_135 : decode cX7_begin 135 = .ok (.iconst 2, 1) := by decide +kernel
theorem dX7_begin_136 : decode cX7_begin 136 = .ok (.ireturn, 1) := by decide +kernel
theorem dX7_isE_0 : decode cX7_isE 0 = .ok (.aload_n 0, 1) := by decide +kernel
theorem dX7_isE_1 : decode cX7_isE 1 = .ok (.iconst 0, 1) := by decide +kernel
theorem dX7_isE_2 : decode cX7_isE 2 = .ok (.putfield 137, 3) := by decide +kernel
theorem dX7_isE_5 : decode cX7_isE 5 = .ok (.aload_n 0, 1) := by decide +kernel
theorem dX7_isE_6 : decode cX7_isE 6 = .ok (.invokevirtual 164, 3) := by decide +kernel
theorem dX7_isE_9 : decode cX7_isE 9 = .ok (.istore_n 1, 1) := by decide +kernel
theorem dX7_isE_10 : decode cX7_isE 10 = .ok (.iload_n 1, 1) := by decide +kernel
theorem dX7_isE_11 : decode cX7_isE 11 = .ok (.iconst 2, 1) := by decide +kernel
theorem dX7_isE_12 : decode cX7_isE 12 = .ok (.if_icmp .ne 15, 3) := by decide +kernel
theorem dX7_isE_15 : decode cX7_isE 15 = .ok (.aload_n 0, 1) := by decide +kernel
theorem dX7_isE_16 : decode cX7_isE 16 = .ok (.invokevirtual 167, 3) := by decide +kernel
theorem dX7_isE_19 : decode cX7_isE 19 = .ok (.aload_n 0, 1) := by decide +kernel
theorem dX7_isE_20 : decode cX7_isE 20 = .ok (.invokevirtual 164, 3) := by decide +kernel
theorem dX7_isE_23 : decode cX7_isE 23 = .ok (.istore_n 1, 1) := by decide +kernel
theorem dX7_isE_24 : decode cX7_isE 24 = .ok (.goto (-14), 3) := by decide +kernel
theorem dX7_isE_27 : decode cX7_isE 27 = .ok (.iload_n 1, 1) := by decide +kernel
theorem dX7_isE_28 : decode cX7_isE 28 = .ok (.ifCond .ne 5, 3) := by decide +kernel
theorem dX7_isE_31 : decode cX7_isE 31 = .ok (.iconst 0, 1) := by decide +kernel
theorem dX7_isE_32 : decode cX7_isE 32 = .ok (.ireturn, 1) := by decide +kernel
theorem dX7_isE_33 : decode cX7_isE 33 = .ok (.aload_n 0, 1) := by decide +kernel
theorem dX7_isE_34 : decode cX7_isE 34 = .ok (.bipush 7, 2) := by decide +kernel
theorem dX7_isE_36 : decode cX7_isE 36 = .ok (.invokevirtual 170, 3) := by decide +kernel
theorem dX7_isE_39 : decode cX7_isE 39 = .ok (.aload_n 0, 1) := by decide +kernel
theorem dX7_isE_40 : decode cX7_isE 40 = .ok (.invokevirtual 167, 3) := by decide +kernel
theorem dX7_isE_43 : decode cX7_isE 43 = .ok (.aload_n 0, 1) := by decide +kernel
theorem dX7_isE_44 : decode cX7_isE 44 = .ok (.bipush 41, 2) := by decide +kernel
theorem dX7_isE_46 : decode cX7_isE 46 = .ok (.invokevirtual 155, 3) := by decide +kernel
theorem dX7_isE_49 : decode cX7_isE 49 = .ok (.ifCond .eq 50, 3) := by decide +kernel
theorem dX7_isE_52 : decode cX7_isE 52 = .ok (.aload_n 0, 1) := by decide +kernel
theorem dX7_isE_53 : decode cX7_isE 53 = .ok (.iconst 1, 1) := by decide +kernel
theorem dX7_isE_54 : decode cX7_isE 54 = .ok (.invokevirtual 170, 3) := by decide +kernel
theorem dX7_isE_57 : decode cX7_isE 57 = .ok (.aload_n 0, 1) := by decide +kernel
theorem dX7_isE_58 : decode cX7_isE 58 = .ok (.getfield 137, 3) := by decide +kernel
theorem dX7_isE_61 : decode cX7_isE 61 = .ok (.ifCond .ne 5, 3) := by decide +kernel
theorem dX7_isE_64 : decode cX7_isE 64 = .ok (.iconst 0, 1) := by decide +kernel
theorem dX7_isE_65 : decode cX7_isE 65 = .ok (.ireturn, 1) := by decide +kernel
theorem dX7_isE_66 : decode cX7_isE 66 = .ok (.aload_n 0, 1) := by decide +kernel
theorem dX7_isE_67 : decode cX7_isE 67 = .ok (.dup, 1) := by decide +kernel
theorem dX7_isE_68 : decode cX7_isE 68 = .ok (.getfield 137, 3) := by decide +kernel
theorem dX7_isE_71 : decode cX7_isE 71 = .ok (.iconst 1, 1) := by decide +kernel
theorem dX7_isE_72 : decode cX7_isE 72 = .ok (.isub, 1) := by decide +kernel
theorem dX7_isE_73 : decode cX7_isE 73 = .ok (.putfield 137, 3) := by decide +kernel
theorem dX7_isE_76 : decode cX7_isE 76 = .ok (.aload_n 0, 1) := by decide +kernel
theorem dX7_isE_77 : decode cX7_isE 77 = .ok (.dup, 1) := by decide +kernel
theorem dX7_isE_78 : decode cX7_isE 78 = .ok (.getfield 149, 3) := by decide +kernel
theorem dX7_isE_81 : decode cX7_isE 81 = .ok (.iconst 1, 1) := by decide +kernel
theorem dX7_isE_82 : decode cX7_isE 82 = .ok (.isub, 1) := by decide +kernel
theorem dX7_isE_83 : decode cX7_isE 83 = .ok (.putfield 149, 3) := by decide +kernel
theorem dX7_isE_86 : decode cX7_isE 86 = .ok (.aload_n 0, 1) := by decide +kernel
theorem dX7_isE_87 : decode cX7_isE 87 = .ok (.bipush 7, 2) := by decide +kernel
theorem dX7_isE_89 : decode cX7_isE 89 = .ok (.invokevirtual 170, 3) := by decide +kernel
theorem dX7_isE_92 : decode cX7_isE 92 = .ok (.aload_n 0, 1) := by decide +kernel
theorem dX7_isE_93 : decode cX7_isE 93 = .ok (.invokevirtual 167, 3) := by decide +kernel
theorem dX7_isE_96 : decode cX7_isE 96 = .ok (.goto (-53), 3) := by decide +kernel
theorem dX7_isE_99 : decode cX7_isE 99 = .ok (.aload_n 0, 1) := by decide +kernel
theorem dX7_isE_100 : decode cX7_isE 100 = .ok (.invokevirtual 173, 3) := by decide +kernel
theorem dX7_isE_103 : decode cX7_isE 103 = .ok (.istore_n 2, 1) := by decide +kernel
theorem dX7_isE_104 : decode cX7_isE 104 = .ok (.iload_n 2, 1) := by decide +kernel
theorem dX7_isE_105 : decode cX7_isE 105 = .ok (.ifCond .ne 21, 3) := by decide +kernel
theorem dX7_isE_108 : decode cX7_isE 108 = .ok (.aload_n 0, 1) := by decide +kernel
theorem dX7_isE_109 : decode cX7_isE 109 = .ok (.iconst 1, 1) := by decide +kernel
theorem dX7_isE_110 : decode cX7_isE 110 = .ok (.invokevirtual 170, 3) := by decide +kernel
theorem dX7_isE_113 : decode cX7_isE 113 = .ok (.aload_n 0, 1) := by decide +kernel
theorem dX7_isE_114 : decode cX7_isE 114 = .ok (.getfield 137, 3) := by decide +kernel
theorem dX7_isE_117 : decode cX7_isE 117 = .ok (.ifCond .ne 7, 3) := by decide +kernel
theorem dX7_isE_120 : decode cX7_isE 120 = .ok (.iconst 1, 1) := by decide +kernel
theorem dX7_isE_121 : decode cX7_isE 121 = .ok (.goto 4, 3) := by decide +kernel
theorem dX7_isE_124 : decode cX7_isE 124 = .ok (.iconst 0, 1) := by decide +kernel
theorem dX7_isE_125 : decode cX7_isE 125 = .ok (.ireturn, 1) := by decide +kernel
theorem dX7_isE_126 : decode cX7_isE 126 = .ok (.aload_n 0, 1) := by decide +kernel
theorem dX7_isE_127 : decode cX7_isE 127 = .ok (.iload_n 2, 1) := by decide +kernel
theorem dX7_isE_128 : decode cX7_isE 128 = .ok (.invokestatic 140, 3) := by decide +kernel
theorem dX7_isE_131 : decode cX7_isE 131 = .ok (.iconst 4, 1) := by decide +kernel
theorem dX7_isE_132 : decode cX7_isE 132 = .ok (.if_icmp .ne 7, 3) := by decide +kernel
theorem dX7_isE_135 : decode cX7_isE 135 = .ok (.iconst 5, 1) := by decide +kernel
theorem dX7_isE_136 : decode cX7_isE 136 = .ok (.goto 7, 3) := by decide +kernel
theorem dX7_isE_139 : decode cX7_isE 139 = .ok (.iload_n 2, 1) := by decide +kernel
theorem dX7_isE_140 : decode cX7_isE 140 = .ok (.invokestatic 140, 3) := by decide +kernel
theorem dX7_isE_143 : decode cX7_isE 143 = .ok (.invokevirtual 170, 3) := by decide +kernel
theorem dX7_isE_146 : decode cX7_isE 146 = .ok (.iload_n 2, 1) := by decide +kernel
theorem dX7_isE_147 : decode cX7_isE 147 = .ok (.invokestatic 140, 3) := by decide +kernel
theorem dX7_isE_150 : decode cX7_isE 150 = .ok (.iconst 4, 1) := by decide +kernel
theorem dX7_isE_151 : decode cX7_isE 151 = .ok (.if_icmp .ne 13, 3) := by decide +kernel
theorem dX7_isE_154 : decode cX7_isE 154 = .ok (.aload_n 0, 1) := by decide +kernel
theorem dX7_isE_155 : decode cX7_isE 155 = .ok (.invokevirtual 143, 3) := by decide +kernel
theorem dX7_isE_158 : decode cX7_isE 158 = .ok (.iconst 4, 1) := by decide +kernel
theorem dX7_isE_159 : decode cX7_isE 159 = .ok (.if_icmp .ne 5, 3) := by decide +kernel
theorem dX7_isE_162 : decode cX7_isE 162 = .ok (.iconst 0, 1) := by decide +kernel
theorem dX7_isE_163 : decode cX7_isE 163 = .ok (.ireturn, 1) := by decide +kernel
theorem dX7_isE_164 : decode cX7_isE 164 = .ok (.aload_n 0, 1) := by decide +kernel
theorem dX7_isE_165 : decode cX7_isE 165 = .ok (.iload_n 2, 1) := by decide +kernel
theorem dX7_isE_166 : decode cX7_isE 166 = .ok (.invokevirtual 161, 3) := by decide +kernel
theorem dX7_isE_169 : decode cX7_isE 169 = .ok (.aload_n 0, 1) := by decide +kernel
theorem dX7_isE_170 : decode cX7_isE 170 = .ok (.invokevirtual 167, 3) := by decide +kernel
theorem dX7_isE_173 : decode cX7_isE 173 = .ok (.goto (-168), 3) := by decide +kernel
theorem dX7_isText_0 : decode cX7_isText 0 = .ok (.aload_n 0, 1) := by decide +kernel
theorem dX7_isText_1 : decode cX7_isText 1 = .ok (.invokevirtual 167, 3) := by decide +kernel
theorem dX7_isText_4 : decode cX7_isText 4 = .ok (.iconst 0, 1) := by decide +kernel
theorem dX7_isText_5 : decode cX7_isText 5 = .ok (.istore_n 1, 1) := by decide +kernel
theorem dX7_isText_6 : decode cX7_isText 6 = .ok (.iload_n 1, 1) := by decide +kernel
theorem dX7_isText_7 : decode cX7_isText 7 = .ok (.iconst 3, 1) := by decide +kernel
theorem dX7_isText_8 : decode cX7_isText 8 = .ok (.if_icmp .ge 65, 3) := by decide +kernel
theorem dX7_isText_11 : decode cX7_isText 11 = .ok (.aload_n 0, 1) := by decide +kernel
theorem dX7_isText_12 : decode cX7_isText 12 = .ok (.invokevirtual 152, 3) := by decide +kernel
theorem dX7_isText_15 : decode cX7_isText 15 = .ok (.bipush 6, 2) := by decide +kernel
theorem dX7_isText_17 : decode cX7_isText 17 = .ok (.iload_n 1, 1) := by decide +kernel
theorem dX7_isText_18 : decode cX7_isText 18 = .ok (.iadd, 1) := by decide +kernel
theorem dX7_isText_19 : decode cX7_isText 19 = .ok (.if_icmp .eq 5, 3) := by decide +kernel
theorem dX7_isText_22 : decode cX7_isText 22 = .ok (.iconst 0, 1) := by decide +kernel
theorem dX7_isText_23 : decode cX7_isText 23 = .ok (.ireturn, 1) := by decide +kernel
theorem dX7_isText_24 : decode cX7_isText 24 = .ok (.aload_n 0, 1) := by decide +kernel
theorem dX7_isText_25 : decode cX7_isText 25 = .ok (.invokevirtual 167, 3) := by decide +kernel
theorem dX7_isText_28 : decode cX7_isText 28 = .ok (.aload_n 0, 1) := by decide +kernel
theorem dX7_isText_29 : decode cX7_isText 29 = .ok (.invokevirtual 176, 3) := by decide +kernel
theorem dX7_isText_32 : decode cX7_isText 32 = .ok (.ifCond .eq 12, 3) := by decide +kernel
theorem dX7_isText_35 : decode cX7_isText 35 = .ok (.aload_n 0, 1) := by decide +kernel
theorem dX7_isText_36 : decode cX7_isText 36 = .ok (.bipush 59, 2) := by decide +kernel
theorem dX7_isText_38 : decode cX7_isText 38 = .ok (.invokevirtual 155, 3) := by decide +kernel
theorem dX7_isText_41 : decode cX7_isText 41 = .ok (.ifCond .ne 5, 3) := by decide +kernel
theorem dX7_isText_44 : decode cX7_isText 44 = .ok (.iconst 0, 1) := by decide +kernel
theorem dX7_isText_45 : decode cX7_isText 45 = .ok (.ireturn, 1) := by decide +kernel
theorem dX7_isText_46 : decode cX7_isText 46 = .ok (.aload_n 0, 1) := by decide +kernel
theorem dX7_isText_47 : decode cX7_isText 47 = .ok (.getfield 22, 3) := by decide +kernel
theorem dX7_isText_50 : decode cX7_isText 50 = .ok (.iconst 3, 1) := by decide +kernel
theorem dX7_isText_51 : decode cX7_isText 51 = .ok (.aload_n 0, 1) := by decide +kernel
theorem dX7_isText_52 : decode cX7_isText 52 = .ok (.getfield 29, 3) := by decide +kernel
theorem dX7_isText_55 : decode cX7_isText 55 = .ok (.imul, 1) := by decide +kernel
theorem dX7_isText_56 : decode cX7_isText 56 = .ok (.iload_n 1, 1) := by decide +kernel
theorem dX7_isText_57 : decode cX7_isText 57 = .ok (.iadd, 1) := by decide +kernel
theorem dX7_isText_58 : decode cX7_isText 58 = .ok (.aload_n 0, 1) := by decide +kernel
theorem dX7_isText_59 : decode cX7_isText 59 = .ok (.getfield 134, 3) := by decide +kernel
theorem dX7_isText_62 : decode cX7_isText 62 = .ok (.iastore, 1) := by decide +kernel
theorem dX7_isText_63 : decode cX7_isText 63 = .ok (.aload_n 0, 1) := by decide +kernel
theorem dX7_isText_64 : decode cX7_isText 64 = .ok (.invokevirtual 167, 3) := by decide +kernel
theorem dX7_isText_67 : decode cX7_isText 67 = .ok (.iinc 1 1, 3) := by decide +kernel
theorem dX7_isText_70 : decode cX7_isText 70 = .ok (.goto (-64), 3) := by decide +kernel
theorem dX7_isText_73 : decode cX7_isText 73 = .ok (.aload_n 0, 1) := by decide +kernel
theorem dX7_isText_74 : decode cX7_isText 74 = .ok (.getfield 131, 3) := by decide +kernel
theorem dX7_isText_77 : decode cX7_isText 77 = .ok (.ifCond .ne 7, 3) := by decide +kernel
theorem dX7_isText_80 : decode cX7_isText 80 = .ok (.iconst 1, 1) := by decide +kernel
theorem dX7_isText_81 : decode cX7_isText 81 = .ok (.goto 4, 3) := by decide +kernel
theorem dX7_isText_84 : decode cX7_isText 84 = .ok (.iconst 0, 1) := by decide +kernel
theorem dX7_isText_85 : decode cX7_isText 85 = .ok (.ireturn, 1) := by decide +kernel
theorem dX7_text_0 : decode cX7_text 0 = .ok (.aload_n 0, 1) := by decide +kernel
theorem dX7_text_1 : decode cX7_text 1 = .ok (.getfield 29, 3) := by decide +kernel
theorem dX7_text_4 : decode cX7_text 4 = .ok (.bipush 6, 2) := by decide +kernel
theorem dX7_text_6 : decode cX7_text 6 = .ok (.if_icmp .ne 6, 3) := by decide +kernel
theorem dX7_text_9 : decode cX7_text 9 = .ok (.bipush (-4), 2) := by decide +kernel
theorem dX7_text_11 : decode cX7_text 11 = .ok (.ireturn, 1) := by decide +kernel
theorem dX7_text_12 : decode cX7_text 12 = .ok (.aload_n 0, 1) := by decide +kernel
theorem dX7_text_13 : decode cX7_text 13 = .ok (.iconst 0, 1) := by decide +kernel
theorem dX7_text_14 : decode cX7_text 14 = .ok (.putfield 122, 3) := by decide +kernel
theorem dX7_text_17 : decode cX7_text 17 = .ok (.aload_n 0, 1) := by decide +kernel
theorem dX7_text_18 : decode cX7_text 18 = .ok (.iconst 0, 1) := by decide +kernel
theorem dX7_text_19 : decode cX7_text 19 = .ok (.putfield 149, 3) := by decide +kernel
theorem dX7_text_22 : decode cX7_text 22 = .ok (.aload_n 0, 1) := by decide +kernel
theorem dX7_text_23 : decode cX7_text 23 = .ok (.iconst 0, 1) := by decide +kernel
theorem dX7_text_24 : decode cX7_text 24 = .ok (.putfield 134, 3) := by decide +kernel
theorem dX7_text_27 : decode cX7_text 27 = .ok (.aload_n 0, 1) := by decide +kernel
theorem dX7_text_28 : decode cX7_text 28 = .ok (.invokevirtual 180, 3) := by decide +kernel
theorem dX7_text_31 : decode cX7_text 31 = .ok (.istore_n 1, 1) := by decide +kernel
theorem dX7_text_32 : decode cX7_text 32 = .ok (.aload_n 0, 1) := by decide +kernel
theorem dX7_text_33 : decode cX7_text 33 = .ok (.iconst 0, 1) := by decide +kernel
theorem dX7_text_34 : decode cX7_text 34 = .ok (.putfield 119, 3) := by decide +kernel
theorem dX7_text_37 : decode cX7_text 37 = .ok (.iload_n 1, 1) := by decide +kernel
theorem dX7_text_38 : decode cX7_text 38 = .ok (.ifCond .ne 11, 3) := by decide +kernel
theorem dX7_text_41 : decode cX7_text 41 = .ok (.bipush (-100), 2) := by decide +kernel
theorem dX7_text_43 : decode cX7_text 43 = .ok (.aload_n 0, 1) := by decide +kernel
theorem dX7_text_44 : decode cX7_text 44 = .ok (.getfield 125, 3) := by decide +kernel
theorem dX7_text_47 : decode cX7_text 47 = .ok (.isub, 1) := by decide +kernel
theorem dX7_text_48 : decode cX7_text 48 = .ok (.ireturn, 1) := by decide +kernel
theorem dX7_text_49 : decode cX7_text 49 = .ok (.aload_n 0, 1) := by decide +kernel
theorem dX7_text_50 : decode cX7_text 50 = .ok (.dup, 1) := by decide +kernel
theorem dX7_text_51 : decode cX7_text 51 = .ok (.getfield 29, 3) := by decide +kernel
theorem dX7_text_54 : decode cX7_text 54 = .ok (.iconst 1, 1) := by decide +kernel
theorem dX7_text_55 : decode cX7_text 55 = .ok (.iadd, 1) := by decide +kernel
theorem dX7_text_56 : decode cX7_text 56 = .ok (.putfield 29, 3) := by decide +kernel
theorem dX7_text_59 : decode cX7_text 59 = .ok (.aload_n 0, 1) := by decide +kernel
theorem dX7_text_60 : decode cX7_text 60 = .ok (.getfield 29, 3) := by decide +kernel
theorem dX7_text_63 : decode cX7_text 63 = .ok (.iconst 1, 1) := by decide +kernel
theorem dX7_text_64 : decode cX7_text 64 = .ok (.isub, 1) := by decide +kernel
theorem dX7_text_65 : decode cX7_text 65 = .ok (.ireturn, 1) := by decide +kernel
theorem dX7_force_0 : decode cX7_force 0 = .ok (.iload_n 1, 1) := by decide +kernel
theorem dX7_force_1 : decode cX7_force 1 = .ok (.iconst 0, 1) := by decide +kernel
theorem dX7_force_2 : decode cX7_force 2 = .ok (.aload_n 0, 1) := by decide +kernel
theorem dX7_force_3 : decode cX7_force 3 = .ok (.getfield 29, 3) := by decide +kernel
theorem dX7_force_6 : decode cX7_force 6 = .ok (.iconst 1, 1) := by decide +kernel
theorem dX7_force_7 : decode cX7_force 7 = .ok (.isub, 1) := by decide +kernel
theorem dX7_force_8 : decode cX7_force 8 = .ok (.invokestatic 78, 3) := by decide +kernel
theorem dX7_force_11 : decode cX7_force 11 = .ok (.ifCond .ne 6, 3) := by decide +kernel
theorem dX7_force_14 : decode cX7_force 14 = .ok (.bipush (-2), 2) := by decide +kernel
theorem dX7_force_16 : decode cX7_force 16 = .ok (.ireturn, 1) := by decide +kernel
theorem dX7_force_17 : decode cX7_force 17 = .ok (.aload_n 0, 1) := by decide +kernel
theorem dX7_force_18 : decode cX7_force 18 = .ok (.getfield 7, 3) := by decide +kernel
theorem dX7_force_21 : decode cX7_force 21 = .ok (.bipush 62, 2) := by decide +kernel
theorem dX7_force_23 : decode cX7_force 23 = .ok (.iaload, 1) := by decide +kernel
theorem dX7_force_24 : decode cX7_force 24 = .ok (.istore_n 2, 1) := by decide +kernel
theorem dX7_force_25 : decode cX7_force 25 = .ok (.aload_n 0, 1) := by decide +kernel
theorem dX7_force_26 : decode cX7_force 26 = .ok (.getfield 7, 3) := by decide +kernel
theorem dX7_force_29 : decode cX7_force 29 = .ok (.bipush 62, 2) := by decide +kernel
theorem dX7_force_31 : decode cX7_force 31 = .ok (.iload_n 1, 1) := by decide +kernel
theorem dX7_force_32 : decode cX7_force 32 = .ok (.iastore, 1) := by decide +kernel
theorem dX7_force_33 : decode cX7_force 33 = .ok (.iload_n 2, 1) := by decide +kernel
theorem dX7_force_34 : decode cX7_force 34 = .ok (.ireturn, 1) := by decide +kernel
theorem dX7_yes_0 : decode cX7_yes 0 = .ok (.iload_n 0, 1) := by decide +kernel
theorem dX7_yes_1 : decode cX7_yes 1 = .ok (.ifCond .eq 7, 3) := by decide +kernel
theorem dX7_yes_4 : decode cX7_yes 4 = .ok (.iconst 1, 1) := by decide +kernel
theorem dX7_yes_5 : decode cX7_yes 5 = .ok (.goto 4, 3) := by decide +kernel
theorem dX7_yes_8 : decode cX7_yes 8 = .ok (.iconst 0, 1) := by decide +kernel
theorem dX7_yes_9 : decode cX7_yes 9 = .ok (.ireturn, 1) := by decide +kernel
theorem dX7_deed_0 : decode cX7_deed 0 = .ok (.iload_n 0, 1) := by decide +kernel
theorem dX7_deed_1 : decode cX7_deed 1 = .ok (.tableswitch 113 (-26) (-20) #[109, 105, 91, 77, 113, 60, 43], 43) := by decide +kernel
theorem dX7_deed_44 : decode cX7_deed 44 = .ok (.iload_n 1, 1) := by decide +kernel
theorem dX7_deed_45 : decode cX7_deed 45 = .ok (.ifCond .ne 7, 3) := by decide +kernel
theorem dX7_deed_48 : decode cX7_deed 48 = .ok (.iload_n 2, 1) := by decide +kernel
theorem dX7_deed_49 : decode cX7_deed 49 = .ok (.ifCond .eq 7, 3) := by decide +kernel
theorem dX7_deed_52 : decode cX7_deed 52 = .ok (.iconst 1, 1) := by decide +kernel
theorem dX7_deed_53 : decode cX7_deed 53 = .ok (.goto 4, 3) := by decide +kernel
theorem dX7_deed_56 : decode cX7_deed 56 = .ok (.iconst 0, 1) := by decide +kernel
theorem dX7_deed_57 : decode cX7_deed 57 = .ok (.invokestatic 183, 3) := by decide +kernel
theorem dX7_deed_60 : decode cX7_deed 60 = .ok (.ireturn, 1) := by decide +kernel
theorem dX7_deed_61 : decode cX7_deed 61 = .ok (.iload_n 1, 1) := by decide +kernel
theorem dX7_deed_62 : decode cX7_deed 62 = .ok (.ifCond .eq 11, 3) := by decide +kernel
theorem dX7_deed_65 : decode cX7_deed 65 = .ok (.iload_n 2, 1) := by decide +kernel
theorem dX7_deed_66 : decode cX7_deed 66 = .ok (.ifCond .eq 7, 3) := by decide +kernel
theorem dX7_deed_69 : decode cX7_deed 69 = .ok (.iconst 1, 1) := by decide +kernel
theorem dX7_deed_70 : decode cX7_deed 70 = .ok (.goto 4, 3) := by decide +kernel
theorem dX7_deed_73 : decode cX7_deed 73 = .ok (.iconst 0, 1) := by decide +kernel
theorem dX7_deed_74 : decode cX7_deed 74 = .ok (.invokestatic 183, 3) := by decide +kernel
theorem dX7_deed_77 : decode cX7_deed 77 = .ok (.ireturn, 1) := by decide +kernel
theorem dX7_deed_78 : decode cX7_deed 78 = .ok (.iload_n 1, 1) := by decide +kernel
theorem dX7_deed_79 : decode cX7_deed 79 = .ok (.iload_n 2, 1) := by decide +kernel
theorem dX7_deed_80 : decode cX7_deed 80 = .ok (.if_icmp .ge 7, 3) := by decide +kernel
theorem dX7_deed_83 : decode cX7_deed 83 = .ok (.iconst 1, 1) := by decide +kernel
theorem dX7_deed_84 : decode cX7_deed 84 = .ok (.goto 4, 3) := by decide +kernel
theorem dX7_deed_87 : decode cX7_deed 87 = .ok (.iconst 0, 1) := by decide +kernel
theorem dX7_deed_88 : decode cX7_deed 88 = .ok (.invokestatic 183, 3) := by decide +kernel
theorem dX7_deed_91 : decode cX7_deed 91 = .ok (.ireturn, 1) := by decide +kernel
theorem dX7_deed_92 : decode cX7_deed 92 = .ok (.iload_n 1, 1) := by decide +kernel
theorem dX7_deed_93 : decode cX7_deed 93 = .ok (.iload_n 2, 1) := by decide +kernel
theorem dX7_deed_94 : decode cX7_deed 94 = .ok (.if_icmp .ne 7, 3) := by decide +kernel
theorem dX7_deed_97 : decode cX7_deed 97 = .ok (.iconst 1, 1) := by decide +kernel
theorem dX7_deed_98 : decode cX7_deed 98 = .ok (.goto 4, 3) := by decide +kernel
theorem dX7_deed_101 : decode cX7_deed 101 = .ok (.iconst 0, 1) := by decide +kernel
theorem dX7_deed_102 : decode cX7_deed 102 = .ok (.invokestatic 183, 3) := by decide +kernel
theorem dX7_deed_105 : decode cX7_deed 105 = .ok (.ireturn, 1) := by decide +kernel
theorem dX7_deed_106 : decode cX7_deed 106 = .ok (.iload_n 1, 1) := by decide +kernel
theorem dX7_deed_107 : decode cX7_deed 107 = .ok (.iload_n 2, 1) := by decide +kernel
theorem dX7_deed_108 : decode cX7_deed 108 = .ok (.iadd, 1) := by decide +kernel
theorem dX7_deed_109 : decode cX7_deed 109 = .ok (.ireturn, 1) := by decide +kernel
theorem dX7_deed_110 : decode cX7_deed 110 = .ok (.iload_n 1, 1) := by decide +kernel
theorem dX7_deed_111 : decode cX7_deed 111 = .ok (.iload_n 2, 1) := by decide +kernel
theorem dX7_deed_112 : decode cX7_deed 112 = .ok (.isub, 1) := by decide +kernel
theorem dX7_deed_113 : decode cX7_deed 113 = .ok (.ireturn, 1) := by decide +kernel
theorem dX7_deed_114 : decode cX7_deed 114 = .ok (.iload_n 1, 1) := by decide +kernel
theorem dX7_deed_115 : decode cX7_deed 115 = .ok (.iload_n 2, 1) := by decide +kernel
theorem dX7_deed_116 : decode cX7_deed 116 = .ok (.imul, 1) := by decide +kernel
theorem dX7_deed_117 : decode cX7_deed 117 = .ok (.ireturn, 1) := by decide +kernel
theorem dX7_tell_0 : decode cX7_tell 0 = .ok (.aload_n 0, 1) := by decide +kernel
theorem dX7_tell_1 : decode cX7_tell 1 = .ok (.getfield 187, 3) := by decide +kernel
theorem dX7_tell_4 : decode cX7_tell 4 = .ok (.istore 4, 2) := by decide +kernel
theorem dX7_tell_6 : decode cX7_tell 6 = .ok (.iload_n 1, 1) := by decide +kernel
theorem dX7_tell_7 : decode cX7_tell 7 = .ok (.ifCond .ne 7, 3) := by decide +kernel
theorem dX7_tell_10 : decode cX7_tell 10 = .ok (.iconst 0, 1) := by decide +kernel
theorem dX7_tell_11 : decode cX7_tell 11 = .ok (.goto 16, 3) := by decide +kernel
theorem dX7_tell_14 : decode cX7_tell 14 = .ok (.aload_n 0, 1) := by decide +kernel
theorem dX7_tell_15 : decode cX7_tell 15 = .ok (.getfield 22, 3) := by decide +kernel
theorem dX7_tell_18 : decode cX7_tell 18 = .ok (.iconst 3, 1) := by decide +kernel
theorem dX7_tell_19 : decode cX7_tell 19 = .ok (.iload 4, 2) := by decide +kernel
theorem dX7_tell_21 : decode cX7_tell 21 = .ok (.imul, 1) := by decide +kernel
theorem dX7_tell_22 : decode cX7_tell 22 = .ok (.iload_n 1, 1) := by decide +kernel
theorem dX7_tell_23 : decode cX7_tell 23 = .ok (.iadd, 1) := by decide +kernel
theorem dX7_tell_24 : decode cX7_tell 24 = .ok (.iconst 1, 1) := by decide +kernel
theorem dX7_tell_25 : decode cX7_tell 25 = .ok (.isub, 1) := by decide +kernel
theorem dX7_tell_26 : decode cX7_tell 26 = .ok (.iaload, 1) := by decide +kernel
theorem dX7_tell_27 : decode cX7_tell 27 = .ok (.istore 5, 2) := by decide +kernel
theorem dX7_tell_29 : decode cX7_tell 29 = .ok (.iconst 0, 1) := by decide +kernel
theorem dX7_tell_30 : decode cX7_tell 30 = .ok (.istore 6, 2) := by decide +kernel
theorem dX7_tell_32 : decode cX7_tell 32 = .ok (.iload 5, 2) := by decide +kernel
theorem dX7_tell_34 : decode cX7_tell 34 = .ok (.istore 7, 2) := by decide +kernel
theorem dX7_tell_36 : decode cX7_tell 36 = .ok (.iload 7, 2) := by decide +kernel
theorem dX7_tell_38 : decode cX7_tell 38 = .ok (.aload_n 0, 1) := by decide +kernel
theorem dX7_tell_39 : decode cX7_tell 39 = .ok (.getfield 22, 3) := by decide +kernel
theorem dX7_tell_42 : decode cX7_tell 42 = .ok (.iconst 3, 1) := by decide +kernel
theorem dX7_tell_43 : decode cX7_tell 43 = .ok (.iload 4, 2) := by decide +kernel
theorem dX7_tell_45 : decode cX7_tell 45 = .ok (.imul, 1) := by decide +kernel
theorem dX7_tell_46 : decode cX7_tell 46 = .ok (.iload_n 1, 1) := by decide +kernel
theorem dX7_tell_47 : decode cX7_tell 47 = .ok (.iadd, 1) := by decide +kernel
theorem dX7_tell_48 : decode cX7_tell 48 = .ok (.iaload, 1) := by decide +kernel
theorem dX7_tell_49 : decode cX7_tell 49 = .ok (.if_icmp .ge 238, 3) := by decide +kernel
theorem dX7_tell_52 : decode cX7_tell 52 = .ok (.aload_n 0, 1) := by decide +kernel
theorem dX7_tell_53 : decode cX7_tell 53 = .ok (.getfield 19, 3) := by decide +kernel
theorem dX7_tell_56 : decode cX7_tell 56 = .ok (.sipush 160, 3) := by decide +kernel
theorem dX7_tell_59 : decode cX7_tell 59 = .ok (.iload 4, 2) := by decide +kernel
theorem dX7_tell_61 : decode cX7_tell 61 = .ok (.imul, 1) := by decide +kernel
theorem dX7_tell_62 : decode cX7_tell 62 = .ok (.iload 7, 2) := by decide +kernel
theorem dX7_tell_64 : decode cX7_tell 64 = .ok (.iadd, 1) := by decide +kernel
theorem dX7_tell_65 : decode cX7_tell 65 = .ok (.iaload, 1) := by decide +kernel
theorem dX7_tell_66 : decode cX7_tell 66 = .ok (.istore 8, 2) := by decide +kernel
theorem dX7_tell_68 : decode cX7_tell 68 = .ok (.iload 8, 2) := by decide +kernel
theorem dX7_tell_70 : decode cX7_tell 70 = .ok (.ifCond .lt 18, 3) := by decide +kernel
theorem dX7_tell_73 : decode cX7_tell 73 = .ok (.aload_n 0, 1) := by decide +kernel
theorem dX7_tell_74 : decode cX7_tell 74 = .ok (.getfield 40, 3) := by decide +kernel
theorem dX7_tell_77 : decode cX7_tell 77 = .ok (.iload 6, 2) := by decide +kernel
theorem dX7_tell_79 : decode cX7_tell 79 = .ok (.iload 8, 2) := by decide +kernel
theorem dX7_tell_81 : decode cX7_tell 81 = .ok (.iastore, 1) := by decide +kernel
theorem dX7_tell_82 : decode cX7_tell 82 = .ok (.iinc 6 1, 3) := by decide +kernel
theorem dX7_tell_85 : decode cX7_tell 85 = .ok (.goto 196, 3) := by decide +kernel
theorem dX7_tell_88 : decode cX7_tell 88 = .ok (.iload 8, 2) := by decide +kernel
theorem dX7_tell_90 : decode cX7_tell 90 = .ok (.bipush (-20), 2) := by decide +kernel
theorem dX7_tell_92 : decode cX7_tell 92 = .ok (.if_icmp .le 88, 3) := by decide +kernel
theorem dX7_tell_95 : decode cX7_tell 95 = .ok (.bipush (-10), 2) := by decide +kernel
theorem dX7_tell_97 : decode cX7_tell 97 = .ok (.iload 8, 2) := by decide +kernel
theorem dX7_tell_99 : decode cX7_tell 99 = .ok (.isub, 1) := by decide +kernel
theorem dX7_tell_100 : decode cX7_tell 100 = .ok (.istore 9, 2) := by decide +kernel
theorem dX7_tell_102 : decode cX7_tell 102 = .ok (.aload_n 0, 1) := by decide +kernel
theorem dX7_tell_103 : decode cX7_tell 103 = .ok (.getfield 40, 3) := by decide +kernel
theorem dX7_tell_106 : decode cX7_tell 106 = .ok (.iload 6, 2) := by decide +kernel
theorem dX7_tell_108 : decode cX7_tell 108 = .ok (.iload 9, 2) := by decide +kernel
theorem dX7_tell_110 : decode cX7_tell 110 = .ok (.ifCond .ne 7, 3) := by decide +kernel
theorem dX7_tell_113 : decode cX7_tell 113 = .ok (.iload_n 2, 1) := by decide +kernel
theorem dX7_tell_114 : decode cX7_tell 114 = .ok (.goto 59, 3) := by decide +kernel
theorem dX7_tell_117 : decode cX7_tell 117 = .ok (.iload 9, 2) := by decide +kernel
theorem dX7_tell_119 : decode cX7_tell 119 = .ok (.iconst 1, 1) := by decide +kernel
theorem dX7_tell_120 : decode cX7_tell 120 = .ok (.if_icmp .ne 7, 3) := by decide +kernel
theorem dX7_tell_123 : decode cX7_tell 123 = .ok (.iload_n 3, 1) := by decide +kernel
theorem dX7_tell_124 : decode cX7_tell 124 = .ok (.goto 49, 3) := by decide +kernel
theorem dX7_tell_127 : decode cX7_tell 127 = .ok (.iload 9, 2) := by decide +kernel
theorem dX7_tell_129 : decode cX7_tell 129 = .ok (.iconst 2, 1) := by decide +kernel
theorem dX7_tell_130 : decode cX7_tell 130 = .ok (.if_icmp .ne 10, 3) := by decide +kernel
theorem dX7_tell_133 : decode cX7_tell 133 = .ok (.aload_n 0, 1) := by decide +kernel
theorem dX7_tell_134 : decode cX7_tell 134 = .ok (.getfield 190, 3) := by decide +kernel
theorem dX7_tell_137 : decode cX7_tell 137 = .ok (.goto 36, 3) := by decide +kernel
theorem dX7_tell_140 : decode cX7_tell 140 = .ok (.iload 9, 2) := by decide +kernel
theorem dX7_tell_142 : decode cX7_tell 142 = .ok (.iconst 3, 1) := by decide +kernel
theorem dX7_tell_143 : decode cX7_tell 143 = .ok (.if_icmp .ne 13, 3) := by decide +kernel
theorem dX7_tell_146 : decode cX7_tell 146 = .ok (.aload_n 0, 1) := by decide +kernel
theorem dX7_tell_147 : decode cX7_tell 147 = .ok (.getfield 7, 3) := by decide +kernel
theorem dX7_tell_150 : decode cX7_tell 150 = .ok (.bipush 61, 2) := by decide +kernel
theorem dX7_tell_152 : decode cX7_tell 152 = .ok (.iaload, 1) := by decide +kernel
theorem dX7_tell_153 : decode cX7_tell 153 = .ok (.goto 20, 3) := by decide +kernel
theorem dX7_tell_156 : decode cX7_tell 156 = .ok (.iload 9, 2) := by decide +kernel
theorem dX7_tell_158 : decode cX7_tell 158 = .ok (.iconst 4, 1) := by decide +kernel
theorem dX7_tell_159 : decode cX7_tell 159 = .ok (.if_icmp .ne 10, 3) := by decide +kernel
theorem dX7_tell_162 : decode cX7_tell 162 = .ok (.aload_n 0, 1) := by decide +kernel
theorem dX7_tell_163 : decode cX7_tell 163 = .ok (.getfield 193, 3) := by decide +kernel
theorem dX7_tell_166 : decode cX7_tell 166 = .ok (.goto 7, 3) := by decide +kernel
theorem dX7_tell_169 : decode cX7_tell 169 = .ok (.aload_n 0, 1) := by decide +kernel
theorem dX7_tell_170 : decode cX7_tell 170 = .ok (.invokevirtual 94, 3) := by decide +kernel
theorem dX7_tell_173 : decode cX7_tell 173 = .ok (.iastore, 1) := by decide +kernel
theorem dX7_tell_174 : decode cX7_tell 174 = .ok (.iinc 6 1, 3) := by decide +kernel
theorem dX7_tell_177 : decode cX7_tell 177 = .ok (.goto 104, 3) := by decide +kernel
theorem dX7_tell_180 : decode cX7_tell 180 = .ok (.iload 8, 2) := by decide +kernel
theorem dX7_tell_182 : decode cX7_tell 182 = .ok (.bipush (-22), 2) := by decide +kernel
theorem dX7_tell_184 : decode cX7_tell 184 = .ok (.if_icmp .ne 35, 3) := by decide +kernel
theorem dX7_tell_187 : decode cX7_tell 187 = .ok (.aload_n 0, 1) := by decide +kernel
theorem dX7_tell_188 : decode cX7_tell 188 = .ok (.getfield 40, 3) := by decide +kernel
theorem dX7_tell_191 : decode cX7_tell 191 = .ok (.iload 6, 2) := by decide +kernel
theorem dX7_tell_193 : decode cX7_tell 193 = .ok (.iconst 1, 1) := by decide +kernel
theorem dX7_tell_194 : decode cX7_tell 194 = .ok (.isub, 1) := by decide +kernel
theorem dX7_tell_195 : decode cX7_tell 195 = .ok (.aload_n 0, 1) := by decide +kernel
theorem dX7_tell_196 : decode cX7_tell 196 = .ok (.getfield 40, 3) := by decide +kernel
theorem dX7_tell_199 : decode cX7_tell 199 = .ok (.iload 6, 2) := by decide +kernel
theorem dX7_tell_201 : decode cX7_tell 201 = .ok (.iconst 1, 1) := by decide +kernel
theorem dX7_tell_202 : decode cX7_tell 202 = .ok (.isub, 1) := by decide +kernel
theorem dX7_tell_203 : decode cX7_tell 203 = .ok (.iaload, 1) := by decide +kernel
theorem dX7_tell_204 : decode cX7_tell 204 = .ok (.ifCond .ne 7, 3) := by decide +kernel
theorem dX7_tell_207 : decode cX7_tell 207 = .ok (.iconst 1, 1) := by decide +kernel
theorem dX7_tell_208 : decode cX7_tell 208 = .ok (.goto 4, 3) := by decide +kernel
theorem dX7_tell_211 : decode cX7_tell 211 = .ok (.iconst 0, 1) := by decide +kernel
theorem dX7_tell_212 : decode cX7_tell 212 = .ok (.invokestatic 183, 3) := by decide +kernel
theorem dX7_tell_215 : decode cX7_tell 215 = .ok (.iastore, 1) := by decide +kernel
theorem dX7_tell_216 : decode cX7_tell 216 = .ok (.goto 65, 3) := by decide +kernel
theorem dX7_tell_219 : decode cX7_tell 219 = .ok (.iload 8, 2) := by decide +kernel
theorem dX7_tell_221 : decode cX7_tell 221 = .ok (.bipush (-28), 2) := by decide +kernel
theorem dX7_tell_223 : decode cX7_tell 223 = .ok (.if_icmp .ne 25, 3) := by decide +kernel
theorem dX7_tell_226 : decode cX7_tell 226 = .ok (.aload_n 0, 1) := by decide +kernel
theorem dX7_tell_227 : decode cX7_tell 227 = .ok (.getfield 40, 3) := by decide +kernel
theorem dX7_tell_230 : decode cX7_tell 230 = .ok (.iload 6, 2) := by decide +kernel
theorem dX7_tell_232 : decode cX7_tell 232 = .ok (.iconst 1, 1) := by decide +kernel
theorem dX7_tell_233 : decode cX7_tell 233 = .ok (.isub, 1) := by decide +kernel
theorem dX7_tell_234 : decode cX7_tell 234 = .ok (.aload_n 0, 1) := by decide +kernel
theorem dX7_tell_235 : decode cX7_tell 235 = .ok (.getfield 40, 3) := by decide +kernel
theorem dX7_tell_238 : decode cX7_tell 238 = .ok (.iload 6, 2) := by decide +kernel
theorem dX7_tell_240 : decode cX7_tell 240 = .ok (.iconst 1, 1) := by decide +kernel
theorem dX7_tell_241 : decode cX7_tell 241 = .ok (.isub, 1) := by decide +kernel
theorem dX7_tell_242 : decode cX7_tell 242 = .ok (.iaload, 1) := by decide +kernel
theorem dX7_tell_243 : decode cX7_tell 243 = .ok (.ineg, 1) := by decide +kernel
theorem dX7_tell_244 : decode cX7_tell 244 = .ok (.iastore, 1) := by decide +kernel
theorem dX7_tell_245 : decode cX7_tell 245 = .ok (.goto 36, 3) := by decide +kernel
theorem dX7_tell_248 : decode cX7_tell 248 = .ok (.iinc 6 (-1), 3) := by decide +kernel
theorem dX7_tell_251 : decode cX7_tell 251 = .ok (.aload_n 0, 1) := by decide +kernel
theorem dX7_tell_252 : decode cX7_tell 252 = .ok (.getfield 40, 3) := by decide +kernel
theorem dX7_tell_255 : decode cX7_tell 255 = .ok (.iload 6, 2) := by decide +kernel
theorem dX7_tell_257 : decode cX7_tell 257 = .ok (.iconst 1, 1) := by decide +kernel
theorem dX7_tell_258 : decode cX7_tell 258 = .ok (.isub, 1) := by decide +kernel
theorem dX7_tell_259 : decode cX7_tell 259 = .ok (.iload 8, 2) := by decide +kernel
theorem dX7_tell_261 : decode cX7_tell 261 = .ok (.aload_n 0, 1) := by decide +kernel
theorem dX7_tell_262 : decode cX7_tell 262 = .ok (.getfield 40, 3) := by decide +kernel
theorem dX7_tell_265 : decode cX7_tell 265 = .ok (.iload 6, 2) := by decide +kernel
theorem dX7_tell_267 : decode cX7_tell 267 = .ok (.iconst 1, 1) := by decide +kernel
theorem dX7_tell_268 : decode cX7_tell 268 = .ok (.isub, 1) := by decide +kernel
theorem dX7_tell_269 : decode cX7_tell 269 = .ok (.iaload, 1) := by decide +kernel
theorem dX7_tell_270 : decode cX7_tell 270 = .ok (.aload_n 0, 1) := by decide +kernel
theorem dX7_tell_271 : decode cX7_tell 271 = .ok (.getfield 40, 3) := by decide +kernel
theorem dX7_tell_274 : decode cX7_tell 274 = .ok (.iload 6, 2) := by decide +kernel
theorem dX7_tell_276 : decode cX7_tell 276 = .ok (.iaload, 1) := by decide +kernel
theorem dX7_tell_277 : decode cX7_tell 277 = .ok (.invokestatic 196, 3) := by decide +kernel
theorem dX7_tell_280 : decode cX7_tell 280 = .ok (.iastore, 1) := by decide +kernel
theorem dX7_tell_281 : decode cX7_tell 281 = .ok (.iinc 7 1, 3) := by decide +kernel
theorem dX7_tell_284 : decode cX7_tell 284 = .ok (.goto (-248), 3) := by decide +kernel
theorem dX7_tell_287 : decode cX7_tell 287 = .ok (.aload_n 0, 1) := by decide +kernel
theorem dX7_tell_288 : decode cX7_tell 288 = .ok (.getfield 40, 3) := by decide +kernel
theorem dX7_tell_291 : decode cX7_tell 291 = .ok (.iconst 0, 1) := by decide +kernel
theorem dX7_tell_292 : decode cX7_tell 292 = .ok (.iaload, 1) := by decide +kernel
theorem dX7_tell_293 : decode cX7_tell 293 = .ok (.ireturn, 1) := by decide +kernel
theorem dX7_take_0 : decode cX7_take 0 = .ok (.aload_n 0, 1) := by decide +kernel
theorem dX7_take_1 : decode cX7_take 1 = .ok (.aload_n 0, 1) := by decide +kernel
theorem dX7_take_2 : decode cX7_take 2 = .ok (.iload_n 1, 1) := by decide +kernel
theorem dX7_take_3 : decode cX7_take 3 = .ok (.invokevirtual 107, 3) := by decide +kernel
theorem dX7_take_6 : decode cX7_take 6 = .ok (.putfield 200, 3) := by decide +kernel
theorem dX7_take_9 : decode cX7_take 9 = .ok (.aload_n 0, 1) := by decide +kernel
theorem dX7_take_10 : decode cX7_take 10 = .ok (.aload_n 0, 1) := by decide +kernel
theorem dX7_take_11 : decode cX7_take 11 = .ok (.iload_n 1, 1) := by decide +kernel
theorem dX7_take_12 : decode cX7_take 12 = .ok (.invokevirtual 104, 3) := by decide +kernel
theorem dX7_take_15 : decode cX7_take 15 = .ok (.putfield 190, 3) := by decide +kernel
theorem dX7_take_18 : decode cX7_take 18 = .ok (.aload_n 0, 1) := by decide +kernel
theorem dX7_take_19 : decode cX7_take 19 = .ok (.aload_n 0, 1) := by decide +kernel
theorem dX7_take_20 : decode cX7_take 20 = .ok (.getfield 7, 3) := by decide +kernel
theorem dX7_take_23 : decode cX7_take 23 = .ok (.bipush 62, 2) := by decide +kernel
theorem dX7_take_25 : decode cX7_take 25 = .ok (.iaload, 1) := by decide +kernel
theorem dX7_take_26 : decode cX7_take 26 = .ok (.putfield 187, 3) := by decide +kernel
theorem dX7_take_29 : decode cX7_take 29 = .ok (.aload_n 0, 1) := by decide +kernel
theorem dX7_take_30 : decode cX7_take 30 = .ok (.aload_n 0, 1) := by decide +kernel
theorem dX7_take_31 : decode cX7_take 31 = .ok (.invokevirtual 203, 3) := by decide +kernel
theorem dX7_take_34 : decode cX7_take 34 = .ok (.putfield 193, 3) := by decide +kernel
theorem dX7_take_37 : decode cX7_take 37 = .ok (.return_, 1) := by decide +kernel
theorem dX7_heats_0 : decode cX7_heats 0 = .ok (.aload_n 0, 1) := by decide +kernel
theorem dX7_heats_1 : decode cX7_heats 1 = .ok (.iconst 0, 1) := by decide +kernel
theorem dX7_heats_2 : decode cX7_heats 2 = .ok (.iload_n 2, 1) := by decide +kernel
theorem dX7_heats_3 : decode cX7_heats 3 = .ok (.iload_n 1, 1) := by decide +kernel
theorem dX7_heats_4 : decode cX7_heats 4 = .ok (.invokevirtual 206, 3) := by decide +kernel
theorem dX7_heats_7 : decode cX7_heats 7 = .ok (.bipush (-99), 2) := by decide +kernel
theorem dX7_heats_9 : decode cX7_heats 9 = .ok (.bipush 99, 2) := by decide +kernel
theorem dX7_heats_11 : decode cX7_heats 11 = .ok (.invokestatic 209, 3) := by decide +kernel
theorem dX7_heats_14 : decode cX7_heats 14 = .ok (.istore_n 3, 1) := by decide +kernel
theorem dX7_heats_15 : decode cX7_heats 15 = .ok (.iload_n 2, 1) := by decide +kernel
theorem dX7_heats_16 : decode cX7_heats 16 = .ok (.aload_n 0, 1) := by decide +kernel
theorem dX7_heats_17 : decode cX7_heats 17 = .ok (.getfield 190, 3) := by decide +kernel
theorem dX7_heats_20 : decode cX7_heats 20 = .ok (.bipush 6, 2) := by decide +kernel
theorem dX7_heats_22 : decode cX7_heats 22 = .ok (.irem, 1) := by decide +kernel
theorem dX7_heats_23 : decode cX7_heats 23 = .ok (.if_icmp .ne 9, 3) := by decide +kernel
theorem dX7_heats_26 : decode cX7_heats 26 = .ok (.iconst 2, 1) := by decide +kernel
theorem dX7_heats_27 : decode cX7_heats 27 = .ok (.iload_n 3, 1) := by decide +kernel
theorem dX7_heats_28 : decode cX7_heats 28 = .ok (.imul, 1) := by decide +kernel
theorem dX7_heats_29 : decode cX7_heats 29 = .ok (.goto 4, 3) := by decide +kernel
theorem dX7_heats_32 : decode cX7_heats 32 = .ok (.iload_n 3, 1) := by decide +kernel
theorem dX7_heats_33 : decode cX7_heats 33 = .ok (.istore 4, 2) := by decide +kernel
theorem dX7_heats_35 : decode cX7_heats 35 = .ok (.aload_n 0, 1) := by decide +kernel
theorem dX7_heats_36 : decode cX7_heats 36 = .ok (.getfield 200, 3) := by decide +kernel
theorem dX7_heats_39 : decode cX7_heats 39 = .ok (.tableswitch 73 1 5 #[33, 43, 47, 56, 71], 33) := by decide +kernel
theorem dX7_heats_72 : decode cX7_heats 72 = .ok (.iload 4, 2) := by decide +kernel
theorem dX7_heats_74 : decode cX7_heats 74 = .ok (.bipush (-99), 2) := by decide +kernel
theorem dX7_heats_76 : decode cX7_heats 76 = .ok (.bipush 99, 2) := by decide +kernel
theorem dX7_heats_78 : decode cX7_heats 78 = .ok (.invokestatic 209, 3) := by decide +kernel
theorem dX7_heats_81 : decode cX7_heats 81 = .ok (.ireturn, 1) := by decide +kernel
theorem dX7_heats_82 : decode cX7_heats 82 = .ok (.iload_n 3, 1) := by decide +kernel
theorem dX7_heats_83 : decode cX7_heats 83 = .ok (.iconst 2, 1) := by decide +kernel
theorem dX7_heats_84 : decode cX7_heats 84 = .ok (.idiv, 1) := by decide +kernel
theorem dX7_heats_85 : decode cX7_heats 85 = .ok (.ireturn, 1) := by decide +kernel
theorem dX7_heats_86 : decode cX7_heats 86 = .ok (.iload 4, 2) := by decide +kernel
theorem dX7_heats_88 : decode cX7_heats 88 = .ok (.iconst 0, 1) := by decide +kernel
theorem dX7_heats_89 : decode cX7_heats 89 = .ok (.bipush 99, 2) := by decide +kernel
theorem dX7_heats_91 : decode cX7_heats 91 = .ok (.invokestatic 209, 3) := by decide +kernel
theorem dX7_heats_94 : decode cX7_heats 94 = .ok (.ireturn, 1) := by decide +kernel
theorem dX7_heats_95 : decode cX7_heats 95 = .ok (.iload_n 1, 1) := by decide +kernel
theorem dX7_heats_96 : decode cX7_heats 96 = .ok (.bipush 20, 2) := by decide +kernel
theorem dX7_heats_98 : decode cX7_heats 98 = .ok (.if_icmp .ge 8, 3) := by decide +kernel
theorem dX7_heats_101 : decode cX7_heats 101 = .ok (.bipush (-10), 2) := by decide +kernel
theorem dX7_heats_103 : decode cX7_heats 103 = .ok (.goto 6, 3) := by decide +kernel
theorem dX7_heats_106 : decode cX7_heats 106 = .ok (.iload_n 3, 1) := by decide +kernel
theorem dX7_heats_107 : decode cX7_heats 107 = .ok (.iconst 2, 1) := by decide +kernel
theorem dX7_heats_108 : decode cX7_heats 108 = .ok (.idiv, 1) := by decide +kernel
theorem dX7_heats_109 : decode cX7_heats 109 = .ok (.ireturn, 1) := by decide +kernel
theorem dX7_heats_110 : decode cX7_heats 110 = .ok (.iconst 0, 1) := by decide +kernel
theorem dX7_heats_111 : decode cX7_heats 111 = .ok (.ireturn, 1) := by decide +kernel
theorem dX7_heats_112 : decode cX7_heats 112 = .ok (.iload_n 3, 1) := by decide +kernel
theorem dX7_heats_113 : decode cX7_heats 113 = .ok (.ireturn, 1) := by decide +kernel
theorem dX7_cools_0 : decode cX7_cools 0 = .ok (.aload_n 0, 1) := by decide +kernel
theorem dX7_cools_1 : decode cX7_cools 1 = .ok (.iconst 1, 1) := by decide +kernel
theorem dX7_cools_2 : decode cX7_cools 2 = .ok (.iconst 0, 1) := by decide +kernel
theorem dX7_cools_3 : decode cX7_cools 3 = .ok (.iload_n 1, 1) := by decide +kernel
theorem dX7_cools_4 : decode cX7_cools 4 = .ok (.invokevirtual 206, 3) := by decide +kernel
theorem dX7_cools_7 : decode cX7_cools 7 = .ok (.iconst 0, 1) := by decide +kernel
theorem dX7_cools_8 : decode cX7_cools 8 = .ok (.bipush 99, 2) := by decide +kernel
theorem dX7_cools_10 : decode cX7_cools 10 = .ok (.invokestatic 209, 3) := by decide +kernel
theorem dX7_cools_13 : decode cX7_cools 13 = .ok (.istore_n 2, 1) := by decide +kernel
theorem dX7_cools_14 : decode cX7_cools 14 = .ok (.aload_n 0, 1) := by decide +kernel
theorem dX7_cools_15 : decode cX7_cools 15 = .ok (.getfield 200, 3) := by decide +kernel
theorem dX7_cools_18 : decode cX7_cools 18 = .ok (.tableswitch 82 1 4 #[30, 40, 50, 70], 30) := by decide +kernel
theorem dX7_cools_48 : decode cX7_cools 48 = .ok (.iload_n 2, 1) := by decide +kernel
theorem dX7_cools_49 : decode cX7_cools 49 = .ok (.iconst 1, 1) := by decide +kernel
theorem dX7_cools_50 : decode cX7_cools 50 = .ok (.isub, 1) := by decide +kernel
theorem dX7_cools_51 : decode cX7_cools 51 = .ok (.iconst 0, 1) := by decide +kernel
theorem dX7_cools_52 : decode cX7_cools 52 = .ok (.bipush 99, 2) := by decide +kernel
theorem dX7_cools_54 : decode cX7_cools 54 = .ok (.invokestatic 209, 3) := by decide +kernel
theorem dX7_cools_57 : decode cX7_cools 57 = .ok (.ireturn, 1) := by decide +kernel
theorem dX7_cools_58 : decode cX7_cools 58 = .ok (.iload_n 2, 1) := by decide +kernel
theorem dX7_cools_59 : decode cX7_cools 59 = .ok (.iconst 3, 1) := by decide +kernel
theorem dX7_cools_60 : decode cX7_cools 60 = .ok (.iadd, 1) := by decide +kernel
theorem dX7_cools_61 : decode cX7_cools 61 = .ok (.iconst 0, 1) := by decide +kernel
theorem dX7_cools_62 : decode cX7_cools 62 = .ok (.bipush 99, 2) := by decide +kernel
theorem dX7_cools_64 : decode cX7_cools 64 = .ok (.invokestatic 209, 3) := by decide +kernel
theorem dX7_cools_67 : decode cX7_cools 67 = .ok (.ireturn, 1) := by decide +kernel
theorem dX7_cools_68 : decode cX7_cools 68 = .ok (.iload_n 1, 1) := by decide +kernel
theorem dX7_cools_69 : decode cX7_cools 69 = .ok (.bipush 50, 2) := by decide +kernel
theorem dX7_cools_71 : decode cX7_cools 71 = .ok (.if_icmp .le 7, 3) := by decide +kernel
theorem dX7_cools_74 : decode cX7_cools 74 = .ok (.iconst 0, 1) := by decide +kernel
theorem dX7_cools_75 : decode cX7_cools 75 = .ok (.goto 12, 3) := by decide +kernel
theorem dX7_cools_78 : decode cX7_cools 78 = .ok (.iload_n 2, 1) := by decide +kernel
theorem dX7_cools_79 : decode cX7_cools 79 = .ok (.iconst 1, 1) := by decide +kernel
theorem dX7_cools_80 : decode cX7_cools 80 = .ok (.isub, 1) := by decide +kernel
theorem dX7_cools_81 : decode cX7_cools 81 = .ok (.iconst 0, 1) := by decide +kernel
theorem dX7_cools_82 : decode cX7_cools 82 = .ok (.bipush 99, 2) := by decide +kernel
theorem dX7_cools_84 : decode cX7_cools 84 = .ok (.invokestatic 209, 3) := by decide +kernel
theorem dX7_cools_87 : decode cX7_cools 87 = .ok (.ireturn, 1) := by decide +kernel
theorem dX7_cools_88 : decode cX7_cools 88 = .ok (.iconst 2, 1) := by decide +kernel
theorem dX7_cools_89 : decode cX7_cools 89 = .ok (.iload_n 2, 1) := by decide +kernel
theorem dX7_cools_90 : decode cX7_cools 90 = .ok (.iconst 3, 1) := by decide +kernel
theorem dX7_cools_91 : decode cX7_cools 91 = .ok (.iadd, 1) := by decide +kernel
theorem dX7_cools_92 : decode cX7_cools 92 = .ok (.imul, 1) := by decide +kernel
theorem dX7_cools_93 : decode cX7_cools 93 = .ok (.iconst 0, 1) := by decide +kernel
theorem dX7_cools_94 : decode cX7_cools 94 = .ok (.bipush 99, 2) := by decide +kernel
theorem dX7_cools_96 : decode cX7_cools 96 = .ok (.invokestatic 209, 3) := by decide +kernel
theorem dX7_cools_99 : decode cX7_cools 99 = .ok (.ireturn, 1) := by decide +kernel
theorem dX7_cools_100 : decode cX7_cools 100 = .ok (.iload_n 2, 1) := by decide +kernel
theorem dX7_cools_101 : decode cX7_cools 101 = .ok (.ireturn, 1) := by decide +kernel
theorem dX7_far_0 : decode cX7_far 0 = .ok (.aload_n 0, 1) := by decide +kernel
theorem dX7_far_1 : decode cX7_far 1 = .ok (.iconst 2, 1) := by decide +kernel
theorem dX7_far_2 : decode cX7_far 2 = .ok (.iconst 0, 1) := by decide +kernel
theorem dX7_far_3 : decode cX7_far 3 = .ok (.iload_n 1, 1) := by decide +kernel
theorem dX7_far_4 : decode cX7_far 4 = .ok (.invokevirtual 206, 3) := by decide +kernel
theorem dX7_far_7 : decode cX7_far 7 = .ok (.iconst 0, 1) := by decide +kernel
theorem dX7_far_8 : decode cX7_far 8 = .ok (.bipush 40, 2) := by decide +kernel
theorem dX7_far_10 : decode cX7_far 10 = .ok (.invokestatic 209, 3) := by decide +kernel
theorem dX7_far_13 : decode cX7_far 13 = .ok (.istore_n 2, 1) := by decide +kernel
theorem dX7_far_14 : decode cX7_far 14 = .ok (.aload_n 0, 1) := by decide +kernel
theorem dX7_far_15 : decode cX7_far 15 = .ok (.getfield 200, 3) := by decide +kernel
theorem dX7_far_18 : decode cX7_far 18 = .ok (.tableswitch 81 2 5 #[30, 43, 53, 74], 30) := by decide +kernel
theorem dX7_far_48 : decode cX7_far 48 = .ok (.iload_n 2, 1) := by decide +kernel
theorem dX7_far_49 : decode cX7_far 49 = .ok (.aload_n 0, 1) := by decide +kernel
theorem dX7_far_50 : decode cX7_far 50 = .ok (.getfield 190, 3) := by decide +kernel
theorem dX7_far_53 : decode cX7_far 53 = .ok (.isub, 1) := by decide +kernel
theorem dX7_far_54 : decode cX7_far 54 = .ok (.iconst 0, 1) := by decide +kernel
theorem dX7_far_55 : decode cX7_far 55 = .ok (.bipush 40, 2) := by decide +kernel
theorem dX7_far_57 : decode cX7_far 57 = .ok (.invokestatic 209, 3) := by decide +kernel
theorem dX7_far_60 : decode cX7_far 60 = .ok (.ireturn, 1) := by decide +kernel
theorem dX7_far_61 : decode cX7_far 61 = .ok (.iload_n 2, 1) := by decide +kernel
theorem dX7_far_62 : decode cX7_far 62 = .ok (.iconst 5, 1) := by decide +kernel
theorem dX7_far_63 : decode cX7_far 63 = .ok (.iadd, 1) := by decide +kernel
theorem dX7_far_64 : decode cX7_far 64 = .ok (.iconst 0, 1) := by decide +kernel
theorem dX7_far_65 : decode cX7_far 65 = .ok (.bipush 40, 2) := by decide +kernel
theorem dX7_far_67 : decode cX7_far 67 = .ok (.invokestatic 209, 3) := by decide +kernel
theorem dX7_far_70 : decode cX7_far 70 = .ok (.ireturn, 1) := by decide +kernel
theorem dX7_far_71 : decode cX7_far 71 = .ok (.iload_n 1, 1) := by decide +kernel
theorem dX7_far_72 : decode cX7_far 72 = .ok (.ifCond .ne 7, 3) := by decide +kernel
theorem dX7_far_75 : decode cX7_far 75 = .ok (.iconst 0, 1) := by decide +kernel
theorem dX7_far_76 : decode cX7_far 76 = .ok (.goto 15, 3) := by decide +kernel
theorem dX7_far_79 : decode cX7_far 79 = .ok (.iload_n 2, 1) := by decide +kernel
theorem dX7_far_80 : decode cX7_far 80 = .ok (.aload_n 0, 1) := by decide +kernel
theorem dX7_far_81 : decode cX7_far 81 = .ok (.getfield 190, 3) := by decide +kernel
theorem dX7_far_84 : decode cX7_far 84 = .ok (.isub, 1) := by decide +kernel
theorem dX7_far_85 : decode cX7_far 85 = .ok (.iconst 0, 1) := by decide +kernel
theorem dX7_far_86 : decode cX7_far 86 = .ok (.bipush 40, 2) := by decide +kernel
theorem dX7_far_88 : decode cX7_far 88 = .ok (.invokestatic 209, 3) := by decide +kernel
theorem dX7_far_91 : decode cX7_far 91 = .ok (.ireturn, 1) := by decide +kernel
theorem dX7_far_92 : decode cX7_far 92 = .ok (.iconst 4, 1) := by decide +kernel
theorem dX7_far_93 : decode cX7_far 93 = .ok (.aload_n 0, 1) := by decide +kernel
theorem dX7_far_94 : decode cX7_far 94 = .ok (.getfield 190, 3) := by decide +kernel
theorem dX7_far_97 : decode cX7_far 97 = .ok (.imul, 1) := by decide +kernel
theorem dX7_far_98 : decode cX7_far 98 = .ok (.ireturn, 1) := by decide +kernel
theorem dX7_far_99 : decode cX7_far 99 = .ok (.iload_n 2, 1) := by decide +kernel
theorem dX7_far_100 : decode cX7_far 100 = .ok (.ireturn, 1) := by decide +kernel
theorem dX7_behindWord_0 : decode cX7_behindWord 0 = .ok (.iload_n 1, 1) := by decide +kernel
theorem dX7_behindWord_1 : decode cX7_behindWord 1 = .ok (.aload_n 0, 1) := by decide +kernel
theorem dX7_behindWord_2 : decode cX7_behindWord 2 = .ok (.iload_n 1, 1) := by decide +kernel
theorem dX7_behindWord_3 : decode cX7_behindWord 3 = .ok (.iload_n 2, 1) := by decide +kernel
theorem dX7_behindWord_4 : decode cX7_behindWord 4 = .ok (.invokevirtual 116, 3) := by decide +kernel
theorem dX7_behindWord_7 : decode cX7_behindWord 7 = .ok (.iadd, 1) := by decide +kernel
theorem dX7_behindWord_8 : decode cX7_behindWord 8 = .ok (.iconst 0, 1) := by decide +kernel
theorem dX7_behindWord_9 : decode cX7_behindWord 9 = .ok (.bipush 99, 2) := by decide +kernel
theorem dX7_behindWord_11 : decode cX7_behindWord 11 = .ok (.invokestatic 209, 3) := by decide +kernel
theorem dX7_behindWord_14 : decode cX7_behindWord 14 = .ok (.ireturn, 1) := by decide +kernel
theorem dX7_behindMinute_0 : decode cX7_behindMinute 0 = .ok (.iload_n 1, 1) := by decide +kernel
theorem dX7_behindMinute_1 : decode cX7_behindMinute 1 = .ok (.aload_n 0, 1) := by decide +kernel
theorem dX7_behindMinute_2 : decode cX7_behindMinute 2 = .ok (.iload_n 1, 1) := by decide +kernel
theorem dX7_behindMinute_3 : decode cX7_behindMinute 3 = .ok (.invokevirtual 110, 3) := by decide +kernel
theorem dX7_behindMinute_6 : decode cX7_behindMinute 6 = .ok (.isub, 1) := by decide +kernel
theorem dX7_behindMinute_7 : decode cX7_behindMinute 7 = .ok (.iconst 0, 1) := by decide +kernel
theorem dX7_behindMinute_8 : decode cX7_behindMinute 8 = .ok (.bipush 99, 2) := by decide +kernel
theorem dX7_behindMinute_10 : decode cX7_behindMinute 10 = .ok (.invokestatic 209, 3) := by decide +kernel
theorem dX7_behindMinute_13 : decode cX7_behindMinute 13 = .ok (.ireturn, 1) := by decide +kernel
theorem dX7_say_0 : decode cX7_say 0 = .ok (.aload_n 0, 1) := by decide +kernel
theorem dX7_say_1 : decode cX7_say 1 = .ok (.iload_n 1, 1) := by decide +kernel
theorem dX7_say_2 : decode cX7_say 2 = .ok (.invokevirtual 82, 3) := by decide +kernel
theorem dX7_say_5 : decode cX7_say 5 = .ok (.ifCond .eq 12, 3) := by decide +kernel
theorem dX7_say_8 : decode cX7_say 8 = .ok (.iload_n 2, 1) := by decide +kernel
theorem dX7_say_9 : decode cX7_say 9 = .ok (.iconst 0, 1) := by decide +kernel
theorem dX7_say_10 : decode cX7_say 10 = .ok (.iconst 5, 1) := by decide +kernel
theorem dX7_say_11 : decode cX7_say 11 = .ok (.invokestatic 78, 3) := by decide +kernel
theorem dX7_say_14 : decode cX7_say 14 = .ok (.ifCond .ne 6, 3) := by decide +kernel
theorem dX7_say_17 : decode cX7_say 17 = .ok (.bipush (-2), 2) := by decide +kernel
theorem dX7_say_19 : decode cX7_say 19 = .ok (.ireturn, 1) := by decide +kernel
theorem dX7_say_20 : decode cX7_say 20 = .ok (.aload_n 0, 1) := by decide +kernel
theorem dX7_say_21 : decode cX7_say 21 = .ok (.iload_n 1, 1) := by decide +kernel
theorem dX7_say_22 : decode cX7_say 22 = .ok (.invokevirtual 97, 3) := by decide +kernel
theorem dX7_say_25 : decode cX7_say 25 = .ok (.aload_n 0, 1) := by decide +kernel
theorem dX7_say_26 : decode cX7_say 26 = .ok (.getfield 7, 3) := by decide +kernel
theorem dX7_say_29 : decode cX7_say 29 = .ok (.bipush 40, 2) := by decide +kernel
theorem dX7_say_31 : decode cX7_say 31 = .ok (.iconst 4, 1) := by decide +kernel
theorem dX7_say_32 : decode cX7_say 32 = .ok (.iload_n 1, 1) := by decide +kernel
theorem dX7_say_33 : decode cX7_say 33 = .ok (.imul, 1) := by decide +kernel
theorem dX7_say_34 : decode cX7_say 34 = .ok (.iadd, 1) := by decide +kernel
theorem dX7_say_35 : decode cX7_say 35 = .ok (.iconst 2, 1) := by decide +kernel
theorem dX7_say_36 : decode cX7_say 36 = .ok (.iadd, 1) := by decide +kernel
theorem dX7_say_37 : decode cX7_say 37 = .ok (.aload_n 0, 1) := by decide +kernel
theorem dX7_say_38 : decode cX7_say 38 = .ok (.aload_n 0, 1) := by decide +kernel
theorem dX7_say_39 : decode cX7_say 39 = .ok (.iload_n 1, 1) := by decide +kernel
theorem dX7_say_40 : decode cX7_say 40 = .ok (.invokevirtual 101, 3) := by decide +kernel
theorem dX7_say_43 : decode cX7_say 43 = .ok (.iload_n 2, 1) := by decide +kernel
theorem dX7_say_44 : decode cX7_say 44 = .ok (.invokevirtual 212, 3) := by decide +kernel
theorem dX7_say_47 : decode cX7_say 47 = .ok (.iastore, 1) := by decide +kernel
theorem dX7_say_48 : decode cX7_say 48 = .ok (.aload_n 0, 1) := by decide +kernel
theorem dX7_say_49 : decode cX7_say 49 = .ok (.getfield 7, 3) := by decide +kernel
theorem dX7_say_52 : decode cX7_say 52 = .ok (.bipush 40, 2) := by decide +kernel
theorem dX7_say_54 : decode cX7_say 54 = .ok (.iconst 4, 1) := by decide +kernel
theorem dX7_say_55 : decode cX7_say 55 = .ok (.iload_n 1, 1) := by decide +kernel
theorem dX7_say_56 : decode cX7_say 56 = .ok (.imul, 1) := by decide +kernel
theorem dX7_say_57 : decode cX7_say 57 = .ok (.iadd, 1) := by decide +kernel
theorem dX7_say_58 : decode cX7_say 58 = .ok (.iconst 3, 1) := by decide +kernel
theorem dX7_say_59 : decode cX7_say 59 = .ok (.iadd, 1) := by decide +kernel
theorem dX7_say_60 : decode cX7_say 60 = .ok (.aload_n 0, 1) := by decide +kernel
theorem dX7_say_61 : decode cX7_say 61 = .ok (.getfield 7, 3) := by decide +kernel
theorem dX7_say_64 : decode cX7_say 64 = .ok (.bipush 40, 2) := by decide +kernel
theorem dX7_say_66 : decode cX7_say 66 = .ok (.iconst 4, 1) := by decide +kernel
theorem dX7_say_67 : decode cX7_say 67 = .ok (.iload_n 1, 1) := by decide +kernel
theorem dX7_say_68 : decode cX7_say 68 = .ok (.imul, 1) := by decide +kernel
theorem dX7_say_69 : decode cX7_say 69 = .ok (.iadd, 1) := by decide +kernel
theorem dX7_say_70 : decode cX7_say 70 = .ok (.iconst 3, 1) := by decide +kernel
theorem dX7_say_71 : decode cX7_say 71 = .ok (.iadd, 1) := by decide +kernel
theorem dX7_say_72 : decode cX7_say 72 = .ok (.iaload, 1) := by decide +kernel
theorem dX7_say_73 : decode cX7_say 73 = .ok (.iconst 1, 1) := by decide +kernel
theorem dX7_say_74 : decode cX7_say 74 = .ok (.iadd, 1) := by decide +kernel
theorem dX7_say_75 : decode cX7_say 75 = .ok (.iconst 0, 1) := by decide +kernel
theorem dX7_say_76 : decode cX7_say 76 = .ok (.sipush 9999, 3) := by decide +kernel
theorem dX7_say_79 : decode cX7_say 79 = .ok (.invokestatic 209, 3) := by decide +kernel
theorem dX7_say_82 : decode cX7_say 82 = .ok (.iastore, 1) := by decide +kernel
theorem dX7_say_83 : decode cX7_say 83 = .ok (.aload_n 0, 1) := by decide +kernel
theorem dX7_say_84 : decode cX7_say 84 = .ok (.iload_n 1, 1) := by decide +kernel
theorem dX7_say_85 : decode cX7_say 85 = .ok (.invokevirtual 101, 3) := by decide +kernel
theorem dX7_say_88 : decode cX7_say 88 = .ok (.ireturn, 1) := by decide +kernel
theorem dX7_quiet_0 : decode cX7_quiet 0 = .ok (.iload_n 1, 1) := by decide +kernel
theorem dX7_quiet_1 : decode cX7_quiet 1 = .ok (.iconst 0, 1) := by decide +kernel
theorem dX7_quiet_2 : decode cX7_quiet 2 = .ok (.bipush 99, 2) := by decide +kernel
theorem dX7_quiet_4 : decode cX7_quiet 4 = .ok (.invokestatic 78, 3) := by decide +kernel
theorem dX7_quiet_7 : decode cX7_quiet 7 = .ok (.ifCond .ne 6, 3) := by decide +kernel
theorem dX7_quiet_10 : decode cX7_quiet 10 = .ok (.bipush (-2), 2) := by decide +kernel
theorem dX7_quiet_12 : decode cX7_quiet 12 = .ok (.ireturn, 1) := by decide +kernel
theorem dX7_quiet_13 : decode cX7_quiet 13 = .ok (.iconst 0, 1) := by decide +kernel
theorem dX7_quiet_14 : decode cX7_quiet 14 = .ok (.istore_n 2, 1) := by decide +kernel
theorem dX7_quiet_15 : decode cX7_quiet 15 = .ok (.iload_n 2, 1) := by decide +kernel
theorem dX7_quiet_16 : decode cX7_quiet 16 = .ok (.iload_n 1, 1) := by decide +kernel
theorem dX7_quiet_17 : decode cX7_quiet 17 = .ok (.if_icmp .ge 52, 3) := by decide +kernel
theorem dX7_quiet_20 : decode cX7_quiet 20 = .ok (.iconst 0, 1) := by decide +kernel
theorem dX7_quiet_21 : decode cX7_quiet 21 = .ok (.istore_n 3, 1) := by decide +kernel
theorem dX7_quiet_22 : decode cX7_quiet 22 = .ok (.iload_n 3, 1) := by decide +kernel
theorem dX7_quiet_23 : decode cX7_quiet 23 = .ok (.aload_n 0, 1) := by decide +kernel
theorem dX7_quiet_24 : decode cX7_quiet 24 = .ok (.invokevirtual 94, 3) := by decide +kernel
theorem dX7_quiet_27 : decode cX7_quiet 27 = .ok (.if_icmp .ge 36, 3) := by decide +kernel
theorem dX7_quiet_30 : decode cX7_quiet 30 = .ok (.aload_n 0, 1) := by decide +kernel
theorem dX7_quiet_31 : decode cX7_quiet 31 = .ok (.iload_n 3, 1) := by decide +kernel
theorem dX7_quiet_32 : decode cX7_quiet 32 = .ok (.invokevirtual 97, 3) := by decide +kernel
theorem dX7_quiet_35 : decode cX7_quiet 35 = .ok (.aload_n 0, 1) := by decide +kernel
theorem dX7_quiet_36 : decode cX7_quiet 36 = .ok (.getfield 7, 3) := by decide +kernel
theorem dX7_quiet_39 : decode cX7_quiet 39 = .ok (.bipush 40, 2) := by decide +kernel
theorem dX7_quiet_41 : decode cX7_quiet 41 = .ok (.iconst 4, 1) := by decide +kernel
theorem dX7_quiet_42 : decode cX7_quiet 42 = .ok (.iload_n 3, 1) := by decide +kernel
theorem dX7_quiet_43 : decode cX7_quiet 43 = .ok (.imul, 1) := by decide +kernel
theorem dX7_quiet_44 : decode cX7_quiet 44 = .ok (.iadd, 1) := by decide +kernel
theorem dX7_quiet_45 : decode cX7_quiet 45 = .ok (.iconst 2, 1) := by decide +kernel
theorem dX7_quiet_46 : decode cX7_quiet 46 = .ok (.iadd, 1) := by decide +kernel
theorem dX7_quiet_47 : decode cX7_quiet 47 = .ok (.aload_n 0, 1) := by decide +kernel
theorem dX7_quiet_48 : decode cX7_quiet 48 = .ok (.aload_n 0, 1) := by decide +kernel
theorem dX7_quiet_49 : decode cX7_quiet 49 = .ok (.iload_n 3, 1) := by decide +kernel
theorem dX7_quiet_50 : decode cX7_quiet 50 = .ok (.invokevirtual 101, 3) := by decide +kernel
theorem dX7_quiet_53 : decode cX7_quiet 53 = .ok (.invokevirtual 215, 3) := by decide +kernel
theorem dX7_quiet_56 : decode cX7_quiet 56 = .ok (.iastore, 1) := by decide +kernel
theorem dX7_quiet_57 : decode cX7_quiet 57 = .ok (.iinc 3 1, 3) := by decide +kernel
theorem dX7_quiet_60 : decode cX7_quiet 60 = .ok (.goto (-38), 3) := by decide +kernel
theorem dX7_quiet_63 : decode cX7_quiet 63 = .ok (.iinc 2 1, 3) := by decide +kernel
theorem dX7_quiet_66 : decode cX7_quiet 66 = .ok (.goto (-51), 3) := by decide +kernel
theorem dX7_quiet_69 : decode cX7_quiet 69 = .ok (.iconst 0, 1) := by decide +kernel
theorem dX7_quiet_70 : decode cX7_quiet 70 = .ok (.istore_n 2, 1) := by decide +kernel
theorem dX7_quiet_71 : decode cX7_quiet 71 = .ok (.iconst 0, 1) := by decide +kernel
theorem dX7_quiet_72 : decode cX7_quiet 72 = .ok (.istore_n 3, 1) := by decide +kernel
theorem dX7_quiet_73 : decode cX7_quiet 73 = .ok (.iload_n 3, 1) := by decide +kernel
theorem dX7_quiet_74 : decode cX7_quiet 74 = .ok (.aload_n 0, 1) := by decide +kernel
theorem dX7_quiet_75 : decode cX7_quiet 75 = .ok (.invokevirtual 94, 3) := by decide +kernel
theorem dX7_quiet_78 : decode cX7_quiet 78 = .ok (.if_icmp .ge 25, 3) := by decide +kernel
theorem dX7_quiet_81 : decode cX7_quiet 81 = .ok (.iload_n 2, 1) := by decide +kernel
theorem dX7_quiet_82 : decode cX7_quiet 82 = .ok (.aload_n 0, 1) := by decide +kernel
theorem dX7_quiet_83 : decode cX7_quiet 83 = .ok (.iload_n 3, 1) := by decide +kernel
theorem dX7_quiet_84 : decode cX7_quiet 84 = .ok (.invokevirtual 101, 3) := by decide +kernel
theorem dX7_quiet_87 : decode cX7_quiet 87 = .ok (.ifCond .ne 7, 3) := by decide +kernel
theorem dX7_quiet_90 : decode cX7_quiet 90 = .ok (.iconst 1, 1) := by decide +kernel
theorem dX7_quiet_91 : decode cX7_quiet 91 = .ok (.goto 4, 3) := by decide +kernel
theorem dX7_quiet_94 : decode cX7_quiet 94 = .ok (.iconst 0, 1) := by decide +kernel
theorem dX7_quiet_95 : decode cX7_quiet 95 = .ok (.iadd, 1) := by decide +kernel
theorem dX7_quiet_96 : decode cX7_quiet 96 = .ok (.istore_n 2, 1) := by decide +kernel
theorem dX7_quiet_97 : decode cX7_quiet 97 = .ok (.iinc 3 1, 3) := by decide +kernel
theorem dX7_quiet_100 : decode cX7_quiet 100 = .ok (.goto (-27), 3) := by decide +kernel
theorem dX7_quiet_103 : decode cX7_quiet 103 = .ok (.iload_n 2, 1) := by decide +kernel
theorem dX7_quiet_104 : decode cX7_quiet 104 = .ok (.ireturn, 1) := by decide +kernel
theorem dX7_sees_0 : decode cX7_sees 0 = .ok (.aload_n 0, 1) := by decide +kernel
theorem dX7_sees_1 : decode cX7_sees 1 = .ok (.iload_n 1, 1) := by decide +kernel
theorem dX7_sees_2 : decode cX7_sees 2 = .ok (.invokevirtual 97, 3) := by decide +kernel
theorem dX7_sees_5 : decode cX7_sees 5 = .ok (.aload_n 0, 1) := by decide +kernel
theorem dX7_sees_6 : decode cX7_sees 6 = .ok (.aload_n 0, 1) := by decide +kernel
theorem dX7_sees_7 : decode cX7_sees 7 = .ok (.iload_n 1, 1) := by decide +kernel
theorem dX7_sees_8 : decode cX7_sees 8 = .ok (.invokevirtual 101, 3) := by decide +kernel
theorem dX7_sees_11 : decode cX7_sees 11 = .ok (.invokevirtual 113, 3) := by decide +kernel
theorem dX7_sees_14 : decode cX7_sees 14 = .ok (.ireturn, 1) := by decide +kernel
theorem dX7_furthest_0 : decode cX7_furthest 0 = .ok (.iconst (-1), 1) := by decide +kernel
theorem dX7_furthest_1 : decode cX7_furthest 1 = .ok (.istore_n 1, 1) := by decide +kernel
theorem dX7_furthest_2 : decode cX7_furthest 2 = .ok (.iconst (-1), 1) := by decide +kernel
theorem dX7_furthest_3 : decode cX7_furthest 3 = .ok (.istore_n 2, 1) := by decide +kernel
theorem dX7_furthest_4 : decode cX7_furthest 4 = .ok (.iconst 0, 1) := by decide +kernel
theorem dX7_furthest_5 : decode cX7_furthest 5 = .ok (.istore_n 3, 1) := by decide +kernel
theorem dX7_furthest_6 : decode cX7_furthest 6 = .ok (.iload_n 3, 1) := by decide +kernel
theorem dX7_furthest_7 : decode cX7_furthest 7 = .ok (.aload_n 0, 1) := by decide +kernel
theorem dX7_furthest_8 : decode cX7_furthest 8 = .ok (.invokevirtual 94, 3) := by decide +kernel
theorem dX7_furthest_11 : decode cX7_furthest 11 = .ok (.if_icmp .ge 41, 3) := by decide +kernel
theorem dX7_furthest_14 : decode cX7_furthest 14 = .ok (.aload_n 0, 1) := by decide +kernel
theorem dX7_furthest_15 : decode cX7_furthest 15 = .ok (.iload_n 3, 1) := by decide +kernel
theorem dX7_furthest_16 : decode cX7_furthest 16 = .ok (.invokevirtual 218, 3) := by decide +kernel
theorem dX7_furthest_19 : decode cX7_furthest 19 = .ok (.istore 4, 2) := by decide +kernel
theorem dX7_furthest_21 : decode cX7_furthest 21 = .ok (.iload 4, 2) := by decide +kernel
theorem dX7_furthest_23 : decode cX7_furthest 23 = .ok (.iload_n 2, 1) := by decide +kernel
theorem dX7_furthest_24 : decode cX7_furthest 24 = .ok (.if_icmp .le 7, 3) := by decide +kernel
theorem dX7_furthest_27 : decode cX7_furthest 27 = .ok (.iload_n 3, 1) := by decide +kernel
theorem dX7_furthest_28 : decode cX7_furthest 28 = .ok (.goto 4, 3) := by decide +kernel
theorem dX7_furthest_31 : decode cX7_furthest 31 = .ok (.iload_n 1, 1) := by decide +kernel
theorem dX7_furthest_32 : decode cX7_furthest 32 = .ok (.istore_n 1, 1) := by decide +kernel
theorem dX7_furthest_33 : decode cX7_furthest 33 = .ok (.iload 4, 2) := by decide +kernel
theorem dX7_furthest_35 : decode cX7_furthest 35 = .ok (.iload_n 2, 1) := by decide +kernel
theorem dX7_furthest_36 : decode cX7_furthest 36 = .ok (.if_icmp .le 8, 3) := by decide +kernel
theorem dX7_furthest_39 : decode cX7_furthest 39 = .ok (.iload 4, 2) := by decide +kernel
theorem dX7_furthest_41 : decode cX7_furthest 41 = .ok (.goto 4, 3) := by decide +kernel
theorem dX7_furthest_44 : decode cX7_furthest 44 = .ok (.iload_n 2, 1) := by decide +kernel
theorem dX7_furthest_45 : decode cX7_furthest 45 = .ok (.istore_n 2, 1) := by decide +kernel
theorem dX7_furthest_46 : decode cX7_furthest 46 = .ok (.iinc 3 1, 3) := by decide +kernel
theorem dX7_furthest_49 : decode cX7_furthest 49 = .ok (.goto (-43), 3) := by decide +kernel
theorem dX7_furthest_52 : decode cX7_furthest 52 = .ok (.iload_n 1, 1) := by decide +kernel
theorem dX7_furthest_53 : decode cX7_furthest 53 = .ok (.ireturn, 1) := by decide +kernel
theorem dX7_sight_0 : decode cX7_sight 0 = .ok (.aload_n 0, 1) := by decide +kernel
theorem dX7_sight_1 : decode cX7_sight 1 = .ok (.invokevirtual 94, 3) := by decide +kernel
theorem dX7_sight_4 : decode cX7_sight 4 = .ok (.ifCond .ne 7, 3) := by decide +kernel
theorem dX7_sight_7 : decode cX7_sight 7 = .ok (.iconst 0, 1) := by decide +kernel
theorem dX7_sight_8 : decode cX7_sight 8 = .ok (.goto 11, 3) := by decide +kernel
theorem dX7_sight_11 : decode cX7_sight 11 = .ok (.aload_n 0, 1) := by decide +kernel
theorem dX7_sight_12 : decode cX7_sight 12 = .ok (.aload_n 0, 1) := by decide +kernel
theorem dX7_sight_13 : decode cX7_sight 13 = .ok (.invokevirtual 221, 3) := by decide +kernel
theorem dX7_sight_16 : decode cX7_sight 16 = .ok (.invokevirtual 218, 3) := by decide +kernel
theorem dX7_sight_19 : decode cX7_sight 19 = .ok (.ireturn, 1) := by decide +kernel
theorem dX7_view_0 : decode cX7_view 0 = .ok (.iload_n 1, 1) := by decide +kernel
theorem dX7_view_1 : decode cX7_view 1 = .ok (.iconst 0, 1) := by decide +kernel
theorem dX7_view_2 : decode cX7_view 2 = .ok (.iconst 4, 1) := by decide +kernel
theorem dX7_view_3 : decode cX7_view 3 = .ok (.invokestatic 78, 3) := by decide +kernel
theorem dX7_view_6 : decode cX7_view 6 = .ok (.ifCond .ne 6, 3) := by decide +kernel
theorem dX7_view_9 : decode cX7_view 9 = .ok (.bipush (-2), 2) := by decide +kernel
theorem dX7_view_11 : decode cX7_view 11 = .ok (.ireturn, 1) := by decide +kernel
theorem dX7_view_12 : decode cX7_view 12 = .ok (.aload_n 0, 1) := by decide +kernel
theorem dX7_view_13 : decode cX7_view 13 = .ok (.invokevirtual 224, 3) := by decide +kernel
theorem dX7_view_16 : decode cX7_view 16 = .ok (.istore_n 2, 1) := by decide +kernel
theorem dX7_view_17 : decode cX7_view 17 = .ok (.iconst 0, 1) := by decide +kernel
theorem dX7_view_18 : decode cX7_view 18 = .ok (.istore_n 3, 1) := by decide +kernel
theorem dX7_view_19 : decode cX7_view 19 = .ok (.iconst 0, 1) := by decide +kernel
theorem dX7_view_20 : decode cX7_view 20 = .ok (.istore 4, 2) := by decide +kernel
theorem dX7_view_22 : decode cX7_view 22 = .ok (.iconst (-1), 1) := by decide +kernel
theorem dX7_view_23 : decode cX7_view 23 = .ok (.istore 5, 2) := by decide +kernel
theorem dX7_view_25 : decode cX7_view 25 = .ok (.iconst 0, 1) := by decide +kernel
theorem dX7_view_26 : decode cX7_view 26 = .ok (.istore 6, 2) := by decide +kernel
theorem dX7_view_28 : decode cX7_view 28 = .ok (.iload 6, 2) := by decide +kernel
theorem dX7_view_30 : decode cX7_view 30 = .ok (.bipush 40, 2) := by decide +kernel
theorem dX7_view_32 : decode cX7_view 32 = .ok (.if_icmp .ge 57, 3) := by decide +kernel
theorem dX7_view_35 : decode cX7_view 35 = .ok (.aload_n 0, 1) := by decide +kernel
theorem dX7_view_36 : decode cX7_view 36 = .ok (.getfield 7, 3) := by decide +kernel
theorem dX7_view_39 : decode cX7_view 39 = .ok (.iload 6, 2) := by decide +kernel
theorem dX7_view_41 : decode cX7_view 41 = .ok (.iaload, 1) := by decide +kernel
theorem dX7_view_42 : decode cX7_view 42 = .ok (.ifCond .eq 41, 3) := by decide +kernel
theorem dX7_view_45 : decode cX7_view 45 = .ok (.iload 6, 2) := by decide +kernel
theorem dX7_view_47 : decode cX7_view 47 = .ok (.istore 5, 2) := by decide +kernel
theorem dX7_view_49 : decode cX7_view 49 = .ok (.iload_n 3, 1) := by decide +kernel
theorem dX7_view_50 : decode cX7_view 50 = .ok (.iload 6, 2) := by decide +kernel
theorem dX7_view_52 : decode cX7_view 52 = .ok (.iload_n 2, 1) := by decide +kernel
theorem dX7_view_53 : decode cX7_view 53 = .ok (.if_icmp .ge 7, 3) := by decide +kernel
theorem dX7_view_56 : decode cX7_view 56 = .ok (.iconst 1, 1) := by decide +kernel
theorem dX7_view_57 : decode cX7_view 57 = .ok (.goto 4, 3) := by decide +kernel
theorem dX7_view_60 : decode cX7_view 60 = .ok (.iconst 0, 1) := by decide +kernel
theorem dX7_view_61 : decode cX7_view 61 = .ok (.iadd, 1) := by decide +kernel
theorem dX7_view_62 : decode cX7_view 62 = .ok (.istore_n 3, 1) := by decide +kernel
theorem dX7_view_63 : decode cX7_view 63 = .ok (.iload 6, 2) := by decide +kernel
theorem dX7_view_65 : decode cX7_view 65 = .ok (.iload_n 2, 1) := by decide +kernel
theorem dX7_view_66 : decode cX7_view 66 = .ok (.if_icmp .ge 13, 3) := by decide +kernel
theorem dX7_view_69 : decode cX7_view 69 = .ok (.aload_n 0, 1) := by decide +kernel
theorem dX7_view_70 : decode cX7_view 70 = .ok (.getfield 7, 3) := by decide +kernel
theorem dX7_view_73 : decode cX7_view 73 = .ok (.iload 6, 2) := by decide +kernel
theorem dX7_view_75 : decode cX7_view 75 = .ok (.iaload, 1) := by decide +kernel
theorem dX7_view_76 : decode cX7_view 76 = .ok (.goto 5, 3) := by decide +kernel
theorem dX7_view_79 : decode cX7_view 79 = .ok (.iload 4, 2) := by decide +kernel
theorem dX7_view_81 : decode cX7_view 81 = .ok (.istore 4, 2) := by decide +kernel
theorem dX7_view_83 : decode cX7_view 83 = .ok (.iinc 6 1, 3) := by decide +kernel
theorem dX7_view_86 : decode cX7_view 86 = .ok (.goto (-58), 3) := by decide +kernel
theorem dX7_view_89 : decode cX7_view 89 = .ok (.iload_n 1, 1) := by decide +kernel
theorem dX7_view_90 : decode cX7_view 90 = .ok (.ifCond .ne 7, 3) := by decide +kernel
theorem dX7_view_93 : decode cX7_view 93 = .ok (.iload_n 2, 1) := by decide +kernel
theorem dX7_view_94 : decode cX7_view 94 = .ok (.goto 51, 3) := by decide +kernel
theorem dX7_view_97 : decode cX7_view 97 = .ok (.iload_n 1, 1) := by decide +kernel
theorem dX7_view_98 : decode cX7_view 98 = .ok (.iconst 1, 1) := by decide +kernel
theorem dX7_view_99 : decode cX7_view 99 = .ok (.if_icmp .ne 7, 3) := by decide +kernel
theorem dX7_view_102 : decode cX7_view 102 = .ok (.iload_n 3, 1) := by decide +kernel
theorem dX7_view_103 : decode cX7_view 103 = .ok (.goto 42, 3) := by decide +kernel
theorem dX7_view_106 : decode cX7_view 106 = .ok (.iload_n 1, 1) := by decide +kernel
theorem dX7_view_107 : decode cX7_view 107 = .ok (.iconst 2, 1) := by decide +kernel
theorem dX7_view_108 : decode cX7_view 108 = .ok (.if_icmp .ne 8, 3) := by decide +kernel
theorem dX7_view_111 : decode cX7_view 111 = .ok (.iload 4, 2) := by decide +kernel
theorem dX7_view_113 : decode cX7_view 113 = .ok (.goto 32, 3) := by decide +kernel
theorem dX7_view_116 : decode cX7_view 116 = .ok (.iload_n 1, 1) := by decide +kernel
theorem dX7_view_117 : decode cX7_view 117 = .ok (.iconst 3, 1) := by decide +kernel
theorem dX7_view_118 : decode cX7_view 118 = .ok (.if_icmp .ne 10, 3) := by decide +kernel
theorem dX7_view_121 : decode cX7_view 121 = .ok (.aload_n 0, 1) := by decide +kernel
theorem dX7_view_122 : decode cX7_view 122 = .ok (.invokevirtual 221, 3) := by decide +kernel
theorem dX7_view_125 : decode cX7_view 125 = .ok (.goto 20, 3) := by decide +kernel
theorem dX7_view_128 : decode cX7_view 128 = .ok (.iload 5, 2) := by decide +kernel
theorem dX7_view_130 : decode cX7_view 130 = .ok (.iconst (-1), 1) := by decide +kernel
theorem dX7_view_131 : decode cX7_view 131 = .ok (.if_icmp .ne 7, 3) := by decide +kernel
theorem dX7_view_134 : decode cX7_view 134 = .ok (.iconst 0, 1) := by decide +kernel
theorem dX7_view_135 : decode cX7_view 135 = .ok (.goto 10, 3) := by decide +kernel
theorem dX7_view_138 : decode cX7_view 138 = .ok (.aload_n 0, 1) := by decide +kernel
theorem dX7_view_139 : decode cX7_view 139 = .ok (.iload 5, 2) := by decide +kernel
theorem dX7_view_141 : decode cX7_view 141 = .ok (.iconst 1, 1) := by decide +kernel
theorem dX7_view_142 : decode cX7_view 142 = .ok (.invokevirtual 227, 3) := by decide +kernel
theorem dX7_view_145 : decode cX7_view 145 = .ok (.ireturn, 1) := by decide +kernel
theorem dX7_bits_0 : decode cX7_bits 0 = .ok (.lconst 1, 1) := by decide +kernel
theorem dX7_bits_1 : decode cX7_bits 1 = .ok (.iload_n 0, 1) := by decide +kernel
theorem dX7_bits_2 : decode cX7_bits 2 = .ok (.lshl, 1) := by decide +kernel
theorem dX7_bits_3 : decode cX7_bits 3 = .ok (.lconst 1, 1) := by decide +kernel
theorem dX7_bits_4 : decode cX7_bits 4 = .ok (.lsub, 1) := by decide +kernel
theorem dX7_bits_5 : decode cX7_bits 5 = .ok (.lreturn, 1) := by decide +kernel
theorem dX7_clear_0 : decode cX7_clear 0 = .ok (.iload_n 1, 1) := by decide +kernel
theorem dX7_clear_1 : decode cX7_clear 1 = .ok (.iconst 0, 1) := by decide +kernel
theorem dX7_clear_2 : decode cX7_clear 2 = .ok (.iconst 2, 1) := by decide +kernel
theorem dX7_clear_3 : decode cX7_clear 3 = .ok (.invokestatic 78, 3) := by decide +kernel
theorem dX7_clear_6 : decode cX7_clear 6 = .ok (.ifCond .ne 7, 3) := by decide +kernel
theorem dX7_clear_9 : decode cX7_clear 9 = .ok (.ldc2_w 230, 3) := by decide +kernel
theorem dX7_clear_12 : decode cX7_clear 12 = .ok (.lreturn, 1) := by decide +kernel
theorem dX7_clear_13 : decode cX7_clear 13 = .ok (.iload_n 1, 1) := by decide +kernel
theorem dX7_clear_14 : decode cX7_clear 14 = .ok (.ifCond .ne 11, 3) := by decide +kernel
theorem dX7_clear_17 : decode cX7_clear 17 = .ok (.aload_n 0, 1) := by decide +kernel
theorem dX7_clear_18 : decode cX7_clear 18 = .ok (.invokevirtual 224, 3) := by decide +kernel
theorem dX7_clear_21 : decode cX7_clear 21 = .ok (.invokestatic 232, 3) := by decide +kernel
theorem dX7_clear_24 : decode cX7_clear 24 = .ok (.lreturn, 1) := by decide +kernel
theorem dX7_clear_25 : decode cX7_clear 25 = .ok (.iload_n 1, 1) := by decide +kernel
theorem dX7_clear_26 : decode cX7_clear 26 = .ok (.iconst 1, 1) := by decide +kernel
theorem dX7_clear_27 : decode cX7_clear 27 = .ok (.if_icmp .ne 17, 3) := by decide +kernel
theorem dX7_clear_30 : decode cX7_clear 30 = .ok (.bipush 40, 2) := by decide +kernel
theorem dX7_clear_32 : decode cX7_clear 32 = .ok (.invokestatic 232, 3) := by decide +kernel
theorem dX7_clear_35 : decode cX7_clear 35 = .ok (.aload_n 0, 1) := by decide +kernel
theorem dX7_clear_36 : decode cX7_clear 36 = .ok (.invokevirtual 236, 3) := by decide +kernel
theorem dX7_clear_39 : decode cX7_clear 39 = .ok (.invokestatic 232, 3) := by decide +kernel
theorem dX7_clear_42 : decode cX7_clear 42 = .ok (.lsub, 1) := by decide +kernel
theorem dX7_clear_43 : decode cX7_clear 43 = .ok (.lreturn, 1) := by decide +kernel
theorem dX7_clear_44 : decode cX7_clear 44 = .ok (.aload_n 0, 1) := by decide +kernel
theorem dX7_clear_45 : decode cX7_clear 45 = .ok (.invokevirtual 224, 3) := by decide +kernel
theorem dX7_clear_48 : decode cX7_clear 48 = .ok (.istore_n 2, 1) := by decide +kernel
theorem dX7_clear_49 : decode cX7_clear 49 = .ok (.lconst 0, 1) := by decide +kernel
theorem dX7_clear_50 : decode cX7_clear 50 = .ok (.lstore_n 3, 1) := by decide +kernel
theorem dX7_clear_51 : decode cX7_clear 51 = .ok (.iconst 0, 1) := by decide +kernel
theorem dX7_clear_52 : decode cX7_clear 52 = .ok (.istore 5, 2) := by decide +kernel
theorem dX7_clear_54 : decode cX7_clear 54 = .ok (.iload 5, 2) := by decide +kernel
theorem dX7_clear_56 : decode cX7_clear 56 = .ok (.iload_n 2, 1) := by decide +kernel
theorem dX7_clear_57 : decode cX7_clear 57 = .ok (.if_icmp .ge 30, 3) := by decide +kernel
theorem dX7_clear_60 : decode cX7_clear 60 = .ok (.lload_n 3, 1) := by decide +kernel
theorem dX7_clear_61 : decode cX7_clear 61 = .ok (.aload_n 0, 1) := by decide +kernel
theorem dX7_clear_62 : decode cX7_clear 62 = .ok (.getfield 7, 3) := by decide +kernel
theorem dX7_clear_65 : decode cX7_clear 65 = .ok (.iload 5, 2) := by decide +kernel
theorem dX7_clear_67 : decode cX7_clear 67 = .ok (.iaload, 1) := by decide +kernel
theorem dX7_clear_68 : decode cX7_clear 68 = .ok (.ifCond .eq 10, 3) := by decide +kernel
theorem dX7_clear_71 : decode cX7_clear 71 = .ok (.lconst 1, 1) := by decide +kernel
theorem dX7_clear_72 : decode cX7_clear 72 = .ok (.iload 5, 2) := by decide +kernel
theorem dX7_clear_74 : decode cX7_clear 74 = .ok (.lshl, 1) := by decide +kernel
theorem dX7_clear_75 : decode cX7_clear 75 = .ok (.goto 4, 3) := by decide +kernel
theorem dX7_clear_78 : decode cX7_clear 78 = .ok (.lconst 0, 1) := by decide +kernel
theorem dX7_clear_79 : decode cX7_clear 79 = .ok (.lor, 1) := by decide +kernel
theorem dX7_clear_80 : decode cX7_clear 80 = .ok (.lstore_n 3, 1) := by decide +kernel
theorem dX7_clear_81 : decode cX7_clear 81 = .ok (.iinc 5 1, 3) := by decide +kernel
theorem dX7_clear_84 : decode cX7_clear 84 = .ok (.goto (-30), 3) := by decide +kernel
theorem dX7_clear_87 : decode cX7_clear 87 = .ok (.lload_n 3, 1) := by decide +kernel
theorem dX7_clear_88 : decode cX7_clear 88 = .ok (.lreturn, 1) := by decide +kernel
theorem dX7_fill_0 : decode cX7_fill 0 = .ok (.aload_n 0, 1) := by decide +kernel
theorem dX7_fill_1 : decode cX7_fill 1 = .ok (.iload_n 1, 1) := by decide +kernel
theorem dX7_fill_2 : decode cX7_fill 2 = .ok (.invokevirtual 97, 3) := by decide +kernel
theorem dX7_fill_5 : decode cX7_fill 5 = .ok (.iconst 0, 1) := by decide +kernel
theorem dX7_fill_6 : decode cX7_fill 6 = .ok (.istore_n 2, 1) := by decide +kernel
theorem dX7_fill_7 : decode cX7_fill 7 = .ok (.iload_n 2, 1) := by decide +kernel
theorem dX7_fill_8 : decode cX7_fill 8 = .ok (.bipush 100, 2) := by decide +kernel
theorem dX7_fill_10 : decode cX7_fill 10 = .ok (.if_icmp .ge 51, 3) := by decide +kernel
theorem dX7_fill_13 : decode cX7_fill 13 = .ok (.aload_n 0, 1) := by decide +kernel
theorem dX7_fill_14 : decode cX7_fill 14 = .ok (.getfield 46, 3) := by decide +kernel
theorem dX7_fill_17 : decode cX7_fill 17 = .ok (.iload_n 2, 1) := by decide +kernel
theorem dX7_fill_18 : decode cX7_fill 18 = .ok (.aload_n 0, 1) := by decide +kernel
theorem dX7_fill_19 : decode cX7_fill 19 = .ok (.iload_n 2, 1) := by decide +kernel
theorem dX7_fill_20 : decode cX7_fill 20 = .ok (.invokevirtual 113, 3) := by decide +kernel
theorem dX7_fill_23 : decode cX7_fill 23 = .ok (.iastore, 1) := by decide +kernel
theorem dX7_fill_24 : decode cX7_fill 24 = .ok (.iconst 0, 1) := by decide +kernel
theorem dX7_fill_25 : decode cX7_fill 25 = .ok (.istore_n 3, 1) := by decide +kernel
theorem dX7_fill_26 : decode cX7_fill 26 = .ok (.iload_n 3, 1) := by decide +kernel
theorem dX7_fill_27 : decode cX7_fill 27 = .ok (.bipush 6, 2) := by decide +kernel
theorem dX7_fill_29 : decode cX7_fill 29 = .ok (.if_icmp .ge 26, 3) := by decide +kernel
theorem dX7_fill_32 : decode cX7_fill 32 = .ok (.aload_n 0, 1) := by decide +kernel
theorem dX7_fill_33 : decode cX7_fill 33 = .ok (.getfield 43, 3) := by decide +kernel
theorem dX7_fill_36 : decode cX7_fill 36 = .ok (.bipush 6, 2) := by decide +kernel
theorem dX7_fill_38 : decode cX7_fill 38 = .ok (.iload_n 2, 1) := by decide +kernel
theorem dX7_fill_39 : decode cX7_fill 39 = .ok (.imul, 1) := by decide +kernel
theorem dX7_fill_40 : decode cX7_fill 40 = .ok (.iload_n 3, 1) := by decide +kernel
theorem dX7_fill_41 : decode cX7_fill 41 = .ok (.iadd, 1) := by decide +kernel
theorem dX7_fill_42 : decode cX7_fill 42 = .ok (.aload_n 0, 1) := by decide +kernel
theorem dX7_fill_43 : decode cX7_fill 43 = .ok (.iload_n 2, 1) := by decide +kernel
theorem dX7_fill_44 : decode cX7_fill 44 = .ok (.iload_n 3, 1) := by decide +kernel
theorem dX7_fill_45 : decode cX7_fill 45 = .ok (.invokevirtual 212, 3) := by decide +kernel
theorem dX7_fill_48 : decode cX7_fill 48 = .ok (.iastore, 1) := by decide +kernel
theorem dX7_fill_49 : decode cX7_fill 49 = .ok (.iinc 3 1, 3) := by decide +kernel
theorem dX7_fill_52 : decode cX7_fill 52 = .ok (.goto (-26), 3) := by decide +kernel
theorem dX7_fill_55 : decode cX7_fill 55 = .ok (.iinc 2 1, 3) := by decide +kernel
theorem dX7_fill_58 : decode cX7_fill 58 = .ok (.goto (-51), 3) := by decide +kernel
theorem dX7_fill_61 : decode cX7_fill 61 = .ok (.return_, 1) := by decide +kernel
theorem dX7_fillWants_0 : decode cX7_fillWants 0 = .ok (.iconst 0, 1) := by decide +kernel
theorem dX7_fillWants_1 : decode cX7_fillWants 1 = .ok (.istore_n 2, 1) := by decide +kernel
theorem dX7_fillWants_2 : decode cX7_fillWants 2 = .ok (.iload_n 2, 1) := by decide +kernel
theorem dX7_fillWants_3 : decode cX7_fillWants 3 = .ok (.bipush 100, 2) := by decide +kernel
theorem dX7_fillWants_5 : decode cX7_fillWants 5 = .ok (.if_icmp .ge 42, 3) := by decide +kernel
theorem dX7_fillWants_8 : decode cX7_fillWants 8 = .ok (.aload_n 0, 1) := by decide +kernel
theorem dX7_fillWants_9 : decode cX7_fillWants 9 = .ok (.getfield 49, 3) := by decide +kernel
theorem dX7_fillWants_12 : decode cX7_fillWants 12 = .ok (.iload_n 2, 1) := by decide +kernel
theorem dX7_fillWants_13 : decode cX7_fillWants 13 = .ok (.iload_n 1, 1) := by decide +kernel
theorem dX7_fillWants_14 : decode cX7_fillWants 14 = .ok (.iconst (-1), 1) := by decide +kernel
theorem dX7_fillWants_15 : decode cX7_fillWants 15 = .ok (.if_icmp .ne 10, 3) := by decide +kernel
theorem dX7_fillWants_18 : decode cX7_fillWants 18 = .ok (.iload_n 2, 1) := by decide +kernel
theorem dX7_fillWants_19 : decode cX7_fillWants 19 = .ok (.ifCond .ne 20, 3) := by decide +kernel
theorem dX7_fillWants_22 : decode cX7_fillWants 22 = .ok (.goto 13, 3) := by decide +kernel
theorem dX7_fillWants_25 : decode cX7_fillWants 25 = .ok (.aload_n 0, 1) := by decide +kernel
theorem dX7_fillWants_26 : decode cX7_fillWants 26 = .ok (.getfield 46, 3) := by decide +kernel
theorem dX7_fillWants_29 : decode cX7_fillWants 29 = .ok (.iload_n 2, 1) := by decide +kernel
theorem dX7_fillWants_30 : decode cX7_fillWants 30 = .ok (.iaload, 1) := by decide +kernel
theorem dX7_fillWants_31 : decode cX7_fillWants 31 = .ok (.iload_n 1, 1) := by decide +kernel
theorem dX7_fillWants_32 : decode cX7_fillWants 32 = .ok (.if_icmp .lt 7, 3) := by decide +kernel
theorem dX7_fillWants_35 : decode cX7_fillWants 35 = .ok (.iconst 0, 1) := by decide +kernel
theorem dX7_fillWants_36 : decode cX7_fillWants 36 = .ok (.goto 4, 3) := by decide +kernel
theorem dX7_fillWants_39 : decode cX7_fillWants 39 = .ok (.iconst (-1), 1) := by decide +kernel
theorem dX7_fillWants_40 : decode cX7_fillWants 40 = .ok (.iastore, 1) := by decide +kernel
theorem dX7_fillWants_41 : decode cX7_fillWants 41 = .ok (.iinc 2 1, 3) := by decide +kernel
theorem dX7_fillWants_44 : decode cX7_fillWants 44 = .ok (.goto (-42), 3) := by decide +kernel
theorem dX7_fillWants_47 : decode cX7_fillWants 47 = .ok (.iconst 1, 1) := by decide +kernel
theorem dX7_fillWants_48 : decode cX7_fillWants 48 = .ok (.istore_n 2, 1) := by decide +kernel
theorem dX7_fillWants_49 : decode cX7_fillWants 49 = .ok (.iconst 1, 1) := by decide +kernel
theorem dX7_fillWants_50 : decode cX7_fillWants 50 = .ok (.istore_n 3, 1) := by decide +kernel
theorem dX7_fillWants_51 : decode cX7_fillWants 51 = .ok (.iload_n 2, 1) := by decide +kernel
theorem dX7_fillWants_52 : decode cX7_fillWants 52 = .ok (.ifCond .eq 88, 3) := by decide +kernel
theorem dX7_fillWants_55 : decode cX7_fillWants 55 = .ok (.iconst 0, 1) := by decide +kernel
theorem dX7_fillWants_56 : decode cX7_fillWants 56 = .ok (.istore_n 2, 1) := by decide +kernel
theorem dX7_fillWants_57 : decode cX7_fillWants 57 = .ok (.iconst 0, 1) := by decide +kernel
theorem dX7_fillWants_58 : decode cX7_fillWants 58 = .ok (.istore 4, 2) := by decide +kernel
theorem dX7_fillWants_60 : decode cX7_fillWants 60 = .ok (.iload 4, 2) := by decide +kernel
theorem dX7_fillWants_62 : decode cX7_fillWants 62 = .ok (.bipush 100, 2) := by decide +kernel
theorem dX7_fillWants_64 : decode cX7_fillWants 64 = .ok (.if_icmp .ge 70, 3) := by decide +kernel
theorem dX7_fillWants_67 : decode cX7_fillWants 67 = .ok (.iconst 0, 1) := by decide +kernel
theorem dX7_fillWants_68 : decode cX7_fillWants 68 = .ok (.istore 5, 2) := by decide +kernel
theorem dX7_fillWants_70 : decode cX7_fillWants 70 = .ok (.iload 5, 2) := by decide +kernel
theorem dX7_fillWants_72 : decode cX7_fillWants 72 = .ok (.bipush 6, 2) := by decide +kernel
theorem dX7_fillWants_74 : decode cX7_fillWants 74 = .ok (.if_icmp .ge 54, 3) := by decide +kernel
theorem dX7_fillWants_77 : decode cX7_fillWants 77 = .ok (.aload_n 0, 1) := by decide +kernel
theorem dX7_fillWants_78 : decode cX7_fillWants 78 = .ok (.getfield 49, 3) := by decide +kernel
theorem dX7_fillWants_81 : decode cX7_fillWants 81 = .ok (.iload 4, 2) := by decide +kernel
theorem dX7_fillWants_83 : decode cX7_fillWants 83 = .ok (.iaload, 1) := by decide +kernel
theorem dX7_fillWants_84 : decode cX7_fillWants 84 = .ok (.iconst (-1), 1) := by decide +kernel
theorem dX7_fillWants_85 : decode cX7_fillWants 85 = .ok (.if_icmp .ne 43, 3) := by decide +kernel
theorem dX7_fillWants_88 : decode cX7_fillWants 88 = .ok (.aload_n 0, 1) := by decide +kernel
theorem dX7_fillWants_89 : decode cX7_fillWants 89 = .ok (.getfield 49, 3) := by decide +kernel
theorem dX7_fillWants_92 : decode cX7_fillWants 92 = .ok (.aload_n 0, 1) := by decide +kernel
theorem dX7_fillWants_93 : decode cX7_fillWants 93 = .ok (.getfield 43, 3) := by decide +kernel
theorem dX7_fillWants_96 : decode cX7_fillWants 96 = .ok (.bipush 6, 2) := by decide +kernel
theorem dX7_fillWants_98 : decode cX7_fillWants 98 = .ok (.iload 4, 2) := by decide +kernel
theorem dX7_fillWants_100 : decode cX7_fillWants 100 = .ok (.imul, 1) := by decide +kernel
theorem dX7_fillWants_101 : decode cX7_fillWants 101 = .ok (.iload 5, 2) := by decide +kernel
theorem dX7_fillWants_103 : decode cX7_fillWants 103 = .ok (.iadd, 1) := by decide +kernel
theorem dX7_fillWants_104 : decode cX7_fillWants 104 = .ok (.iaload, 1) := by decide +kernel
theorem dX7_fillWants_105 : decode cX7_fillWants 105 = .ok (.iaload, 1) := by decide +kernel
theorem dX7_fillWants_106 : decode cX7_fillWants 106 = .ok (.iload_n 3, 1) := by decide +kernel
theorem dX7_fillWants_107 : decode cX7_fillWants 107 = .ok (.iconst 1, 1) := by decide +kernel
theorem dX7_fillWants_108 : decode cX7_fillWants 108 = .ok (.isub, 1) := by decide +kernel
theorem dX7_fillWants_109 : decode cX7_fillWants 109 = .ok (.if_icmp .ne 13, 3) := by decide +kernel
theorem dX7_fillWants_112 : decode cX7_fillWants 112 = .ok (.aload_n 0, 1) := by decide +kernel
theorem dX7_fillWants_113 : decode cX7_fillWants 113 = .ok (.getfield 49, 3) := by decide +kernel
theorem dX7_fillWants_116 : decode cX7_fillWants 116 = .ok (.iload 4, 2) := by decide +kernel
theorem dX7_fillWants_118 : decode cX7_fillWants 118 = .ok (.iload_n 3, 1) := by decide +kernel
theorem dX7_fillWants_119 : decode cX7_fillWants 119 = .ok (.iastore, 1) := by decide +kernel
theorem dX7_fillWants_120 : decode cX7_fillWants 120 = .ok (.iconst 1, 1) := by decide +kernel
theorem dX7_fillWants_121 : decode cX7_fillWants 121 = .ok (.istore_n 2, 1) := by decide +kernel
theorem dX7_fillWants_122 : decode cX7_fillWants 122 = .ok (.iinc 5 1, 3) := by decide +kernel
theorem dX7_fillWants_125 : decode cX7_fillWants 125 = .ok (.goto (-55), 3) := by decide +kernel
theorem dX7_fillWants_128 : decode cX7_fillWants 128 = .ok (.iinc 4 1, 3) := by decide +kernel
theorem dX7_fillWants_131 : decode cX7_fillWants 131 = .ok (.goto (-71), 3) := by decide +kernel
theorem dX7_fillWants_134 : decode cX7_fillWants 134 = .ok (.iinc 3 1, 3) := by decide +kernel
theorem dX7_fillWants_137 : decode cX7_fillWants 137 = .ok (.goto (-86), 3) := by decide +kernel
theorem dX7_fillWants_140 : decode cX7_fillWants 140 = .ok (.return_, 1) := by decide +kernel
theorem dX7_fewest_0 : decode cX7_fewest 0 = .ok (.aload_n 0, 1) := by decide +kernel
theorem dX7_fewest_1 : decode cX7_fewest 1 = .ok (.iload_n 1, 1) := by decide +kernel
theorem dX7_fewest_2 : decode cX7_fewest 2 = .ok (.invokevirtual 82, 3) := by decide +kernel
theorem dX7_fewest_5 : decode cX7_fewest 5 = .ok (.ifCond .eq 22, 3) := by decide +kernel
theorem dX7_fewest_8 : decode cX7_fewest 8 = .ok (.iload_n 2, 1) := by decide +kernel
theorem dX7_fewest_9 : decode cX7_fewest 9 = .ok (.iconst 0, 1) := by decide +kernel
theorem dX7_fewest_10 : decode cX7_fewest 10 = .ok (.bipush 40, 2) := by decide +kernel
theorem dX7_fewest_12 : decode cX7_fewest 12 = .ok (.invokestatic 78, 3) := by decide +kernel
theorem dX7_fewest_15 : decode cX7_fewest 15 = .ok (.ifCond .eq 12, 3) := by decide +kernel
theorem dX7_fewest_18 : decode cX7_fewest 18 = .ok (.iload_n 3, 1) := by decide +kernel
theorem dX7_fewest_19 : decode cX7_fewest 19 = .ok (.iconst 0, 1) := by decide +kernel
theorem dX7_fewest_20 : decode cX7_fewest 20 = .ok (.iconst 1, 1) := by decide +kernel
theorem dX7_fewest_21 : decode cX7_fewest 21 = .ok (.invokestatic 78, 3) := by decide +kernel
theorem dX7_fewest_24 : decode cX7_fewest 24 = .ok (.ifCond .ne 6, 3) := by decide +kernel
theorem dX7_fewest_27 : decode cX7_fewest 27 = .ok (.bipush (-2), 2) := by decide +kernel
theorem dX7_fewest_29 : decode cX7_fewest 29 = .ok (.ireturn, 1) := by decide +kernel
theorem dX7_fewest_30 : decode cX7_fewest 30 = .ok (.aload_n 0, 1) := by decide +kernel
theorem dX7_fewest_31 : decode cX7_fewest 31 = .ok (.iload_n 1, 1) := by decide +kernel
theorem dX7_fewest_32 : decode cX7_fewest 32 = .ok (.invokevirtual 239, 3) := by decide +kernel
theorem dX7_fewest_35 : decode cX7_fewest 35 = .ok (.aload_n 0, 1) := by decide +kernel
theorem dX7_fewest_36 : decode cX7_fewest 36 = .ok (.iload_n 2, 1) := by decide +kernel
theorem dX7_fewest_37 : decode cX7_fewest 37 = .ok (.invokevirtual 242, 3) := by decide +kernel
theorem dX7_fewest_40 : decode cX7_fewest 40 = .ok (.aload_n 0, 1) := by decide +kernel
theorem dX7_fewest_41 : decode cX7_fewest 41 = .ok (.iload_n 1, 1) := by decide +kernel
theorem dX7_fewest_42 : decode cX7_fewest 42 = .ok (.invokevirtual 101, 3) := by decide +kernel
theorem dX7_fewest_45 : decode cX7_fewest 45 = .ok (.istore 4, 2) := by decide +kernel
theorem dX7_fewest_47 : decode cX7_fewest 47 = .ok (.iload_n 3, 1) := by decide +kernel
theorem dX7_fewest_48 : decode cX7_fewest 48 = .ok (.ifCond .eq 26, 3) := by decide +kernel
theorem dX7_fewest_51 : decode cX7_fewest 51 = .ok (.aload_n 0, 1) := by decide +kernel
theorem dX7_fewest_52 : decode cX7_fewest 52 = .ok (.getfield 49, 3) := by decide +kernel
theorem dX7_fewest_55 : decode cX7_fewest 55 = .ok (.iload 4, 2) := by decide +kernel
theorem dX7_fewest_57 : decode cX7_fewest 57 = .ok (.iaload, 1) := by decide +kernel
theorem dX7_fewest_58 : decode cX7_fewest 58 = .ok (.iconst (-1), 1) := by decide +kernel
theorem dX7_fewest_59 : decode cX7_fewest 59 = .ok (.if_icmp .eq 15, 3) := by decide +kernel
theorem dX7_fewest_62 : decode cX7_fewest 62 = .ok (.aload_n 0, 1) := by decide +kernel
theorem dX7_fewest_63 : decode cX7_fewest 63 = .ok (.getfield 49, 3) := by decide +kernel
theorem dX7_fewest_66 : decode cX7_fewest 66 = .ok (.iload 4, 2) := by decide +kernel
theorem dX7_fewest_68 : decode cX7_fewest 68 = .ok (.iaload, 1) := by decide +kernel
theorem dX7_fewest_69 : decode cX7_fewest 69 = .ok (.bipush 9, 2) := by decide +kernel
theorem dX7_fewest_71 : decode cX7_fewest 71 = .ok (.if_icmp .le 19, 3) := by decide +kernel
theorem dX7_fewest_74 : decode cX7_fewest 74 = .ok (.iload_n 3, 1) := by decide +kernel
theorem dX7_fewest_75 : decode cX7_fewest 75 = .ok (.ifCond .ne 13, 3) := by decide +kernel
theorem dX7_fewest_78 : decode cX7_fewest 78 = .ok (.aload_n 0, 1) := by decide +kernel
theorem dX7_fewest_79 : decode cX7_fewest 79 = .ok (.getfield 49, 3) := by decide +kernel
theorem dX7_fewest_82 : decode cX7_fewest 82 = .ok (.iload 4, 2) := by decide +kernel
theorem dX7_fewest_84 : decode cX7_fewest 84 = .ok (.iaload, 1) := by decide +kernel
theorem dX7_fewest_85 : decode cX7_fewest 85 = .ok (.goto 4, 3) := by decide +kernel
theorem dX7_fewest_88 : decode cX7_fewest 88 = .ok (.iconst (-1), 1) := by decide +kernel
theorem dX7_fewest_89 : decode cX7_fewest 89 = .ok (.ireturn, 1) := by decide +kernel
theorem dX7_fewest_90 : decode cX7_fewest 90 = .ok (.iconst 0, 1) := by decide +kernel
theorem dX7_fewest_91 : decode cX7_fewest 91 = .ok (.istore 5, 2) := by decide +kernel
theorem dX7_fewest_93 : decode cX7_fewest 93 = .ok (.aload_n 0, 1) := by decide +kernel
theorem dX7_fewest_94 : decode cX7_fewest 94 = .ok (.getfield 49, 3) := by decide +kernel
theorem dX7_fewest_97 : decode cX7_fewest 97 = .ok (.iload 4, 2) := by decide +kernel
theorem dX7_fewest_99 : decode cX7_fewest 99 = .ok (.iaload, 1) := by decide +kernel
theorem dX7_fewest_100 : decode cX7_fewest 100 = .ok (.ifCond .le 72, 3) := by decide +kernel
theorem dX7_fewest_103 : decode cX7_fewest 103 = .ok (.iconst 0, 1) := by decide +kernel
theorem dX7_fewest_104 : decode cX7_fewest 104 = .ok (.istore 6, 2) := by decide +kernel
theorem dX7_fewest_106 : decode cX7_fewest 106 = .ok (.aload_n 0, 1) := by decide +kernel
theorem dX7_fewest_107 : decode cX7_fewest 107 = .ok (.getfield 49, 3) := by decide +kernel
theorem dX7_fewest_110 : decode cX7_fewest 110 = .ok (.aload_n 0, 1) := by decide +kernel
theorem dX7_fewest_111 : decode cX7_fewest 111 = .ok (.getfield 43, 3) := by decide +kernel
theorem dX7_fewest_114 : decode cX7_fewest 114 = .ok (.bipush 6, 2) := by decide +kernel
theorem dX7_fewest_116 : decode cX7_fewest 116 = .ok (.iload 4, 2) := by decide +kernel
theorem dX7_fewest_118 : decode cX7_fewest 118 = .ok (.imul, 1) := by decide +kernel
theorem dX7_fewest_119 : decode cX7_fewest 119 = .ok (.iload 6, 2) := by decide +kernel
theorem dX7_fewest_121 : decode cX7_fewest 121 = .ok (.iadd, 1) := by decide +kernel
theorem dX7_fewest_122 : decode cX7_fewest 122 = .ok (.iaload, 1) := by decide +kernel
theorem dX7_fewest_123 : decode cX7_fewest 123 = .ok (.iaload, 1) := by decide +kernel
theorem dX7_fewest_124 : decode cX7_fewest 124 = .ok (.aload_n 0, 1) := by decide +kernel
theorem dX7_fewest_125 : decode cX7_fewest 125 = .ok (.getfield 49, 3) := by decide +kernel
theorem dX7_fewest_128 : decode cX7_fewest 128 = .ok (.iload 4, 2) := by decide +kernel
theorem dX7_fewest_130 : decode cX7_fewest 130 = .ok (.iaload, 1) := by decide +kernel
theorem dX7_fewest_131 : decode cX7_fewest 131 = .ok (.iconst 1, 1) := by decide +kernel
theorem dX7_fewest_132 : decode cX7_fewest 132 = .ok (.isub, 1) := by decide +kernel
theorem dX7_fewest_133 : decode cX7_fewest 133 = .ok (.if_icmp .eq 9, 3) := by decide +kernel
theorem dX7_fewest_136 : decode cX7_fewest 136 = .ok (.iinc 6 1, 3) := by decide +kernel
theorem dX7_fewest_139 : decode cX7_fewest 139 = .ok (.goto (-33), 3) := by decide +kernel
theorem dX7_fewest_142 : decode cX7_fewest 142 = .ok (.bipush 10, 2) := by decide +kernel
theorem dX7_fewest_144 : decode cX7_fewest 144 = .ok (.iload 5, 2) := by decide +kernel
theorem dX7_fewest_146 : decode cX7_fewest 146 = .ok (.imul, 1) := by decide +kernel
theorem dX7_fewest_147 : decode cX7_fewest 147 = .ok (.iload 6, 2) := by decide +kernel
theorem dX7_fewest_149 : decode cX7_fewest 149 = .ok (.iadd, 1) := by decide +kernel
theorem dX7_fewest_150 : decode cX7_fewest 150 = .ok (.iconst 1, 1) := by decide +kernel
theorem dX7_fewest_151 : decode cX7_fewest 151 = .ok (.iadd, 1) := by decide +kernel
theorem dX7_fewest_152 : decode cX7_fewest 152 = .ok (.istore 5, 2) := by decide +kernel
theorem dX7_fewest_154 : decode cX7_fewest 154 = .ok (.aload_n 0, 1) := by decide +kernel
theorem dX7_fewest_155 : decode cX7_fewest 155 = .ok (.getfield 43, 3) := by decide +kernel
theorem dX7_fewest_158 : decode cX7_fewest 158 = .ok (.bipush 6, 2) := by decide +kernel
theorem dX7_fewest_160 : decode cX7_fewest 160 = .ok (.iload 4, 2) := by decide +kernel
theorem dX7_fewest_162 : decode cX7_fewest 162 = .ok (.imul, 1) := by decide +kernel
theorem dX7_fewest_163 : decode cX7_fewest 163 = .ok (.iload 6, 2) := by decide +kernel
theorem dX7_fewest_165 : decode cX7_fewest 165 = .ok (.iadd, 1) := by decide +kernel
theorem dX7_fewest_166 : decode cX7_fewest 166 = .ok (.iaload, 1) := by decide +kernel
theorem dX7_fewest_167 : decode cX7_fewest 167 = .ok (.istore 4, 2) := by decide +kernel
theorem dX7_fewest_169 : decode cX7_fewest 169 = .ok (.goto (-76), 3) := by decide +kernel
theorem dX7_fewest_172 : decode cX7_fewest 172 = .ok (.iload 5, 2) := by decide +kernel
theorem dX7_fewest_174 : decode cX7_fewest 174 = .ok (.ireturn, 1) := by decide +kernel
theorem dX7_reach_0 : decode cX7_reach 0 = .ok (.iconst 0, 1) := by decide +kernel
theorem dX7_reach_1 : decode cX7_reach 1 = .ok (.istore_n 2, 1) := by decide +kernel
theorem dX7_reach_2 : decode cX7_reach 2 = .ok (.iload_n 2, 1) := by decide +kernel
theorem dX7_reach_3 : decode cX7_reach 3 = .ok (.bipush 100, 2) := by decide +kernel
theorem dX7_reach_5 : decode cX7_reach 5 = .ok (.if_icmp .ge 25, 3) := by decide +kernel
theorem dX7_reach_8 : decode cX7_reach 8 = .ok (.aload_n 0, 1) := by decide +kernel
theorem dX7_reach_9 : decode cX7_reach 9 = .ok (.getfield 52, 3) := by decide +kernel
theorem dX7_reach_12 : decode cX7_reach 12 = .ok (.iload_n 2, 1) := by decide +kernel
theorem dX7_reach_13 : decode cX7_reach 13 = .ok (.iload_n 2, 1) := by decide +kernel
theorem dX7_reach_14 : decode cX7_reach 14 = .ok (.iload_n 1, 1) := by decide +kernel
theorem dX7_reach_15 : decode cX7_reach 15 = .ok (.if_icmp .ne 7, 3) := by decide +kernel
theorem dX7_reach_18 : decode cX7_reach 18 = .ok (.iconst 1, 1) := by decide +kernel
theorem dX7_reach_19 : decode cX7_reach 19 = .ok (.goto 4, 3) := by decide +kernel
theorem dX7_reach_22 : decode cX7_reach 22 = .ok (.iconst 0, 1) := by decide +kernel
theorem dX7_reach_23 : decode cX7_reach 23 = .ok (.bastore, 1) := by decide +kernel
theorem dX7_reach_24 : decode cX7_reach 24 = .ok (.iinc 2 1, 3) := by decide +kernel
theorem dX7_reach_27 : decode cX7_reach 27 = .ok (.goto (-25), 3) := by decide +kernel
theorem dX7_reach_30 : decode cX7_reach 30 = .ok (.iconst 1, 1) := by decide +kernel
theorem dX7_reach_31 : decode cX7_reach 31 = .ok (.istore_n 2, 1) := by decide +kernel
theorem dX7_reach_32 : decode cX7_reach 32 = .ok (.iload_n 2, 1) := by decide +kernel
theorem dX7_reach_33 : decode cX7_reach 33 = .ok (.ifCond .eq 89, 3) := by decide +kernel
theorem dX7_reach_36 : decode cX7_reach 36 = .ok (.iconst 0, 1) := by decide +kernel
theorem dX7_reach_37 : decode cX7_reach 37 = .ok (.istore_n 2, 1) := by decide +kernel
theorem dX7_reach_38 : decode cX7_reach 38 = .ok (.iconst 0, 1) := by decide +kernel
theorem dX7_reach_39 : decode cX7_reach 39 = .ok (.istore_n 3, 1) := by decide +kernel
theorem dX7_reach_40 : decode cX7_reach 40 = .ok (.iload_n 3, 1) := by decide +kernel
theorem dX7_reach_41 : decode cX7_reach 41 = .ok (.bipush 100, 2) := by decide +kernel
theorem dX7_reach_43 : decode cX7_reach 43 = .ok (.if_icmp .ge 76, 3) := by decide +kernel
theorem dX7_reach_46 : decode cX7_reach 46 = .ok (.iconst 0, 1) := by decide +kernel
theorem dX7_reach_47 : decode cX7_reach 47 = .ok (.istore 4, 2) := by decide +kernel
theorem dX7_reach_49 : decode cX7_reach 49 = .ok (.iload 4, 2) := by decide +kernel
theorem dX7_reach_51 : decode cX7_reach 51 = .ok (.bipush 6, 2) := by decide +kernel
theorem dX7_reach_53 : decode cX7_reach 53 = .ok (.if_icmp .ge 60, 3) := by decide +kernel
theorem dX7_reach_56 : decode cX7_reach 56 = .ok (.aload_n 0, 1) := by decide +kernel
theorem dX7_reach_57 : decode cX7_reach 57 = .ok (.getfield 52, 3) := by decide +kernel
theorem dX7_reach_60 : decode cX7_reach 60 = .ok (.iload_n 3, 1) := by decide +kernel
theorem dX7_reach_61 : decode cX7_reach 61 = .ok (.baload, 1) := by decide +kernel
theorem dX7_reach_62 : decode cX7_reach 62 = .ok (.ifCond .eq 51, 3) := by decide +kernel
theorem dX7_reach_65 : decode cX7_reach 65 = .ok (.aload_n 0, 1) := by decide +kernel
theorem dX7_reach_66 : decode cX7_reach 66 = .ok (.getfield 43, 3) := by decide +kernel
theorem dX7_reach_69 : decode cX7_reach 69 = .ok (.bipush 6, 2) := by decide +kernel
theorem dX7_reach_71 : decode cX7_reach 71 = .ok (.iload_n 3, 1) := by decide +kernel
theorem dX7_reach_72 : decode cX7_reach 72 = .ok (.imul, 1) := by decide +kernel
theorem dX7_reach_73 : decode cX7_reach 73 = .ok (.iload 4, 2) := by decide +kernel
theorem dX7_reach_75 : decode cX7_reach 75 = .ok (.iadd, 1) := by decide +kernel
theorem dX7_reach_76 : decode cX7_reach 76 = .ok (.iaload, 1) := by decide +kernel
theorem dX7_reach_77 : decode cX7_reach 77 = .ok (.istore 5, 2) := by decide +kernel
theorem dX7_reach_79 : decode cX7_reach 79 = .ok (.iload_n 2, 1) := by decide +kernel
theorem dX7_reach_80 : decode cX7_reach 80 = .ok (.ifCond .ne 13, 3) := by decide +kernel
theorem dX7_reach_83 : decode cX7_reach 83 = .ok (.aload_n 0, 1) := by decide +kernel
theorem dX7_reach_84 : decode cX7_reach 84 = .ok (.getfield 52, 3) := by decide +kernel
theorem dX7_reach_87 : decode cX7_reach 87 = .ok (.iload 5, 2) := by decide +kernel
theorem dX7_reach_89 : decode cX7_reach 89 = .ok (.baload, 1) := by decide +kernel
theorem dX7_reach_90 : decode cX7_reach 90 = .ok (.ifCond .ne 7, 3) := by decide +kernel
theorem dX7_reach_93 : decode cX7_reach 93 = .ok (.iconst 1, 1) := by decide +kernel
theorem dX7_reach_94 : decode cX7_reach 94 = .ok (.goto 4, 3) := by decide +kernel
theorem dX7_reach_97 : decode cX7_reach 97 = .ok (.iconst 0, 1) := by decide +kernel
theorem dX7_reach_98 : decode cX7_reach 98 = .ok (.istore_n 2, 1) := by decide +kernel
theorem dX7_reach_99 : decode cX7_reach 99 = .ok (.aload_n 0, 1) := by decide +kernel
theorem dX7_reach_100 : decode cX7_reach 100 = .ok (.getfield 52, 3) := by decide +kernel
theorem dX7_reach_103 : decode cX7_reach 103 = .ok (.iload 5, 2) := by decide +kernel
theorem dX7_reach_105 : decode cX7_reach 105 = .ok (.iconst 1, 1) := by decide +kernel
theorem dX7_reach_106 : decode cX7_reach 106 = .ok (.bastore, 1) := by decide +kernel
theorem dX7_reach_107 : decode cX7_reach 107 = .ok (.iinc 4 1, 3) := by decide +kernel
theorem dX7_reach_110 : decode cX7_reach 110 = .ok (.goto (-61), 3) := by decide +kernel
theorem dX7_reach_113 : decode cX7_reach 113 = .ok (.iinc 3 1, 3) := by decide +kernel
theorem dX7_reach_116 : decode cX7_reach 116 = .ok (.goto (-76), 3) := by decide +kernel
theorem dX7_reach_119 : decode cX7_reach 119 = .ok (.goto (-87), 3) := by decide +kernel
theorem dX7_reach_122 : decode cX7_reach 122 = .ok (.return_, 1) := by decide +kernel
theorem dX7_farthestEver_0 : decode cX7_farthestEver 0 = .ok (.iconst 0, 1) := by decide +kernel
theorem dX7_farthestEver_1 : decode cX7_farthestEver 1 = .ok (.istore_n 1, 1) := by decide +kernel
theorem dX7_farthestEver_2 : decode cX7_farthestEver 2 = .ok (.iconst 0, 1) := by decide +kernel
theorem dX7_farthestEver_3 : decode cX7_farthestEver 3 = .ok (.istore_n 2, 1) := by decide +kernel
theorem dX7_farthestEver_4 : decode cX7_farthestEver 4 = .ok (.iload_n 2, 1) := by decide +kernel
theorem dX7_farthestEver_5 : decode cX7_farthestEver 5 = .ok (.aload_n 0, 1) := by decide +kernel
theorem dX7_farthestEver_6 : decode cX7_farthestEver 6 = .ok (.invokevirtual 94, 3) := by decide +kernel
theorem dX7_farthestEver_9 : decode cX7_farthestEver 9 = .ok (.if_icmp .ge 67, 3) := by decide +kernel
theorem dX7_farthestEver_12 : decode cX7_farthestEver 12 = .ok (.aload_n 0, 1) := by decide +kernel
theorem dX7_farthestEver_13 : decode cX7_farthestEver 13 = .ok (.iload_n 2, 1) := by decide +kernel
theorem dX7_farthestEver_14 : decode cX7_farthestEver 14 = .ok (.invokevirtual 239, 3) := by decide +kernel
theorem dX7_farthestEver_17 : decode cX7_farthestEver 17 = .ok (.aload_n 0, 1) := by decide +kernel
theorem dX7_farthestEver_18 : decode cX7_farthestEver 18 = .ok (.aload_n 0, 1) := by decide +kernel
theorem dX7_farthestEver_19 : decode cX7_farthestEver 19 = .ok (.iload_n 2, 1) := by decide +kernel
theorem dX7_farthestEver_20 : decode cX7_farthestEver 20 = .ok (.invokevirtual 101, 3) := by decide +kernel
theorem dX7_farthestEver_23 : decode cX7_farthestEver 23 = .ok (.invokevirtual 245, 3) := by decide +kernel
theorem dX7_farthestEver_26 : decode cX7_farthestEver 26 = .ok (.iconst 0, 1) := by decide +kernel
theorem dX7_farthestEver_27 : decode cX7_farthestEver 27 = .ok (.istore_n 3, 1) := by decide +kernel
theorem dX7_farthestEver_28 : decode cX7_farthestEver 28 = .ok (.iload_n 3, 1) := by decide +kernel
theorem dX7_farthestEver_29 : decode cX7_farthestEver 29 = .ok (.bipush 100, 2) := by decide +kernel
theorem dX7_farthestEver_31 : decode cX7_farthestEver 31 = .ok (.if_icmp .ge 39, 3) := by decide +kernel
theorem dX7_farthestEver_34 : decode cX7_farthestEver 34 = .ok (.aload_n 0, 1) := by decide +kernel
theorem dX7_farthestEver_35 : decode cX7_farthestEver 35 = .ok (.getfield 52, 3) := by decide +kernel
theorem dX7_farthestEver_38 : decode cX7_farthestEver 38 = .ok (.iload_n 3, 1) := by decide +kernel
theorem dX7_farthestEver_39 : decode cX7_farthestEver 39 = .ok (.baload, 1) := by decide +kernel
theorem dX7_farthestEver_40 : decode cX7_farthestEver 40 = .ok (.ifCond .eq 22, 3) := by decide +kernel
theorem dX7_farthestEver_43 : decode cX7_farthestEver 43 = .ok (.aload_n 0, 1) := by decide +kernel
theorem dX7_farthestEver_44 : decode cX7_farthestEver 44 = .ok (.getfield 46, 3) := by decide +kernel
theorem dX7_farthestEver_47 : decode cX7_farthestEver 47 = .ok (.iload_n 3, 1) := by decide +kernel
theorem dX7_farthestEver_48 : decode cX7_farthestEver 48 = .ok (.iaload, 1) := by decide +kernel
theorem dX7_farthestEver_49 : decode cX7_farthestEver 49 = .ok (.iload_n 1, 1) := by decide +kernel
theorem dX7_farthestEver_50 : decode cX7_farthestEver 50 = .ok (.if_icmp .le 12, 3) := by decide +kernel
theorem dX7_farthestEver_53 : decode cX7_farthestEver 53 = .ok (.aload_n 0, 1) := by decide +kernel
theorem dX7_farthestEver_54 : decode cX7_farthestEver 54 = .ok (.getfield 46, 3) := by decide +kernel
theorem dX7_farthestEver_57 : decode cX7_farthestEver 57 = .ok (.iload_n 3, 1) := by decide +kernel
theorem dX7_farthestEver_58 : decode cX7_farthestEver 58 = .ok (.iaload, 1) := by decide +kernel
theorem dX7_farthestEver_59 : decode cX7_farthestEver 59 = .ok (.goto 4, 3) := by decide +kernel
theorem dX7_farthestEver_62 : decode cX7_farthestEver 62 = .ok (.iload_n 1, 1) := by decide +kernel
theorem dX7_farthestEver_63 : decode cX7_farthestEver 63 = .ok (.istore_n 1, 1) := by decide +kernel
theorem dX7_farthestEver_64 : decode cX7_farthestEver 64 = .ok (.iinc 3 1, 3) := by decide +kernel
theorem dX7_farthestEver_67 : decode cX7_farthestEver 67 = .ok (.goto (-39), 3) := by decide +kernel
theorem dX7_farthestEver_70 : decode cX7_farthestEver 70 = .ok (.iinc 2 1, 3) := by decide +kernel
theorem dX7_farthestEver_73 : decode cX7_farthestEver 73 = .ok (.goto (-69), 3) := by decide +kernel
theorem dX7_farthestEver_76 : decode cX7_farthestEver 76 = .ok (.iload_n 1, 1) := by decide +kernel
theorem dX7_farthestEver_77 : decode cX7_farthestEver 77 = .ok (.ireturn, 1) := by decide +kernel
theorem dX7_words_0 : decode cX7_words 0 = .ok (.aload_n 0, 1) := by decide +kernel
theorem dX7_words_1 : decode cX7_words 1 = .ok (.iload_n 1, 1) := by decide +kernel
theorem dX7_words_2 : decode cX7_words 2 = .ok (.invokevirtual 82, 3) := by decide +kernel
theorem dX7_words_5 : decode cX7_words 5 = .ok (.ifCond .eq 12, 3) := by decide +kernel
theorem dX7_words_8 : decode cX7_words 8 = .ok (.iload_n 2, 1) := by decide +kernel
theorem dX7_words_9 : decode cX7_words 9 = .ok (.iconst 0, 1) := by decide +kernel
theorem dX7_words_10 : decode cX7_words 10 = .ok (.iconst 5, 1) := by decide +kernel
theorem dX7_words_11 : decode cX7_words 11 = .ok (.invokestatic 78, 3) := by decide +kernel
theorem dX7_words_14 : decode cX7_words 14 = .ok (.ifCond .ne 6, 3) := by decide +kernel
theorem dX7_words_17 : decode cX7_words 17 = .ok (.bipush (-2), 2) := by decide +kernel
theorem dX7_words_19 : decode cX7_words 19 = .ok (.ireturn, 1) := by decide +kernel
theorem dX7_words_20 : decode cX7_words 20 = .ok (.aload_n 0, 1) := by decide +kernel
theorem dX7_words_21 : decode cX7_words 21 = .ok (.iload_n 1, 1) := by decide +kernel
theorem dX7_words_22 : decode cX7_words 22 = .ok (.invokevirtual 239, 3) := by decide +kernel
theorem dX7_words_25 : decode cX7_words 25 = .ok (.aload_n 0, 1) := by decide +kernel
theorem dX7_words_26 : decode cX7_words 26 = .ok (.iload_n 1, 1) := by decide +kernel
theorem dX7_words_27 : decode cX7_words 27 = .ok (.invokevirtual 101, 3) := by decide +kernel
theorem dX7_words_30 : decode cX7_words 30 = .ok (.istore_n 3, 1) := by decide +kernel
theorem dX7_words_31 : decode cX7_words 31 = .ok (.iload_n 2, 1) := by decide +kernel
theorem dX7_words_32 : decode cX7_words 32 = .ok (.ifCond .ne 15, 3) := by decide +kernel
theorem dX7_words_35 : decode cX7_words 35 = .ok (.aload_n 0, 1) := by decide +kernel
theorem dX7_words_36 : decode cX7_words 36 = .ok (.iconst (-1), 1) := by decide +kernel
theorem dX7_words_37 : decode cX7_words 37 = .ok (.invokevirtual 242, 3) := by decide +kernel
theorem dX7_words_40 : decode cX7_words 40 = .ok (.aload_n 0, 1) := by decide +kernel
theorem dX7_words_41 : decode cX7_words 41 = .ok (.getfield 49, 3) := by decide +kernel
theorem dX7_words_44 : decode cX7_words 44 = .ok (.iload_n 3, 1) := by decide +kernel
theorem dX7_words_45 : decode cX7_words 45 = .ok (.iaload, 1) := by decide +kernel
theorem dX7_words_46 : decode cX7_words 46 = .ok (.ireturn, 1) := by decide +kernel
theorem dX7_words_47 : decode cX7_words 47 = .ok (.iload_n 2, 1) := by decide +kernel
theorem dX7_words_48 : decode cX7_words 48 = .ok (.iconst 3, 1) := by decide +kernel
theorem dX7_words_49 : decode cX7_words 49 = .ok (.if_icmp .le 96, 3) := by decide +kernel
theorem dX7_words_52 : decode cX7_words 52 = .ok (.iconst 0, 1) := by decide +kernel
theorem dX7_words_53 : decode cX7_words 53 = .ok (.istore 4, 2) := by decide +kernel
theorem dX7_words_55 : decode cX7_words 55 = .ok (.iconst 1, 1) := by decide +kernel
theorem dX7_words_56 : decode cX7_words 56 = .ok (.istore 5, 2) := by decide +kernel
theorem dX7_words_58 : decode cX7_words 58 = .ok (.iload 5, 2) := by decide +kernel
theorem dX7_words_60 : decode cX7_words 60 = .ok (.bipush 6, 2) := by decide +kernel
theorem dX7_words_62 : decode cX7_words 62 = .ok (.if_icmp .ge 55, 3) := by decide +kernel
theorem dX7_words_65 : decode cX7_words 65 = .ok (.aload_n 0, 1) := by decide +kernel
theorem dX7_words_66 : decode cX7_words 66 = .ok (.getfield 46, 3) := by decide +kernel
theorem dX7_words_69 : decode cX7_words 69 = .ok (.aload_n 0, 1) := by decide +kernel
theorem dX7_words_70 : decode cX7_words 70 = .ok (.getfield 43, 3) := by decide +kernel
theorem dX7_words_73 : decode cX7_words 73 = .ok (.bipush 6, 2) := by decide +kernel
theorem dX7_words_75 : decode cX7_words 75 = .ok (.iload_n 3, 1) := by decide +kernel
theorem dX7_words_76 : decode cX7_words 76 = .ok (.imul, 1) := by decide +kernel
theorem dX7_words_77 : decode cX7_words 77 = .ok (.iload 5, 2) := by decide +kernel
theorem dX7_words_79 : decode cX7_words 79 = .ok (.iadd, 1) := by decide +kernel
theorem dX7_words_80 : decode cX7_words 80 = .ok (.iaload, 1) := by decide +kernel
theorem dX7_words_81 : decode cX7_words 81 = .ok (.iaload, 1) := by decide +kernel
theorem dX7_words_82 : decode cX7_words 82 = .ok (.aload_n 0, 1) := by decide +kernel
theorem dX7_words_83 : decode cX7_words 83 = .ok (.getfield 46, 3) := by decide +kernel
theorem dX7_words_86 : decode cX7_words 86 = .ok (.aload_n 0, 1) := by decide +kernel
theorem dX7_words_87 : decode cX7_words 87 = .ok (.getfield 43, 3) := by decide +kernel
theorem dX7_words_90 : decode cX7_words 90 = .ok (.bipush 6, 2) := by decide +kernel
theorem dX7_words_92 : decode cX7_words 92 = .ok (.iload_n 3, 1) := by decide +kernel
theorem dX7_words_93 : decode cX7_words 93 = .ok (.imul, 1) := by decide +kernel
theorem dX7_words_94 : decode cX7_words 94 = .ok (.iload 4, 2) := by decide +kernel
theorem dX7_words_96 : decode cX7_words 96 = .ok (.iadd, 1) := by decide +kernel
theorem dX7_words_97 : decode cX7_words 97 = .ok (.iaload, 1) := by decide +kernel
theorem dX7_words_98 : decode cX7_words 98 = .ok (.iaload, 1) := by decide +kernel
theorem dX7_words_99 : decode cX7_words 99 = .ok (.if_icmp .le 8, 3) := by decide +kernel
theorem dX7_words_102 : decode cX7_words 102 = .ok (.iload 5, 2) := by decide +kernel
theorem dX7_words_104 : decode cX7_words 104 = .ok (.goto 5, 3) := by decide +kernel
theorem dX7_words_107 : decode cX7_words 107 = .ok (.iload 4, 2) := by decide +kernel
theorem dX7_words_109 : decode cX7_words 109 = .ok (.istore 4, 2) := by decide +kernel
theorem dX7_words_111 : decode cX7_words 111 = .ok (.iinc 5 1, 3) := by decide +kernel
theorem dX7_words_114 : decode cX7_words 114 = .ok (.goto (-56), 3) := by decide +kernel
theorem dX7_words_117 : decode cX7_words 117 = .ok (.iload_n 2, 1) := by decide +kernel
theorem dX7_words_118 : decode cX7_words 118 = .ok (.iconst 4, 1) := by decide +kernel
theorem dX7_words_119 : decode cX7_words 119 = .ok (.if_icmp .ne 8, 3) := by decide +kernel
theorem dX7_words_122 : decode cX7_words 122 = .ok (.iload 4, 2) := by decide +kernel
theorem dX7_words_124 : decode cX7_words 124 = .ok (.goto 20, 3) := by decide +kernel
theorem dX7_words_127 : decode cX7_words 127 = .ok (.aload_n 0, 1) := by decide +kernel
theorem dX7_words_128 : decode cX7_words 128 = .ok (.getfield 46, 3) := by decide +kernel
theorem dX7_words_131 : decode cX7_words 131 = .ok (.aload_n 0, 1) := by decide +kernel
theorem dX7_words_132 : decode cX7_words 132 = .ok (.getfield 43, 3) := by decide +kernel
theorem dX7_words_135 : decode cX7_words 135 = .ok (.bipush 6, 2) := by decide +kernel
theorem dX7_words_137 : decode cX7_words 137 = .ok (.iload_n 3, 1) := by decide +kernel
theorem dX7_words_138 : decode cX7_words 138 = .ok (.imul, 1) := by decide +kernel
theorem dX7_words_139 : decode cX7_words 139 = .ok (.iload 4, 2) := by decide +kernel
theorem dX7_words_141 : decode cX7_words 141 = .ok (.iadd, 1) := by decide +kernel
theorem dX7_words_142 : decode cX7_words 142 = .ok (.iaload, 1) := by decide +kernel
theorem dX7_words_143 : decode cX7_words 143 = .ok (.iaload, 1) := by decide +kernel
theorem dX7_words_144 : decode cX7_words 144 = .ok (.ireturn, 1) := by decide +kernel
theorem dX7_words_145 : decode cX7_words 145 = .ok (.aload_n 0, 1) := by decide +kernel
theorem dX7_words_146 : decode cX7_words 146 = .ok (.iload_n 3, 1) := by decide +kernel
theorem dX7_words_147 : decode cX7_words 147 = .ok (.invokevirtual 245, 3) := by decide +kernel
theorem dX7_words_150 : decode cX7_words 150 = .ok (.iconst 0, 1) := by decide +kernel
theorem dX7_words_151 : decode cX7_words 151 = .ok (.istore 4, 2) := by decide +kernel
theorem dX7_words_153 : decode cX7_words 153 = .ok (.iconst (-1), 1) := by decide +kernel
theorem dX7_words_154 : decode cX7_words 154 = .ok (.istore 5, 2) := by decide +kernel
theorem dX7_words_156 : decode cX7_words 156 = .ok (.iconst (-1), 1) := by decide +kernel
theorem dX7_words_157 : decode cX7_words 157 = .ok (.istore 6, 2) := by decide +kernel
theorem dX7_words_159 : decode cX7_words 159 = .ok (.iconst 0, 1) := by decide +kernel
theorem dX7_words_160 : decode cX7_words 160 = .ok (.istore 7, 2) := by decide +kernel
theorem dX7_words_162 : decode cX7_words 162 = .ok (.iload 7, 2) := by decide +kernel
theorem dX7_words_164 : decode cX7_words 164 = .ok (.bipush 100, 2) := by decide +kernel
theorem dX7_words_166 : decode cX7_words 166 = .ok (.if_icmp .ge 41, 3) := by decide +kernel
theorem dX7_words_169 : decode cX7_words 169 = .ok (.aload_n 0, 1) := by decide +kernel
theorem dX7_words_170 : decode cX7_words 170 = .ok (.getfield 52, 3) := by decide +kernel
theorem dX7_words_173 : decode cX7_words 173 = .ok (.iload 7, 2) := by decide +kernel
theorem dX7_words_175 : decode cX7_words 175 = .ok (.baload, 1) := by decide +kernel
theorem dX7_words_176 : decode cX7_words 176 = .ok (.ifCond .eq 25, 3) := by decide +kernel
theorem dX7_words_179 : decode cX7_words 179 = .ok (.iinc 4 1, 3) := by decide +kernel
theorem dX7_words_182 : decode cX7_words 182 = .ok (.iload 5, 2) := by decide +kernel
theorem dX7_words_184 : decode cX7_words 184 = .ok (.iconst (-1), 1) := by decide +kernel
theorem dX7_words_185 : decode cX7_words 185 = .ok (.if_icmp .ne 8, 3) := by decide +kernel
theorem dX7_words_188 : decode cX7_words 188 = .ok (.iload 7, 2) := by decide +kernel
theorem dX7_words_190 : decode cX7_words 190 = .ok (.goto 5, 3) := by decide +kernel
theorem dX7_words_193 : decode cX7_words 193 = .ok (.iload 5, 2) := by decide +kernel
theorem dX7_words_195 : decode cX7_words 195 = .ok (.istore 5, 2) := by decide +kernel
theorem dX7_words_197 : decode cX7_words 197 = .ok (.iload 7, 2) := by decide +kernel
theorem dX7_words_199 : decode cX7_words 199 = .ok (.istore 6, 2) := by decide +kernel
theorem dX7_words_201 : decode cX7_words 201 = .ok (.iinc 7 1, 3) := by decide +kernel
theorem dX7_words_204 : decode cX7_words 204 = .ok (.goto (-42), 3) := by decide +kernel
theorem dX7_words_207 : decode cX7_words 207 = .ok (.iload_n 2, 1) := by decide +kernel
theorem dX7_words_208 : decode cX7_words 208 = .ok (.iconst 1, 1) := by decide +kernel
theorem dX7_words_209 : decode cX7_words 209 = .ok (.if_icmp .ne 8, 3) := by decide +kernel
theorem dX7_words_212 : decode cX7_words 212 = .ok (.iload 4, 2) := by decide +kernel
theorem dX7_words_214 : decode cX7_words 214 = .ok (.goto 15, 3) := by decide +kernel
theorem dX7_words_217 : decode cX7_words 217 = .ok (.iload_n 2, 1) := by decide +kernel
theorem dX7_words_218 : decode cX7_words 218 = .ok (.iconst 2, 1) := by decide +kernel
theorem dX7_words_219 : decode cX7_words 219 = .ok (.if_icmp .ne 8, 3) := by decide +kernel
theorem dX7_words_222 : decode cX7_words 222 = .ok (.iload 5, 2) := by decide +kernel
theorem dX7_words_224 : decode cX7_words 224 = .ok (.goto 5, 3) := by decide +kernel
theorem dX7_words_227 : decode cX7_words 227 = .ok (.iload 6, 2) := by decide +kernel
theorem dX7_words_229 : decode cX7_words 229 = .ok (.ireturn, 1) := by decide +kernel
theorem dX7_stays_0 : decode cX7_stays 0 = .ok (.aload_n 0, 1) := by decide +kernel
theorem dX7_stays_1 : decode cX7_stays 1 = .ok (.iload_n 1, 1) := by decide +kernel
theorem dX7_stays_2 : decode cX7_stays 2 = .ok (.invokevirtual 82, 3) := by decide +kernel
theorem dX7_stays_5 : decode cX7_stays 5 = .ok (.ifCond .eq 13, 3) := by decide +kernel
theorem dX7_stays_8 : decode cX7_stays 8 = .ok (.iload_n 2, 1) := by decide +kernel
theorem dX7_stays_9 : decode cX7_stays 9 = .ok (.iconst 0, 1) := by decide +kernel
theorem dX7_stays_10 : decode cX7_stays 10 = .ok (.bipush 39, 2) := by decide +kernel
theorem dX7_stays_12 : decode cX7_stays 12 = .ok (.invokestatic 78, 3) := by decide +kernel
theorem dX7_stays_15 : decode cX7_stays 15 = .ok (.ifCond .ne 6, 3) := by decide +kernel
theorem dX7_stays_18 : decode cX7_stays 18 = .ok (.bipush (-2), 2) := by decide +kernel
theorem dX7_stays_20 : decode cX7_stays 20 = .ok (.ireturn, 1) := by decide +kernel
theorem dX7_stays_21 : decode cX7_stays 21 = .ok (.aload_n 0, 1) := by decide +kernel
theorem dX7_stays_22 : decode cX7_stays 22 = .ok (.iload_n 1, 1) := by decide +kernel
theorem dX7_stays_23 : decode cX7_stays 23 = .ok (.invokevirtual 97, 3) := by decide +kernel
theorem dX7_stays_26 : decode cX7_stays 26 = .ok (.aload_n 0, 1) := by decide +kernel
theorem dX7_stays_27 : decode cX7_stays 27 = .ok (.iload_n 1, 1) := by decide +kernel
theorem dX7_stays_28 : decode cX7_stays 28 = .ok (.invokevirtual 101, 3) := by decide +kernel
theorem dX7_stays_31 : decode cX7_stays 31 = .ok (.istore_n 3, 1) := by decide +kernel
theorem dX7_stays_32 : decode cX7_stays 32 = .ok (.iconst 0, 1) := by decide +kernel
theorem dX7_stays_33 : decode cX7_stays 33 = .ok (.istore 4, 2) := by decide +kernel
theorem dX7_stays_35 : decode cX7_stays 35 = .ok (.iload 4, 2) := by decide +kernel
theorem dX7_stays_37 : decode cX7_stays 37 = .ok (.bipush 100, 2) := by decide +kernel
theorem dX7_stays_39 : decode cX7_stays 39 = .ok (.if_icmp .ge 24, 3) := by decide +kernel
theorem dX7_stays_42 : decode cX7_stays 42 = .ok (.aload_n 0, 1) := by decide +kernel
theorem dX7_stays_43 : decode cX7_stays 43 = .ok (.iload_n 3, 1) := by decide +kernel
theorem dX7_stays_44 : decode cX7_stays 44 = .ok (.invokevirtual 113, 3) := by decide +kernel
theorem dX7_stays_47 : decode cX7_stays 47 = .ok (.iload_n 2, 1) := by decide +kernel
theorem dX7_stays_48 : decode cX7_stays 48 = .ok (.if_icmp .le 15, 3) := by decide +kernel
theorem dX7_stays_51 : decode cX7_stays 51 = .ok (.aload_n 0, 1) := by decide +kernel
theorem dX7_stays_52 : decode cX7_stays 52 = .ok (.iload_n 3, 1) := by decide +kernel
theorem dX7_stays_53 : decode cX7_stays 53 = .ok (.invokevirtual 215, 3) := by decide +kernel
theorem dX7_stays_56 : decode cX7_stays 56 = .ok (.istore_n 3, 1) := by decide +kernel
theorem dX7_stays_57 : decode cX7_stays 57 = .ok (.iinc 4 1, 3) := by decide +kernel
theorem dX7_stays_60 : decode cX7_stays 60 = .ok (.goto (-25), 3) := by decide +kernel
theorem dX7_stays_63 : decode cX7_stays 63 = .ok (.iload 4, 2) := by decide +kernel
theorem dX7_stays_65 : decode cX7_stays 65 = .ok (.ireturn, 1) := by decide +kernel
theorem dX7_gcd_0 : decode cX7_gcd 0 = .ok (.lload_n 0, 1) := by decide +kernel
theorem dX7_gcd_1 : decode cX7_gcd 1 = .ok (.lstore 4, 2) := by decide +kernel
theorem dX7_gcd_3 : decode cX7_gcd 3 = .ok (.lload_n 2, 1) := by decide +kernel
theorem dX7_gcd_4 : decode cX7_gcd 4 = .ok (.lstore 6, 2) := by decide +kernel
theorem dX7_gcd_6 : decode cX7_gcd 6 = .ok (.lload 6, 2) := by decide +kernel
theorem dX7_gcd_8 : decode cX7_gcd 8 = .ok (.lconst 0, 1) := by decide +kernel
theorem dX7_gcd_9 : decode cX7_gcd 9 = .ok (.lcmp, 1) := by decide +kernel
theorem dX7_gcd_10 : decode cX7_gcd 10 = .ok (.ifCond .eq 21, 3) := by decide +kernel
theorem dX7_gcd_13 : decode cX7_gcd 13 = .ok (.lload 4, 2) := by decide +kernel
theorem dX7_gcd_15 : decode cX7_gcd 15 = .ok (.lload 6, 2) := by decide +kernel
theorem dX7_gcd_17 : decode cX7_gcd 17 = .ok (.lrem, 1) := by decide +kernel
theorem dX7_gcd_18 : decode cX7_gcd 18 = .ok (.lstore 8, 2) := by decide +kernel
theorem dX7_gcd_20 : decode cX7_gcd 20 = .ok (.lload 6, 2) := by decide +kernel
theorem dX7_gcd_22 : decode cX7_gcd 22 = .ok (.lstore 4, 2) := by decide +kernel
theorem dX7_gcd_24 : decode cX7_gcd 24 = .ok (.lload 8, 2) := by decide +kernel
theorem dX7_gcd_26 : decode cX7_gcd 26 = .ok (.lstore 6, 2) := by decide +kernel
theorem dX7_gcd_28 : decode cX7_gcd 28 = .ok (.goto (-22), 3) := by decide +kernel
theorem dX7_gcd_31 : decode cX7_gcd 31 = .ok (.lload 4, 2) := by decide +kernel
theorem dX7_gcd_33 : decode cX7_gcd 33 = .ok (.lreturn, 1) := by decide +kernel
theorem dX7_rows_0 : decode cX7_rows 0 = .ok (.aload_n 0, 1) := by decide +kernel
theorem dX7_rows_1 : decode cX7_rows 1 = .ok (.iload_n 1, 1) := by decide +kernel
theorem dX7_rows_2 : decode cX7_rows 2 = .ok (.invokevirtual 82, 3) := by decide +kernel
theorem dX7_rows_5 : decode cX7_rows 5 = .ok (.ifCond .eq 33, 3) := by decide +kernel
theorem dX7_rows_8 : decode cX7_rows 8 = .ok (.iload_n 2, 1) := by decide +kernel
theorem dX7_rows_9 : decode cX7_rows 9 = .ok (.iconst 0, 1) := by decide +kernel
theorem dX7_rows_10 : decode cX7_rows 10 = .ok (.bipush 40, 2) := by decide +kernel
theorem dX7_rows_12 : decode cX7_rows 12 = .ok (.invokestatic 78, 3) := by decide +kernel
theorem dX7_rows_15 : decode cX7_rows 15 = .ok (.ifCond .eq 23, 3) := by decide +kernel
theorem dX7_rows_18 : decode cX7_rows 18 = .ok (.iload_n 3, 1) := by decide +kernel
theorem dX7_rows_19 : decode cX7_rows 19 = .ok (.iconst 0, 1) := by decide +kernel
theorem dX7_rows_20 : decode cX7_rows 20 = .ok (.bipush 20, 2) := by decide +kernel
theorem dX7_rows_22 : decode cX7_rows 22 = .ok (.invokestatic 78, 3) := by decide +kernel
theorem dX7_rows_25 : decode cX7_rows 25 = .ok (.ifCond .eq 13, 3) := by decide +kernel
theorem dX7_rows_28 : decode cX7_rows 28 = .ok (.iload 4, 2) := by decide +kernel
theorem dX7_rows_30 : decode cX7_rows 30 = .ok (.iconst 0, 1) := by decide +kernel
theorem dX7_rows_31 : decode cX7_rows 31 = .ok (.iconst 1, 1) := by decide +kernel
theorem dX7_rows_32 : decode cX7_rows 32 = .ok (.invokestatic 78, 3) := by decide +kernel
theorem dX7_rows_35 : decode cX7_rows 35 = .ok (.ifCond .ne 7, 3) := by decide +kernel
theorem dX7_rows_38 : decode cX7_rows 38 = .ok (.ldc2_w 230, 3) := by decide +kernel
theorem dX7_rows_41 : decode cX7_rows 41 = .ok (.lreturn, 1) := by decide +kernel
theorem dX7_rows_42 : decode cX7_rows 42 = .ok (.aload_n 0, 1) := by decide +kernel
theorem dX7_rows_43 : decode cX7_rows 43 = .ok (.iload_n 1, 1) := by decide +kernel
theorem dX7_rows_44 : decode cX7_rows 44 = .ok (.invokevirtual 239, 3) := by decide +kernel
theorem dX7_rows_47 : decode cX7_rows 47 = .ok (.iconst 0, 1) := by decide +kernel
theorem dX7_rows_48 : decode cX7_rows 48 = .ok (.istore 5, 2) := by decide +kernel
theorem dX7_rows_50 : decode cX7_rows 50 = .ok (.iload 5, 2) := by decide +kernel
theorem dX7_rows_52 : decode cX7_rows 52 = .ok (.bipush 100, 2) := by decide +kernel
theorem dX7_rows_54 : decode cX7_rows 54 = .ok (.if_icmp .ge 31, 3) := by decide +kernel
theorem dX7_rows_57 : decode cX7_rows 57 = .ok (.aload_n 0, 1) := by decide +kernel
theorem dX7_rows_58 : decode cX7_rows 58 = .ok (.getfield 56, 3) := by decide +kernel
theorem dX7_rows_61 : decode cX7_rows 61 = .ok (.iload 5, 2) := by decide +kernel
theorem dX7_rows_63 : decode cX7_rows 63 = .ok (.iload 5, 2) := by decide +kernel
theorem dX7_rows_65 : decode cX7_rows 65 = .ok (.aload_n 0, 1) := by decide +kernel
theorem dX7_rows_66 : decode cX7_rows 66 = .ok (.iload_n 1, 1) := by decide +kernel
theorem dX7_rows_67 : decode cX7_rows 67 = .ok (.invokevirtual 101, 3) := by decide +kernel
theorem dX7_rows_70 : decode cX7_rows 70 = .ok (.if_icmp .ne 7, 3) := by decide +kernel
theorem dX7_rows_73 : decode cX7_rows 73 = .ok (.lconst 1, 1) := by decide +kernel
theorem dX7_rows_74 : decode cX7_rows 74 = .ok (.goto 4, 3) := by decide +kernel
theorem dX7_rows_77 : decode cX7_rows 77 = .ok (.lconst 0, 1) := by decide +kernel
theorem dX7_rows_78 : decode cX7_rows 78 = .ok (.lastore, 1) := by decide +kernel
theorem dX7_rows_79 : decode cX7_rows 79 = .ok (.iinc 5 1, 3) := by decide +kernel
theorem dX7_rows_82 : decode cX7_rows 82 = .ok (.goto (-32), 3) := by decide +kernel
theorem dX7_rows_85 : decode cX7_rows 85 = .ok (.lconst 1, 1) := by decide +kernel
theorem dX7_rows_86 : decode cX7_rows 86 = .ok (.lstore 5, 2) := by decide +kernel
theorem dX7_rows_88 : decode cX7_rows 88 = .ok (.iconst 0, 1) := by decide +kernel
theorem dX7_rows_89 : decode cX7_rows 89 = .ok (.istore 7, 2) := by decide +kernel
theorem dX7_rows_91 : decode cX7_rows 91 = .ok (.iload 7, 2) := by decide +kernel
theorem dX7_rows_93 : decode cX7_rows 93 = .ok (.iload_n 3, 1) := by decide +kernel
theorem dX7_rows_94 : decode cX7_rows 94 = .ok (.if_icmp .ge 131, 3) := by decide +kernel
theorem dX7_rows_97 : decode cX7_rows 97 = .ok (.lload 5, 2) := by decide +kernel
theorem dX7_rows_99 : decode cX7_rows 99 = .ok (.ldc2_w 248, 3) := by decide +kernel
theorem dX7_rows_102 : decode cX7_rows 102 = .ok (.lmul, 1) := by decide +kernel
theorem dX7_rows_103 : decode cX7_rows 103 = .ok (.lstore 5, 2) := by decide +kernel
theorem dX7_rows_105 : decode cX7_rows 105 = .ok (.iconst 0, 1) := by decide +kernel
theorem dX7_rows_106 : decode cX7_rows 106 = .ok (.istore 8, 2) := by decide +kernel
theorem dX7_rows_108 : decode cX7_rows 108 = .ok (.iload 8, 2) := by decide +kernel
theorem dX7_rows_110 : decode cX7_rows 110 = .ok (.bipush 100, 2) := by decide +kernel
theorem dX7_rows_112 : decode cX7_rows 112 = .ok (.if_icmp .ge 17, 3) := by decide +kernel
theorem dX7_rows_115 : decode cX7_rows 115 = .ok (.aload_n 0, 1) := by decide +kernel
theorem dX7_rows_116 : decode cX7_rows 116 = .ok (.getfield 60, 3) := by decide +kernel
theorem dX7_rows_119 : decode cX7_rows 119 = .ok (.iload 8, 2) := by decide +kernel
theorem dX7_rows_121 : decode cX7_rows 121 = .ok (.lconst 0, 1) := by decide +kernel
theorem dX7_rows_122 : decode cX7_rows 122 = .ok (.lastore, 1) := by decide +kernel
theorem dX7_rows_123 : decode cX7_rows 123 = .ok (.iinc 8 1, 3) := by decide +kernel
theorem dX7_rows_126 : decode cX7_rows 126 = .ok (.goto (-18), 3) := by decide +kernel
theorem dX7_rows_129 : decode cX7_rows 129 = .ok (.iconst 0, 1) := by decide +kernel
theorem dX7_rows_130 : decode cX7_rows 130 = .ok (.istore 8, 2) := by decide +kernel
theorem dX7_rows_132 : decode cX7_rows 132 = .ok (.iload 8, 2) := by decide +kernel
theorem dX7_rows_134 : decode cX7_rows 134 = .ok (.bipush 100, 2) := by decide +kernel
theorem dX7_rows_136 : decode cX7_rows 136 = .ok (.if_icmp .ge 53, 3) := by decide +kernel
theorem dX7_rows_139 : decode cX7_rows 139 = .ok (.iconst 0, 1) := by decide +kernel
theorem dX7_rows_140 : decode cX7_rows 140 = .ok (.istore 9, 2) := by decide +kernel
theorem dX7_rows_142 : decode cX7_rows 142 = .ok (.iload 9, 2) := by decide +kernel
theorem dX7_rows_144 : decode cX7_rows 144 = .ok (.bipush 6, 2) := by decide +kernel
theorem dX7_rows_146 : decode cX7_rows 146 = .ok (.if_icmp .ge 37, 3) := by decide +kernel
theorem dX7_rows_149 : decode cX7_rows 149 = .ok (.aload_n 0, 1) := by decide +kernel
theorem dX7_rows_150 : decode cX7_rows 150 = .ok (.getfield 60, 3) := by decide +kernel
theorem dX7_rows_153 : decode cX7_rows 153 = .ok (.aload_n 0, 1) := by decide +kernel
theorem dX7_rows_154 : decode cX7_rows 154 = .ok (.getfield 43, 3) := by decide +kernel
theorem dX7_rows_157 : decode cX7_rows 157 = .ok (.bipush 6, 2) := by decide +kernel
theorem dX7_rows_159 : decode cX7_rows 159 = .ok (.iload 8, 2) := by decide +kernel
theorem dX7_rows_161 : decode cX7_rows 161 = .ok (.imul, 1) := by decide +kernel
theorem dX7_rows_162 : decode cX7_rows 162 = .ok (.iload 9, 2) := by decide +kernel
theorem dX7_rows_164 : decode cX7_rows 164 = .ok (.iadd, 1) := by decide +kernel
theorem dX7_rows_165 : decode cX7_rows 165 = .ok (.iaload, 1) := by decide +kernel
theorem dX7_rows_166 : decode cX7_rows 166 = .ok (.dup2, 1) := by decide +kernel
theorem dX7_rows_167 : decode cX7_rows 167 = .ok (.laload, 1) := by decide +kernel
theorem dX7_rows_168 : decode cX7_rows 168 = .ok (.aload_n 0, 1) := by decide +kernel
theorem dX7_rows_169 : decode cX7_rows 169 = .ok (.getfield 56, 3) := by decide +kernel
theorem dX7_rows_172 : decode cX7_rows 172 = .ok (.iload 8, 2) := by decide +kernel
theorem dX7_rows_174 : decode cX7_rows 174 = .ok (.laload, 1) := by decide +kernel
theorem dX7_rows_175 : decode cX7_rows 175 = .ok (.ladd, 1) := by decide +kernel
theorem dX7_rows_176 : decode cX7_rows 176 = .ok (.lastore, 1) := by decide +kernel
theorem dX7_rows_177 : decode cX7_rows 177 = .ok (.iinc 9 1, 3) := by decide +kernel
theorem dX7_rows_180 : decode cX7_rows 180 = .ok (.goto (-38), 3) := by decide +kernel
theorem dX7_rows_183 : decode cX7_rows 183 = .ok (.iinc 8 1, 3) := by decide +kernel
theorem dX7_rows_186 : decode cX7_rows 186 = .ok (.goto (-54), 3) := by decide +kernel
theorem dX7_rows_189 : decode cX7_rows 189 = .ok (.iconst 0, 1) := by decide +kernel
theorem dX7_rows_190 : decode cX7_rows 190 = .ok (.istore 8, 2) := by decide +kernel
theorem dX7_rows_192 : decode cX7_rows 192 = .ok (.iload 8, 2) := by decide +kernel
theorem dX7_rows_194 : decode cX7_rows 194 = .ok (.bipush 100, 2) := by decide +kernel
theorem dX7_rows_196 : decode cX7_rows 196 = .ok (.if_icmp .ge 23, 3) := by decide +kernel
theorem dX7_rows_199 : decode cX7_rows 199 = .ok (.aload_n 0, 1) := by decide +kernel
theorem dX7_rows_200 : decode cX7_rows 200 = .ok (.getfield 56, 3) := by decide +kernel
theorem dX7_rows_203 : decode cX7_rows 203 = .ok (.iload 8, 2) := by decide +kernel
theorem dX7_rows_205 : decode cX7_rows 205 = .ok (.aload_n 0, 1) := by decide +kernel
theorem dX7_rows_206 : decode cX7_rows 206 = .ok (.getfield 60, 3) := by decide +kernel
theorem dX7_rows_209 : decode cX7_rows 209 = .ok (.iload 8, 2) := by decide +kernel
theorem dX7_rows_211 : decode cX7_rows 211 = .ok (.laload, 1) := by decide +kernel
theorem dX7_rows_212 : decode cX7_rows 212 = .ok (.lastore, 1) := by decide +kernel
theorem dX7_rows_213 : decode cX7_rows 213 = .ok (.iinc 8 1, 3) := by decide +kernel
theorem dX7_rows_216 : decode cX7_rows 216 = .ok (.goto (-24), 3) := by decide +kernel
theorem dX7_rows_219 : decode cX7_rows 219 = .ok (.iinc 7 1, 3) := by decide +kernel
theorem dX7_rows_222 : decode cX7_rows 222 = .ok (.goto (-131), 3) := by decide +kernel
theorem dX7_rows_225 : decode cX7_rows 225 = .ok (.lconst 0, 1) := by decide +kernel
theorem dX7_rows_226 : decode cX7_rows 226 = .ok (.lstore 7, 2) := by decide +kernel
theorem dX7_rows_228 : decode cX7_rows 228 = .ok (.iconst 0, 1) := by decide +kernel
theorem dX7_rows_229 : decode cX7_rows 229 = .ok (.istore 9, 2) := by decide +kernel
theorem dX7_rows_231 : decode cX7_rows 231 = .ok (.iload 9, 2) := by decide +kernel
theorem dX7_rows_233 : decode cX7_rows 233 = .ok (.bipush 100, 2) := by decide +kernel
theorem dX7_rows_235 : decode cX7_rows 235 = .ok (.if_icmp .ge 36, 3) := by decide +kernel
theorem dX7_rows_238 : decode cX7_rows 238 = .ok (.lload 7, 2) := by decide +kernel
theorem dX7_rows_240 : decode cX7_rows 240 = .ok (.aload_n 0, 1) := by decide +kernel
theorem dX7_rows_241 : decode cX7_rows 241 = .ok (.getfield 46, 3) := by decide +kernel
theorem dX7_rows_244 : decode cX7_rows 244 = .ok (.iload 9, 2) := by decide +kernel
theorem dX7_rows_246 : decode cX7_rows 246 = .ok (.iaload, 1) := by decide +kernel
theorem dX7_rows_247 : decode cX7_rows 247 = .ok (.iload_n 2, 1) := by decide +kernel
theorem dX7_rows_248 : decode cX7_rows 248 = .ok (.if_icmp .lt 13, 3) := by decide +kernel
theorem dX7_rows_251 : decode cX7_rows 251 = .ok (.aload_n 0, 1) := by decide +kernel
theorem dX7_rows_252 : decode cX7_rows 252 = .ok (.getfield 56, 3) := by decide +kernel
theorem dX7_rows_255 : decode cX7_rows 255 = .ok (.iload 9, 2) := by decide +kernel
theorem dX7_rows_257 : decode cX7_rows 257 = .ok (.laload, 1) := by decide +kernel
theorem dX7_rows_258 : decode cX7_rows 258 = .ok (.goto 4, 3) := by decide +kernel
theorem dX7_rows_261 : decode cX7_rows 261 = .ok (.lconst 0, 1) := by decide +kernel
theorem dX7_rows_262 : decode cX7_rows 262 = .ok (.ladd, 1) := by decide +kernel
theorem dX7_rows_263 : decode cX7_rows 263 = .ok (.lstore 7, 2) := by decide +kernel
theorem dX7_rows_265 : decode cX7_rows 265 = .ok (.iinc 9 1, 3) := by decide +kernel
theorem dX7_rows_268 : decode cX7_rows 268 = .ok (.goto (-37), 3) := by decide +kernel
theorem dX7_rows_271 : decode cX7_rows 271 = .ok (.lload 5, 2) := by decide +kernel
theorem dX7_rows_273 : decode cX7_rows 273 = .ok (.lload 7, 2) := by decide +kernel
theorem dX7_rows_275 : decode cX7_rows 275 = .ok (.invokestatic 250, 3) := by decide +kernel
theorem dX7_rows_278 : decode cX7_rows 278 = .ok (.lstore 9, 2) := by decide +kernel
theorem dX7_rows_280 : decode cX7_rows 280 = .ok (.iload 4, 2) := by decide +kernel
theorem dX7_rows_282 : decode cX7_rows 282 = .ok (.ifCond .ne 11, 3) := by decide +kernel
theorem dX7_rows_285 : decode cX7_rows 285 = .ok (.lload 7, 2) := by decide +kernel
theorem dX7_rows_287 : decode cX7_rows 287 = .ok (.lload 9, 2) := by decide +kernel
theorem dX7_rows_289 : decode cX7_rows 289 = .ok (.ldiv, 1) := by decide +kernel
theorem dX7_rows_290 : decode cX7_rows 290 = .ok (.goto 8, 3) := by decide +kernel
theorem dX7_rows_293 : decode cX7_rows 293 = .ok (.lload 5, 2) := by decide +kernel
theorem dX7_rows_295 : decode cX7_rows 295 = .ok (.lload 9, 2) := by decide +kernel
theorem dX7_rows_297 : decode cX7_rows 297 = .ok (.ldiv, 1) := by decide +kernel
theorem dX7_rows_298 : decode cX7_rows 298 = .ok (.lreturn, 1) := by decide +kernel
theorem dX7_whomBy_0 : decode cX7_whomBy 0 = .ok (.iconst (-1), 1) := by decide +kernel
theorem dX7_whomBy_1 : decode cX7_whomBy 1 = .ok (.istore_n 3, 1) := by decide +kernel
theorem dX7_whomBy_2 : decode cX7_whomBy 2 = .ok (.iconst (-1), 1) := by decide +kernel
theorem dX7_whomBy_3 : decode cX7_whomBy 3 = .ok (.istore 4, 2) := by decide +kernel
theorem dX7_whomBy_5 : decode cX7_whomBy 5 = .ok (.iconst 0, 1) := by decide +kernel
theorem dX7_whomBy_6 : decode cX7_whomBy 6 = .ok (.istore 5, 2) := by decide +kernel
theorem dX7_whomBy_8 : decode cX7_whomBy 8 = .ok (.iload 5, 2) := by decide +kernel
theorem dX7_whomBy_10 : decode cX7_whomBy 10 = .ok (.aload_n 0, 1) := by decide +kernel
theorem dX7_whomBy_11 : decode cX7_whomBy 11 = .ok (.invokevirtual 94, 3) := by decide +kernel
theorem dX7_whomBy_14 : decode cX7_whomBy 14 = .ok (.if_icmp .ge 61, 3) := by decide +kernel
theorem dX7_whomBy_17 : decode cX7_whomBy 17 = .ok (.aload_n 0, 1) := by decide +kernel
theorem dX7_whomBy_18 : decode cX7_whomBy 18 = .ok (.iload 5, 2) := by decide +kernel
theorem dX7_whomBy_20 : decode cX7_whomBy 20 = .ok (.invokevirtual 239, 3) := by decide +kernel
theorem dX7_whomBy_23 : decode cX7_whomBy 23 = .ok (.aload_n 0, 1) := by decide +kernel
theorem dX7_whomBy_24 : decode cX7_whomBy 24 = .ok (.iload_n 1, 1) := by decide +kernel
theorem dX7_whomBy_25 : decode cX7_whomBy 25 = .ok (.iconst 1, 1) := by decide +kernel
theorem dX7_whomBy_26 : decode cX7_whomBy 26 = .ok (.iadd, 1) := by decide +kernel
theorem dX7_whomBy_27 : decode cX7_whomBy 27 = .ok (.invokevirtual 242, 3) := by decide +kernel
theorem dX7_whomBy_30 : decode cX7_whomBy 30 = .ok (.aload_n 0, 1) := by decide +kernel
theorem dX7_whomBy_31 : decode cX7_whomBy 31 = .ok (.getfield 49, 3) := by decide +kernel
theorem dX7_whomBy_34 : decode cX7_whomBy 34 = .ok (.aload_n 0, 1) := by decide +kernel
theorem dX7_whomBy_35 : decode cX7_whomBy 35 = .ok (.iload 5, 2) := by decide +kernel
theorem dX7_whomBy_37 : decode cX7_whomBy 37 = .ok (.invokevirtual 101, 3) := by decide +kernel
theorem dX7_whomBy_40 : decode cX7_whomBy 40 = .ok (.iaload, 1) := by decide +kernel
theorem dX7_whomBy_41 : decode cX7_whomBy 41 = .ok (.istore 6, 2) := by decide +kernel
theorem dX7_whomBy_43 : decode cX7_whomBy 43 = .ok (.iload 6, 2) := by decide +kernel
theorem dX7_whomBy_45 : decode cX7_whomBy 45 = .ok (.iconst (-1), 1) := by decide +kernel
theorem dX7_whomBy_46 : decode cX7_whomBy 46 = .ok (.if_icmp .eq 23, 3) := by decide +kernel
theorem dX7_whomBy_49 : decode cX7_whomBy 49 = .ok (.iload 4, 2) := by decide +kernel
theorem dX7_whomBy_51 : decode cX7_whomBy 51 = .ok (.iconst (-1), 1) := by decide +kernel
theorem dX7_whomBy_52 : decode cX7_whomBy 52 = .ok (.if_icmp .eq 10, 3) := by decide +kernel
theorem dX7_whomBy_55 : decode cX7_whomBy 55 = .ok (.iload 6, 2) := by decide +kernel
theorem dX7_whomBy_57 : decode cX7_whomBy 57 = .ok (.iload 4, 2) := by decide +kernel
theorem dX7_whomBy_59 : decode cX7_whomBy 59 = .ok (.if_icmp .ge 10, 3) := by decide +kernel
theorem dX7_whomBy_62 : decode cX7_whomBy 62 = .ok (.iload 5, 2) := by decide +kernel
theorem dX7_whomBy_64 : decode cX7_whomBy 64 = .ok (.istore_n 3, 1) := by decide +kernel
theorem dX7_whomBy_65 : decode cX7_whomBy 65 = .ok (.iload 6, 2) := by decide +kernel
theorem dX7_whomBy_67 : decode cX7_whomBy 67 = .ok (.istore 4, 2) := by decide +kernel
theorem dX7_whomBy_69 : decode cX7_whomBy 69 = .ok (.iinc 5 1, 3) := by decide +kernel
theorem dX7_whomBy_72 : decode cX7_whomBy 72 = .ok (.goto (-64), 3) := by decide +kernel
theorem dX7_whomBy_75 : decode cX7_whomBy 75 = .ok (.iload_n 2, 1) := by decide +kernel
theorem dX7_whomBy_76 : decode cX7_whomBy 76 = .ok (.ifCond .ne 7, 3) := by decide +kernel
theorem dX7_whomBy_79 : decode cX7_whomBy 79 = .ok (.iload_n 3, 1) := by decide +kernel
theorem dX7_whomBy_80 : decode cX7_whomBy 80 = .ok (.goto 5, 3) := by decide +kernel
theorem dX7_whomBy_83 : decode cX7_whomBy 83 = .ok (.iload 4, 2) := by decide +kernel
theorem dX7_whomBy_85 : decode cX7_whomBy 85 = .ok (.ireturn, 1) := by decide +kernel
theorem dX7_whom_0 : decode cX7_whom 0 = .ok (.iload_n 1, 1) := by decide +kernel
theorem dX7_whom_1 : decode cX7_whom 1 = .ok (.iconst 0, 1) := by decide +kernel
theorem dX7_whom_2 : decode cX7_whom 2 = .ok (.bipush 39, 2) := by decide +kernel
theorem dX7_whom_4 : decode cX7_whom 4 = .ok (.invokestatic 78, 3) := by decide +kernel
theorem dX7_whom_7 : decode cX7_whom 7 = .ok (.ifCond .eq 21, 3) := by decide +kernel
theorem dX7_whom_10 : decode cX7_whom 10 = .ok (.iload_n 2, 1) := by decide +kernel
theorem dX7_whom_11 : decode cX7_whom 11 = .ok (.iconst 0, 1) := by decide +kernel
theorem dX7_whom_12 : decode cX7_whom 12 = .ok (.iconst 1, 1) := by decide +kernel
theorem dX7_whom_13 : decode cX7_whom 13 = .ok (.invokestatic 78, 3) := by decide +kernel
theorem dX7_whom_16 : decode cX7_whom 16 = .ok (.ifCond .eq 12, 3) := by decide +kernel
theorem dX7_whom_19 : decode cX7_whom 19 = .ok (.aload_n 0, 1) := by decide +kernel
theorem dX7_whom_20 : decode cX7_whom 20 = .ok (.iload_n 1, 1) := by decide +kernel
theorem dX7_whom_21 : decode cX7_whom 21 = .ok (.iload_n 2, 1) := by decide +kernel
theorem dX7_whom_22 : decode cX7_whom 22 = .ok (.invokevirtual 227, 3) := by decide +kernel
theorem dX7_whom_25 : decode cX7_whom 25 = .ok (.goto 5, 3) := by decide +kernel
theorem dX7_whom_28 : decode cX7_whom 28 = .ok (.bipush (-2), 2) := by decide +kernel
theorem dX7_whom_30 : decode cX7_whom 30 = .ok (.ireturn, 1) := by decide +kernel
theorem dX7_isSheet_0 : decode cX7_isSheet 0 = .ok (.iload_n 0, 1) := by decide +kernel
theorem dX7_isSheet_1 : decode cX7_isSheet 1 = .ok (.iconst 0, 1) := by decide +kernel
theorem dX7_isSheet_2 : decode cX7_isSheet 2 = .ok (.iconst 3, 1) := by decide +kernel
theorem dX7_isSheet_3 : decode cX7_isSheet 3 = .ok (.invokestatic 78, 3) := by decide +kernel
theorem dX7_isSheet_6 : decode cX7_isSheet 6 = .ok (.ireturn, 1) := by decide +kernel
theorem dX7_sheet_0 : decode cX7_sheet 0 = .ok (.iload_n 1, 1) := by decide +kernel
theorem dX7_sheet_1 : decode cX7_sheet 1 = .ok (.invokestatic 254, 3) := by decide +kernel
theorem dX7_sheet_4 : decode cX7_sheet 4 = .ok (.ifCond .eq 23, 3) := by decide +kernel
theorem dX7_sheet_7 : decode cX7_sheet 7 = .ok (.iload_n 2, 1) := by decide +kernel
theorem dX7_sheet_8 : decode cX7_sheet 8 = .ok (.iconst (-1), 1) := by decide +kernel
theorem dX7_sheet_9 : decode cX7_sheet 9 = .ok (.iconst 2, 1) := by decide +kernel
theorem dX7_sheet_10 : decode cX7_sheet 10 = .ok (.invokestatic 78, 3) := by decide +kernel
theorem dX7_sheet_13 : decode cX7_sheet 13 = .ok (.ifCond .eq 14, 3) := by decide +kernel
theorem dX7_sheet_16 : decode cX7_sheet 16 = .ok (.iload_n 2, 1) := by decide +kernel
theorem dX7_sheet_17 : decode cX7_sheet 17 = .ok (.iconst (-1), 1) := by decide +kernel
theorem dX7_sheet_18 : decode cX7_sheet 18 = .ok (.if_icmp .eq 12, 3) := by decide +kernel
theorem dX7_sheet_21 : decode cX7_sheet 21 = .ok (.iload_n 3, 1) := by decide +kernel
theorem dX7_sheet_22 : decode cX7_sheet 22 = .ok (.bipush 40, 2) := by decide +kernel
theorem dX7_sheet_24 : decode cX7_sheet 24 = .ok (.if_icmp .le 6, 3) := by decide +kernel
theorem dX7_sheet_27 : decode cX7_sheet 27 = .ok (.bipush (-2), 2) := by decide +kernel
theorem dX7_sheet_29 : decode cX7_sheet 29 = .ok (.ireturn, 1) := by decide +kernel
theorem dX7_sheet_30 : decode cX7_sheet 30 = .ok (.iload_n 2, 1) := by decide +kernel
theorem dX7_sheet_31 : decode cX7_sheet 31 = .ok (.iconst (-1), 1) := by decide +kernel
theorem dX7_sheet_32 : decode cX7_sheet 32 = .ok (.if_icmp .eq 10, 3) := by decide +kernel
theorem dX7_sheet_35 : decode cX7_sheet 35 = .ok (.iload_n 3, 1) := by decide +kernel
theorem dX7_sheet_36 : decode cX7_sheet 36 = .ok (.ifCond .ge 6, 3) := by decide +kernel
theorem dX7_sheet_39 : decode cX7_sheet 39 = .ok (.bipush (-14), 2) := by decide +kernel
theorem dX7_sheet_41 : decode cX7_sheet 41 = .ok (.ireturn, 1) := by decide +kernel
theorem dX7_sheet_42 : decode cX7_sheet 42 = .ok (.aload_n 0, 1) := by decide +kernel
theorem dX7_sheet_43 : decode cX7_sheet 43 = .ok (.getfield 63, 3) := by decide +kernel
theorem dX7_sheet_46 : decode cX7_sheet 46 = .ok (.iload_n 1, 1) := by decide +kernel
theorem dX7_sheet_47 : decode cX7_sheet 47 = .ok (.iload_n 2, 1) := by decide +kernel
theorem dX7_sheet_48 : decode cX7_sheet 48 = .ok (.iastore, 1) := by decide +kernel
theorem dX7_sheet_49 : decode cX7_sheet 49 = .ok (.aload_n 0, 1) := by decide +kernel
theorem dX7_sheet_50 : decode cX7_sheet 50 = .ok (.getfield 66, 3) := by decide +kernel
theorem dX7_sheet_53 : decode cX7_sheet 53 = .ok (.iload_n 1, 1) := by decide +kernel
theorem dX7_sheet_54 : decode cX7_sheet 54 = .ok (.iload_n 2, 1) := by decide +kernel
theorem dX7_sheet_55 : decode cX7_sheet 55 = .ok (.iconst (-1), 1) := by decide +kernel
theorem dX7_sheet_56 : decode cX7_sheet 56 = .ok (.if_icmp .ne 7, 3) := by decide +kernel
theorem dX7_sheet_59 : decode cX7_sheet 59 = .ok (.iconst 0, 1) := by decide +kernel
theorem dX7_sheet_60 : decode cX7_sheet 60 = .ok (.goto 4, 3) := by decide +kernel
theorem dX7_sheet_63 : decode cX7_sheet 63 = .ok (.iload_n 3, 1) := by decide +kernel
theorem dX7_sheet_64 : decode cX7_sheet 64 = .ok (.iastore, 1) := by decide +kernel
theorem dX7_sheet_65 : decode cX7_sheet 65 = .ok (.iconst 0, 1) := by decide +kernel
theorem dX7_sheet_66 : decode cX7_sheet 66 = .ok (.istore 4, 2) := by decide +kernel
theorem dX7_sheet_68 : decode cX7_sheet 68 = .ok (.iload 4, 2) := by decide +kernel
theorem dX7_sheet_70 : decode cX7_sheet 70 = .ok (.bipush 40, 2) := by decide +kernel
theorem dX7_sheet_72 : decode cX7_sheet 72 = .ok (.if_icmp .ge 22, 3) := by decide +kernel
theorem dX7_sheet_75 : decode cX7_sheet 75 = .ok (.aload_n 0, 1) := by decide +kernel
theorem dX7_sheet_76 : decode cX7_sheet 76 = .ok (.getfield 69, 3) := by decide +kernel
theorem dX7_sheet_79 : decode cX7_sheet 79 = .ok (.bipush 40, 2) := by decide +kernel
theorem dX7_sheet_81 : decode cX7_sheet 81 = .ok (.iload_n 1, 1) := by decide +kernel
theorem dX7_sheet_82 : decode cX7_sheet 82 = .ok (.imul, 1) := by decide +kernel
theorem dX7_sheet_83 : decode cX7_sheet 83 = .ok (.iload 4, 2) := by decide +kernel
theorem dX7_sheet_85 : decode cX7_sheet 85 = .ok (.iadd, 1) := by decide +kernel
theorem dX7_sheet_86 : decode cX7_sheet 86 = .ok (.iconst 0, 1) := by decide +kernel
theorem dX7_sheet_87 : decode cX7_sheet 87 = .ok (.iastore, 1) := by decide +kernel
theorem dX7_sheet_88 : decode cX7_sheet 88 = .ok (.iinc 4 1, 3) := by decide +kernel
theorem dX7_sheet_91 : decode cX7_sheet 91 = .ok (.goto (-23), 3) := by decide +kernel
theorem dX7_sheet_94 : decode cX7_sheet 94 = .ok (.iconst 1, 1) := by decide +kernel
theorem dX7_sheet_95 : decode cX7_sheet 95 = .ok (.ireturn, 1) := by decide +kernel
theorem dX7_cell_0 : decode cX7_cell 0 = .ok (.iload_n 1, 1) := by decide +kernel
theorem dX7_cell_1 : decode cX7_cell 1 = .ok (.invokestatic 254, 3) := by decide +kernel
theorem dX7_cell_4 : decode cX7_cell 4 = .ok (.ifCond .ne 6, 3) := by decide +kernel
theorem dX7_cell_7 : decode cX7_cell 7 = .ok (.bipush (-2), 2) := by decide +kernel
theorem dX7_cell_9 : decode cX7_cell 9 = .ok (.ireturn, 1) := by decide +kernel
theorem dX7_cell_10 : decode cX7_cell 10 = .ok (.aload_n 0, 1) := by decide +kernel
theorem dX7_cell_11 : decode cX7_cell 11 = .ok (.getfield 63, 3) := by decide +kernel
theorem dX7_cell_14 : decode cX7_cell 14 = .ok (.iload_n 1, 1) := by decide +kernel
theorem dX7_cell_15 : decode cX7_cell 15 = .ok (.iaload, 1) := by decide +kernel
theorem dX7_cell_16 : decode cX7_cell 16 = .ok (.iconst (-1), 1) := by decide +kernel
theorem dX7_cell_17 : decode cX7_cell 17 = .ok (.if_icmp .ne 6, 3) := by decide +kernel
theorem dX7_cell_20 : decode cX7_cell 20 = .ok (.bipush (-11), 2) := by decide +kernel
theorem dX7_cell_22 : decode cX7_cell 22 = .ok (.ireturn, 1) := by decide +kernel
theorem dX7_cell_23 : decode cX7_cell 23 = .ok (.iload_n 2, 1) := by decide +kernel
theorem dX7_cell_24 : decode cX7_cell 24 = .ok (.iconst 0, 1) := by decide +kernel
theorem dX7_cell_25 : decode cX7_cell 25 = .ok (.aload_n 0, 1) := by decide +kernel
theorem dX7_cell_26 : decode cX7_cell 26 = .ok (.getfield 66, 3) := by decide +kernel
theorem dX7_cell_29 : decode cX7_cell 29 = .ok (.iload_n 1, 1) := by decide +kernel
theorem dX7_cell_30 : decode cX7_cell 30 = .ok (.iaload, 1) := by decide +kernel
theorem dX7_cell_31 : decode cX7_cell 31 = .ok (.iconst 1, 1) := by decide +kernel
theorem dX7_cell_32 : decode cX7_cell 32 = .ok (.isub, 1) := by decide +kernel
theorem dX7_cell_33 : decode cX7_cell 33 = .ok (.invokestatic 78, 3) := by decide +kernel
theorem dX7_cell_36 : decode cX7_cell 36 = .ok (.ifCond .ne 6, 3) := by decide +kernel
theorem dX7_cell_39 : decode cX7_cell 39 = .ok (.bipush (-12), 2) := by decide +kernel
theorem dX7_cell_41 : decode cX7_cell 41 = .ok (.ireturn, 1) := by decide +kernel
theorem dX7_cell_42 : decode cX7_cell 42 = .ok (.aload_n 0, 1) := by decide +kernel
theorem dX7_cell_43 : decode cX7_cell 43 = .ok (.getfield 69, 3) := by decide +kernel
theorem dX7_cell_46 : decode cX7_cell 46 = .ok (.bipush 40, 2) := by decide +kernel
theorem dX7_cell_48 : decode cX7_cell 48 = .ok (.iload_n 1, 1) := by decide +kernel
theorem dX7_cell_49 : decode cX7_cell 49 = .ok (.imul, 1) := by decide +kernel
theorem dX7_cell_50 : decode cX7_cell 50 = .ok (.iload_n 2, 1) := by decide +kernel
theorem dX7_cell_51 : decode cX7_cell 51 = .ok (.iadd, 1) := by decide +kernel
theorem dX7_cell_52 : decode cX7_cell 52 = .ok (.aload_n 0, 1) := by decide +kernel
theorem dX7_cell_53 : decode cX7_cell 53 = .ok (.getfield 63, 3) := by decide +kernel
theorem dX7_cell_56 : decode cX7_cell 56 = .ok (.iload_n 1, 1) := by decide +kernel
theorem dX7_cell_57 : decode cX7_cell 57 = .ok (.iaload, 1) := by decide +kernel
theorem dX7_cell_58 : decode cX7_cell 58 = .ok (.ifCond .ne 8, 3) := by decide +kernel
theorem dX7_cell_61 : decode cX7_cell 61 = .ok (.iload_n 3, 1) := by decide +kernel
theorem dX7_cell_62 : decode cX7_cell 62 = .ok (.i2b, 1) := by decide +kernel
theorem dX7_cell_63 : decode cX7_cell 63 = .ok (.goto 19, 3) := by decide +kernel
theorem dX7_cell_66 : decode cX7_cell 66 = .ok (.aload_n 0, 1) := by decide +kernel
theorem dX7_cell_67 : decode cX7_cell 67 = .ok (.getfield 63, 3) := by decide +kernel
theorem dX7_cell_70 : decode cX7_cell 70 = .ok (.iload_n 1, 1) := by decide +kernel
theorem dX7_cell_71 : decode cX7_cell 71 = .ok (.iaload, 1) := by decide +kernel
theorem dX7_cell_72 : decode cX7_cell 72 = .ok (.iconst 1, 1) := by decide +kernel
theorem dX7_cell_73 : decode cX7_cell 73 = .ok (.if_icmp .ne 8, 3) := by decide +kernel
theorem dX7_cell_76 : decode cX7_cell 76 = .ok (.iload_n 3, 1) := by decide +kernel
theorem dX7_cell_77 : decode cX7_cell 77 = .ok (.i2s, 1) := by decide +kernel
theorem dX7_cell_78 : decode cX7_cell 78 = .ok (.goto 4, 3) := by decide +kernel
theorem dX7_cell_81 : decode cX7_cell 81 = .ok (.iload_n 3, 1) := by decide +kernel
theorem dX7_cell_82 : decode cX7_cell 82 = .ok (.iastore, 1) := by decide +kernel
theorem dX7_cell_83 : decode cX7_cell 83 = .ok (.iconst 1, 1) := by decide +kernel
theorem dX7_cell_84 : decode cX7_cell 84 = .ok (.ireturn, 1) := by decide +kernel
theorem dX7_copy_0 : decode cX7_copy 0 = .ok (.iload_n 1, 1) := by decide +kernel
theorem dX7_copy_1 : decode cX7_copy 1 = .ok (.invokestatic 254, 3) := by decide +kernel
theorem dX7_copy_4 : decode cX7_copy 4 = .ok (.ifCond .eq 10, 3) := by decide +kernel
theorem dX7_copy_7 : decode cX7_copy 7 = .ok (.iload_n 3, 1) := by decide +kernel
theorem dX7_copy_8 : decode cX7_copy 8 = .ok (.invokestatic 254, 3) := by decide +kernel
theorem dX7_copy_11 : decode cX7_copy 11 = .ok (.ifCond .ne 6, 3) := by decide +kernel
theorem dX7_copy_14 : decode cX7_copy 14 = .ok (.bipush (-2), 2) := by decide +kernel
theorem dX7_copy_16 : decode cX7_copy 16 = .ok (.ireturn, 1) := by decide +kernel
theorem dX7_copy_17 : decode cX7_copy 17 = .ok (.aload_n 0, 1) := by decide +kernel
theorem dX7_copy_18 : decode cX7_copy 18 = .ok (.getfield 63, 3) := by decide +kernel
theorem dX7_copy_21 : decode cX7_copy 21 = .ok (.iload_n 1, 1) := by decide +kernel
theorem dX7_copy_22 : decode cX7_copy 22 = .ok (.iaload, 1) := by decide +kernel
theorem dX7_copy_23 : decode cX7_copy 23 = .ok (.iconst (-1), 1) := by decide +kernel
theorem dX7_copy_24 : decode cX7_copy 24 = .ok (.if_icmp .eq 13, 3) := by decide +kernel
theorem dX7_copy_27 : decode cX7_copy 27 = .ok (.aload_n 0, 1) := by decide +kernel
theorem dX7_copy_28 : decode cX7_copy 28 = .ok (.getfield 63, 3) := by decide +kernel
theorem dX7_copy_31 : decode cX7_copy 31 = .ok (.iload_n 3, 1) := by decide +kernel
theorem dX7_copy_32 : decode cX7_copy 32 = .ok (.iaload, 1) := by decide +kernel
theorem dX7_copy_33 : decode cX7_copy 33 = .ok (.iconst (-1), 1) := by decide +kernel
theorem dX7_copy_34 : decode cX7_copy 34 = .ok (.if_icmp .ne 6, 3) := by decide +kernel
theorem dX7_copy_37 : decode cX7_copy 37 = .ok (.bipush (-11), 2) := by decide +kernel
theorem dX7_copy_39 : decode cX7_copy 39 = .ok (.ireturn, 1) := by decide +kernel
theorem dX7_copy_40 : decode cX7_copy 40 = .ok (.aload_n 0, 1) := by decide +kernel
theorem dX7_copy_41 : decode cX7_copy 41 = .ok (.getfield 63, 3) := by decide +kernel
theorem dX7_copy_44 : decode cX7_copy 44 = .ok (.iload_n 1, 1) := by decide +kernel
theorem dX7_copy_45 : decode cX7_copy 45 = .ok (.iaload, 1) := by decide +kernel
theorem dX7_copy_46 : decode cX7_copy 46 = .ok (.aload_n 0, 1) := by decide +kernel
theorem dX7_copy_47 : decode cX7_copy 47 = .ok (.getfield 63, 3) := by decide +kernel
theorem dX7_copy_50 : decode cX7_copy 50 = .ok (.iload_n 3, 1) := by decide +kernel
theorem dX7_copy_51 : decode cX7_copy 51 = .ok (.iaload, 1) := by decide +kernel
theorem dX7_copy_52 : decode cX7_copy 52 = .ok (.if_icmp .eq 6, 3) := by decide +kernel
theorem dX7_copy_55 : decode cX7_copy 55 = .ok (.bipush (-13), 2) := by decide +kernel
theorem dX7_copy_57 : decode cX7_copy 57 = .ok (.ireturn, 1) := by decide +kernel
theorem dX7_copy_58 : decode cX7_copy 58 = .ok (.iload 5, 2) := by decide +kernel
theorem dX7_copy_60 : decode cX7_copy 60 = .ok (.ifCond .lt 39, 3) := by decide +kernel
theorem dX7_copy_63 : decode cX7_copy 63 = .ok (.iload_n 2, 1) := by decide +kernel
theorem dX7_copy_64 : decode cX7_copy 64 = .ok (.ifCond .lt 35, 3) := by decide +kernel
theorem dX7_copy_67 : decode cX7_copy 67 = .ok (.iload 4, 2) := by decide +kernel
theorem dX7_copy_69 : decode cX7_copy 69 = .ok (.ifCond .lt 30, 3) := by decide +kernel
theorem dX7_copy_72 : decode cX7_copy 72 = .ok (.iload 5, 2) := by decide +kernel
theorem dX7_copy_74 : decode cX7_copy 74 = .ok (.aload_n 0, 1) := by decide +kernel
theorem dX7_copy_75 : decode cX7_copy 75 = .ok (.getfield 66, 3) := by decide +kernel
theorem dX7_copy_78 : decode cX7_copy 78 = .ok (.iload_n 1, 1) := by decide +kernel
theorem dX7_copy_79 : decode cX7_copy 79 = .ok (.iaload, 1) := by decide +kernel
theorem dX7_copy_80 : decode cX7_copy 80 = .ok (.iload_n 2, 1) := by decide +kernel
theorem dX7_copy_81 : decode cX7_copy 81 = .ok (.isub, 1) := by decide +kernel
theorem dX7_copy_82 : decode cX7_copy 82 = .ok (.if_icmp .gt 17, 3) := by decide +kernel
theorem dX7_copy_85 : decode cX7_copy 85 = .ok (.iload 5, 2) := by decide +kernel
theorem dX7_copy_87 : decode cX7_copy 87 = .ok (.aload_n 0, 1) := by decide +kernel
theorem dX7_copy_88 : decode cX7_copy 88 = .ok (.getfield 66, 3) := by decide +kernel
theorem dX7_copy_91 : decode cX7_copy 91 = .ok (.iload_n 3, 1) := by decide +kernel
theorem dX7_copy_92 : decode cX7_copy 92 = .ok (.iaload, 1) := by decide +kernel
theorem dX7_copy_93 : decode cX7_copy 93 = .ok (.iload 4, 2) := by decide +kernel
theorem dX7_copy_95 : decode cX7_copy 95 = .ok (.isub, 1) := by decide +kernel
theorem dX7_copy_96 : decode cX7_copy 96 = .ok (.if_icmp .le 6, 3) := by decide +kernel
theorem dX7_copy_99 : decode cX7_copy 99 = .ok (.bipush (-12), 2) := by decide +kernel
theorem dX7_copy_101 : decode cX7_copy 101 = .ok (.ireturn, 1) := by decide +kernel
theorem dX7_copy_102 : decode cX7_copy 102 = .ok (.iconst 0, 1) := by decide +kernel
theorem dX7_copy_103 : decode cX7_copy 103 = .ok (.istore 6, 2) := by decide +kernel
theorem dX7_copy_105 : decode cX7_copy 105 = .ok (.iload 6, 2) := by decide +kernel
theorem dX7_copy_107 : decode cX7_copy 107 = .ok (.iload 5, 2) := by decide +kernel
theorem dX7_copy_109 : decode cX7_copy 109 = .ok (.if_icmp .ge 30, 3) := by decide +kernel
theorem dX7_copy_112 : decode cX7_copy 112 = .ok (.aload_n 0, 1) := by decide +kernel
theorem dX7_copy_113 : decode cX7_copy 113 = .ok (.getfield 72, 3) := by decide +kernel
theorem dX7_copy_116 : decode cX7_copy 116 = .ok (.iload 6, 2) := by decide +kernel
theorem dX7_copy_118 : decode cX7_copy 118 = .ok (.aload_n 0, 1) := by decide +kernel
theorem dX7_copy_119 : decode cX7_copy 119 = .ok (.getfield 69, 3) := by decide +kernel
theorem dX7_copy_122 : decode cX7_copy 122 = .ok (.bipush 40, 2) := by decide +kernel
theorem dX7_copy_124 : decode cX7_copy 124 = .ok (.iload_n 1, 1) := by decide +kernel
theorem dX7_copy_125 : decode cX7_copy 125 = .ok (.imul, 1) := by decide +kernel
theorem dX7_copy_126 : decode cX7_copy 126 = .ok (.iload_n 2, 1) := by decide +kernel
theorem dX7_copy_127 : decode cX7_copy 127 = .ok (.iadd, 1) := by decide +kernel
theorem dX7_copy_128 : decode cX7_copy 128 = .ok (.iload 6, 2) := by decide +kernel
theorem dX7_copy_130 : decode cX7_copy 130 = .ok (.iadd, 1) := by decide +kernel
theorem dX7_copy_131 : decode cX7_copy 131 = .ok (.iaload, 1) := by decide +kernel
theorem dX7_copy_132 : decode cX7_copy 132 = .ok (.iastore, 1) := by decide +kernel
theorem dX7_copy_133 : decode cX7_copy 133 = .ok (.iinc 6 1, 3) := by decide +kernel
theorem dX7_copy_136 : decode cX7_copy 136 = .ok (.goto (-31), 3) := by decide +kernel
theorem dX7_copy_139 : decode cX7_copy 139 = .ok (.iconst 0, 1) := by decide +kernel
theorem dX7_copy_140 : decode cX7_copy 140 = .ok (.istore 6, 2) := by decide +kernel
theorem dX7_copy_142 : decode cX7_copy 142 = .ok (.iload 6, 2) := by decide +kernel
theorem dX7_copy_144 : decode cX7_copy 144 = .ok (.iload 5, 2) := by decide +kernel
theorem dX7_copy_146 : decode cX7_copy 146 = .ok (.if_icmp .ge 31, 3) := by decide +kernel
theorem dX7_copy_149 : decode cX7_copy 149 = .ok (.aload_n 0, 1) := by decide +kernel
theorem dX7_copy_150 : decode cX7_copy 150 = .ok (.getfield 69, 3) := by decide +kernel
theorem dX7_copy_153 : decode cX7_copy 153 = .ok (.bipush 40, 2) := by decide +kernel
theorem dX7_copy_155 : decode cX7_copy 155 = .ok (.iload_n 3, 1) := by decide +kernel
theorem dX7_copy_156 : decode cX7_copy 156 = .ok (.imul, 1) := by decide +kernel
theorem dX7_copy_157 : decode cX7_copy 157 = .ok (.iload 4, 2) := by decide +kernel
theorem dX7_copy_159 : decode cX7_copy 159 = .ok (.iadd, 1) := by decide +kernel
theorem dX7_copy_160 : decode cX7_copy 160 = .ok (.iload 6, 2) := by decide +kernel
theorem dX7_copy_162 : decode cX7_copy 162 = .ok (.iadd, 1) := by decide +kernel
theorem dX7_copy_163 : decode cX7_copy 163 = .ok (.aload_n 0, 1) := by decide +kernel
theorem dX7_copy_164 : decode cX7_copy 164 = .ok (.getfield 72, 3) := by decide +kernel
theorem dX7_copy_167 : decode cX7_copy 167 = .ok (.iload 6, 2) := by decide +kernel
theorem dX7_copy_169 : decode cX7_copy 169 = .ok (.iaload, 1) := by decide +kernel
theorem dX7_copy_170 : decode cX7_copy 170 = .ok (.iastore, 1) := by decide +kernel
theorem dX7_copy_171 : decode cX7_copy 171 = .ok (.iinc 6 1, 3) := by decide +kernel
theorem dX7_copy_174 : decode cX7_copy 174 = .ok (.goto (-32), 3) := by decide +kernel
theorem dX7_copy_177 : decode cX7_copy 177 = .ok (.iload 5, 2) := by decide +kernel
theorem dX7_copy_179 : decode cX7_copy 179 = .ok (.ireturn, 1) := by decide +kernel
theorem dX7_pairs_0 : decode cX7_pairs 0 = .ok (.iload_n 1, 1) := by decide +kernel
theorem dX7_pairs_1 : decode cX7_pairs 1 = .ok (.invokestatic 254, 3) := by decide +kernel
theorem dX7_pairs_4 : decode cX7_pairs 4 = .ok (.ifCond .eq 22, 3) := by decide +kernel
theorem dX7_pairs_7 : decode cX7_pairs 7 = .ok (.iload_n 2, 1) := by decide +kernel
theorem dX7_pairs_8 : decode cX7_pairs 8 = .ok (.iconst 0, 1) := by decide +kernel
theorem dX7_pairs_9 : decode cX7_pairs 9 = .ok (.iconst 2, 1) := by decide +kernel
theorem dX7_pairs_10 : decode cX7_pairs 10 = .ok (.invokestatic 78, 3) := by decide +kernel
theorem dX7_pairs_13 : decode cX7_pairs 13 = .ok (.ifCond .eq 13, 3) := by decide +kernel
theorem dX7_pairs_16 : decode cX7_pairs 16 = .ok (.iload 4, 2) := by decide +kernel
theorem dX7_pairs_18 : decode cX7_pairs 18 = .ok (.iconst 0, 1) := by decide +kernel
theorem dX7_pairs_19 : decode cX7_pairs 19 = .ok (.iconst 5, 1) := by decide +kernel
theorem dX7_pairs_20 : decode cX7_pairs 20 = .ok (.invokestatic 78, 3) := by decide +kernel
theorem dX7_pairs_23 : decode cX7_pairs 23 = .ok (.ifCond .ne 6, 3) := by decide +kernel
theorem dX7_pairs_26 : decode cX7_pairs 26 = .ok (.bipush (-2), 2) := by decide +kernel
theorem dX7_pairs_28 : decode cX7_pairs 28 = .ok (.ireturn, 1) := by decide +kernel
theorem dX7_pairs_29 : decode cX7_pairs 29 = .ok (.aload_n 0, 1) := by decide +kernel
theorem dX7_pairs_30 : decode cX7_pairs 30 = .ok (.getfield 63, 3) := by decide +kernel
theorem dX7_pairs_33 : decode cX7_pairs 33 = .ok (.iload_n 1, 1) := by decide +kernel
theorem dX7_pairs_34 : decode cX7_pairs 34 = .ok (.iaload, 1) := by decide +kernel
theorem dX7_pairs_35 : decode cX7_pairs 35 = .ok (.iconst (-1), 1) := by decide +kernel
theorem dX7_pairs_36 : decode cX7_pairs 36 = .ok (.if_icmp .ne 6, 3) := by decide +kernel
theorem dX7_pairs_39 : decode cX7_pairs 39 = .ok (.bipush (-11), 2) := by decide +kernel
theorem dX7_pairs_41 : decode cX7_pairs 41 = .ok (.ireturn, 1) := by decide +kernel
theorem dX7_pairs_42 : decode cX7_pairs 42 = .ok (.aload_n 0, 1) := by decide +kernel
theorem dX7_pairs_43 : decode cX7_pairs 43 = .ok (.getfield 63, 3) := by decide +kernel
theorem dX7_pairs_46 : decode cX7_pairs 46 = .ok (.iload_n 1, 1) := by decide +kernel
theorem dX7_pairs_47 : decode cX7_pairs 47 = .ok (.iaload, 1) := by decide +kernel
theorem dX7_pairs_48 : decode cX7_pairs 48 = .ok (.iload_n 2, 1) := by decide +kernel
theorem dX7_pairs_49 : decode cX7_pairs 49 = .ok (.if_icmp .eq 6, 3) := by decide +kernel
theorem dX7_pairs_52 : decode cX7_pairs 52 = .ok (.bipush (-13), 2) := by decide +kernel
theorem dX7_pairs_54 : decode cX7_pairs 54 = .ok (.ireturn, 1) := by decide +kernel
theorem dX7_pairs_55 : decode cX7_pairs 55 = .ok (.iconst 0, 1) := by decide +kernel
theorem dX7_pairs_56 : decode cX7_pairs 56 = .ok (.istore 5, 2) := by decide +kernel
theorem dX7_pairs_58 : decode cX7_pairs 58 = .ok (.iconst 0, 1) := by decide +kernel
theorem dX7_pairs_59 : decode cX7_pairs 59 = .ok (.istore 6, 2) := by decide +kernel
theorem dX7_pairs_61 : decode cX7_pairs 61 = .ok (.iload 6, 2) := by decide +kernel
theorem dX7_pairs_63 : decode cX7_pairs 63 = .ok (.iload 4, 2) := by decide +kernel
theorem dX7_pairs_65 : decode cX7_pairs 65 = .ok (.if_icmp .ge 88, 3) := by decide +kernel
theorem dX7_pairs_68 : decode cX7_pairs 68 = .ok (.iload_n 3, 1) := by decide +kernel
theorem dX7_pairs_69 : decode cX7_pairs 69 = .ok (.iconst 3, 1) := by decide +kernel
theorem dX7_pairs_70 : decode cX7_pairs 70 = .ok (.iload 6, 2) := by decide +kernel
theorem dX7_pairs_72 : decode cX7_pairs 72 = .ok (.imul, 1) := by decide +kernel
theorem dX7_pairs_73 : decode cX7_pairs 73 = .ok (.iadd, 1) := by decide +kernel
theorem dX7_pairs_74 : decode cX7_pairs 74 = .ok (.istore 7, 2) := by decide +kernel
theorem dX7_pairs_76 : decode cX7_pairs 76 = .ok (.iload_n 3, 1) := by decide +kernel
theorem dX7_pairs_77 : decode cX7_pairs 77 = .ok (.ifCond .lt 16, 3) := by decide +kernel
theorem dX7_pairs_80 : decode cX7_pairs 80 = .ok (.iload 7, 2) := by decide +kernel
theorem dX7_pairs_82 : decode cX7_pairs 82 = .ok (.aload_n 0, 1) := by decide +kernel
theorem dX7_pairs_83 : decode cX7_pairs 83 = .ok (.getfield 66, 3) := by decide +kernel
theorem dX7_pairs_86 : decode cX7_pairs 86 = .ok (.iload_n 1, 1) := by decide +kernel
theorem dX7_pairs_87 : decode cX7_pairs 87 = .ok (.iaload, 1) := by decide +kernel
theorem dX7_pairs_88 : decode cX7_pairs 88 = .ok (.iconst 3, 1) := by decide +kernel
theorem dX7_pairs_89 : decode cX7_pairs 89 = .ok (.isub, 1) := by decide +kernel
theorem dX7_pairs_90 : decode cX7_pairs 90 = .ok (.if_icmp .le 6, 3) := by decide +kernel
theorem dX7_pairs_93 : decode cX7_pairs 93 = .ok (.bipush (-12), 2) := by decide +kernel
theorem dX7_pairs_95 : decode cX7_pairs 95 = .ok (.ireturn, 1) := by decide +kernel
theorem dX7_pairs_96 : decode cX7_pairs 96 = .ok (.bipush 40, 2) := by decide +kernel
theorem dX7_pairs_98 : decode cX7_pairs 98 = .ok (.iload_n 1, 1) := by decide +kernel
theorem dX7_pairs_99 : decode cX7_pairs 99 = .ok (.imul, 1) := by decide +kernel
theorem dX7_pairs_100 : decode cX7_pairs 100 = .ok (.iload 7, 2) := by decide +kernel
theorem dX7_pairs_102 : decode cX7_pairs 102 = .ok (.iadd, 1) := by decide +kernel
theorem dX7_pairs_103 : decode cX7_pairs 103 = .ok (.istore 8, 2) := by decide +kernel
theorem dX7_pairs_105 : decode cX7_pairs 105 = .ok (.iload 5, 2) := by decide +kernel
theorem dX7_pairs_107 : decode cX7_pairs 107 = .ok (.aload_n 0, 1) := by decide +kernel
theorem dX7_pairs_108 : decode cX7_pairs 108 = .ok (.aload_n 0, 1) := by decide +kernel
theorem dX7_pairs_109 : decode cX7_pairs 109 = .ok (.getfield 69, 3) := by decide +kernel
theorem dX7_pairs_112 : decode cX7_pairs 112 = .ok (.iload 8, 2) := by decide +kernel
theorem dX7_pairs_114 : decode cX7_pairs 114 = .ok (.iaload, 1) := by decide +kernel
theorem dX7_pairs_115 : decode cX7_pairs 115 = .ok (.aload_n 0, 1) := by decide +kernel
theorem dX7_pairs_116 : decode cX7_pairs 116 = .ok (.getfield 69, 3) := by decide +kernel
theorem dX7_pairs_119 : decode cX7_pairs 119 = .ok (.iload 8, 2) := by decide +kernel
theorem dX7_pairs_121 : decode cX7_pairs 121 = .ok (.iconst 1, 1) := by decide +kernel
theorem dX7_pairs_122 : decode cX7_pairs 122 = .ok (.iadd, 1) := by decide +kernel
theorem dX7_pairs_123 : decode cX7_pairs 123 = .ok (.iaload, 1) := by decide +kernel
theorem dX7_pairs_124 : decode cX7_pairs 124 = .ok (.aload_n 0, 1) := by decide +kernel
theorem dX7_pairs_125 : decode cX7_pairs 125 = .ok (.getfield 69, 3) := by decide +kernel
theorem dX7_pairs_128 : decode cX7_pairs 128 = .ok (.iload 8, 2) := by decide +kernel
theorem dX7_pairs_130 : decode cX7_pairs 130 = .ok (.iconst 2, 1) := by decide +kernel
theorem dX7_pairs_131 : decode cX7_pairs 131 = .ok (.iadd, 1) := by decide +kernel
theorem dX7_pairs_132 : decode cX7_pairs 132 = .ok (.iaload, 1) := by decide +kernel
theorem dX7_pairs_133 : decode cX7_pairs 133 = .ok (.invokevirtual 257, 3) := by decide +kernel
theorem dX7_pairs_136 : decode cX7_pairs 136 = .ok (.ifCond .lt 7, 3) := by decide +kernel
theorem dX7_pairs_139 : decode cX7_pairs 139 = .ok (.iconst 1, 1) := by decide +kernel
theorem dX7_pairs_140 : decode cX7_pairs 140 = .ok (.goto 4, 3) := by decide +kernel
theorem dX7_pairs_143 : decode cX7_pairs 143 = .ok (.iconst 0, 1) := by decide +kernel
theorem dX7_pairs_144 : decode cX7_pairs 144 = .ok (.iadd, 1) := by decide +kernel
theorem dX7_pairs_145 : decode cX7_pairs 145 = .ok (.istore 5, 2) := by decide +kernel
theorem dX7_pairs_147 : decode cX7_pairs 147 = .ok (.iinc 6 1, 3) := by decide +kernel
theorem dX7_pairs_150 : decode cX7_pairs 150 = .ok (.goto (-89), 3) := by decide +kernel
theorem dX7_pairs_153 : decode cX7_pairs 153 = .ok (.iload 5, 2) := by decide +kernel
theorem dX7_pairs_155 : decode cX7_pairs 155 = .ok (.ireturn, 1) := by decide +kernel
theorem dX7_taken_0 : decode cX7_taken 0 = .ok (.iload_n 2, 1) := by decide +kernel
theorem dX7_taken_1 : decode cX7_taken 1 = .ok (.iconst 0, 1) := by decide +kernel
theorem dX7_taken_2 : decode cX7_taken 2 = .ok (.iconst 5, 1) := by decide +kernel
theorem dX7_taken_3 : decode cX7_taken 3 = .ok (.invokestatic 78, 3) := by decide +kernel
theorem dX7_taken_6 : decode cX7_taken 6 = .ok (.ifCond .ne 6, 3) := by decide +kernel
theorem dX7_taken_9 : decode cX7_taken 9 = .ok (.bipush (-2), 2) := by decide +kernel
theorem dX7_taken_11 : decode cX7_taken 11 = .ok (.ireturn, 1) := by decide +kernel
theorem dX7_taken_12 : decode cX7_taken 12 = .ok (.aload_n 0, 1) := by decide +kernel
theorem dX7_taken_13 : decode cX7_taken 13 = .ok (.iload_n 1, 1) := by decide +kernel
theorem dX7_taken_14 : decode cX7_taken 14 = .ok (.invokevirtual 82, 3) := by decide +kernel
theorem dX7_taken_17 : decode cX7_taken 17 = .ok (.ifCond .ne 6, 3) := by decide +kernel
theorem dX7_taken_20 : decode cX7_taken 20 = .ok (.bipush (-11), 2) := by decide +kernel
theorem dX7_taken_22 : decode cX7_taken 22 = .ok (.ireturn, 1) := by decide +kernel
theorem dX7_taken_23 : decode cX7_taken 23 = .ok (.aload_n 0, 1) := by decide +kernel
theorem dX7_taken_24 : decode cX7_taken 24 = .ok (.iload_n 1, 1) := by decide +kernel
theorem dX7_taken_25 : decode cX7_taken 25 = .ok (.invokevirtual 107, 3) := by decide +kernel
theorem dX7_taken_28 : decode cX7_taken 28 = .ok (.istore_n 3, 1) := by decide +kernel
theorem dX7_taken_29 : decode cX7_taken 29 = .ok (.iload_n 3, 1) := by decide +kernel
theorem dX7_taken_30 : decode cX7_taken 30 = .ok (.iconst (-1), 1) := by decide +kernel
theorem dX7_taken_31 : decode cX7_taken 31 = .ok (.if_icmp .eq 18, 3) := by decide +kernel
theorem dX7_taken_34 : decode cX7_taken 34 = .ok (.iload_n 3, 1) := by decide +kernel
theorem dX7_taken_35 : decode cX7_taken 35 = .ok (.iload_n 2, 1) := by decide +kernel
theorem dX7_taken_36 : decode cX7_taken 36 = .ok (.if_icmp .eq 13, 3) := by decide +kernel
theorem dX7_taken_39 : decode cX7_taken 39 = .ok (.aload_n 0, 1) := by decide +kernel
theorem dX7_taken_40 : decode cX7_taken 40 = .ok (.getfield 75, 3) := by decide +kernel
theorem dX7_taken_43 : decode cX7_taken 43 = .ok (.iload_n 3, 1) := by decide +kernel
theorem dX7_taken_44 : decode cX7_taken 44 = .ok (.iaload, 1) := by decide +kernel
theorem dX7_taken_45 : decode cX7_taken 45 = .ok (.istore_n 3, 1) := by decide +kernel
theorem dX7_taken_46 : decode cX7_taken 46 = .ok (.goto (-17), 3) := by decide +kernel
theorem dX7_taken_49 : decode cX7_taken 49 = .ok (.iload_n 3, 1) := by decide +kernel
theorem dX7_taken_50 : decode cX7_taken 50 = .ok (.iconst (-1), 1) := by decide +kernel
theorem dX7_taken_51 : decode cX7_taken 51 = .ok (.if_icmp .ne 8, 3) := by decide +kernel
theorem dX7_taken_54 : decode cX7_taken 54 = .ok (.bipush (-13), 2) := by decide +kernel
theorem dX7_taken_56 : decode cX7_taken 56 = .ok (.goto 8, 3) := by decide +kernel
theorem dX7_taken_59 : decode cX7_taken 59 = .ok (.aload_n 0, 1) := by decide +kernel
theorem dX7_taken_60 : decode cX7_taken 60 = .ok (.iload_n 1, 1) := by decide +kernel
theorem dX7_taken_61 : decode cX7_taken 61 = .ok (.invokevirtual 104, 3) := by decide +kernel
theorem dX7_taken_64 : decode cX7_taken 64 = .ok (.ireturn, 1) := by decide +kernel
theorem dX7_otherwise_0 : decode cX7_otherwise 0 = .ok (.iload_n 2, 1) := by decide +kernel
theorem dX7_otherwise_1 : decode cX7_otherwise 1 = .ok (.istore_n 3, 1) := by decide +kernel
theorem dX7_otherwise_2 : decode cX7_otherwise 2 = .ok (.iconst 0, 1) := by decide +kernel
theorem dX7_otherwise_3 : decode cX7_otherwise 3 = .ok (.istore 4, 2) := by decide +kernel
theorem dX7_otherwise_5 : decode cX7_otherwise 5 = .ok (.iload 4, 2) := by decide +kernel
theorem dX7_otherwise_7 : decode cX7_otherwise 7 = .ok (.aload_n 0, 1) := by decide +kernel
theorem dX7_otherwise_8 : decode cX7_otherwise 8 = .ok (.getfield 66, 3) := by decide +kernel
theorem dX7_otherwise_11 : decode cX7_otherwise 11 = .ok (.iload_n 1, 1) := by decide +kernel
theorem dX7_otherwise_12 : decode cX7_otherwise 12 = .ok (.iaload, 1) := by decide +kernel
theorem dX7_otherwise_13 : decode cX7_otherwise 13 = .ok (.if_icmp .ge 38, 3) := by decide +kernel
theorem dX7_otherwise_16 : decode cX7_otherwise 16 = .ok (.aload_n 0, 1) := by decide +kernel
theorem dX7_otherwise_17 : decode cX7_otherwise 17 = .ok (.iload_n 3, 1) := by decide +kernel
theorem dX7_otherwise_18 : decode cX7_otherwise 18 = .ok (.invokevirtual 113, 3) := by decide +kernel
theorem dX7_otherwise_21 : decode cX7_otherwise 21 = .ok (.aload_n 0, 1) := by decide +kernel
theorem dX7_otherwise_22 : decode cX7_otherwise 22 = .ok (.getfield 69, 3) := by decide +kernel
theorem dX7_otherwise_25 : decode cX7_otherwise 25 = .ok (.bipush 40, 2) := by decide +kernel
theorem dX7_otherwise_27 : decode cX7_otherwise 27 = .ok (.iload_n 1, 1) := by decide +kernel
theorem dX7_otherwise_28 : decode cX7_otherwise 28 = .ok (.imul, 1) := by decide +kernel
theorem dX7_otherwise_29 : decode cX7_otherwise 29 = .ok (.iload 4, 2) := by decide +kernel
theorem dX7_otherwise_31 : decode cX7_otherwise 31 = .ok (.iadd, 1) := by decide +kernel
theorem dX7_otherwise_32 : decode cX7_otherwise 32 = .ok (.iaload, 1) := by decide +kernel
theorem dX7_otherwise_33 : decode cX7_otherwise 33 = .ok (.if_icmp .eq 6, 3) := by decide +kernel
theorem dX7_otherwise_36 : decode cX7_otherwise 36 = .ok (.iload 4, 2) := by decide +kernel
theorem dX7_otherwise_38 : decode cX7_otherwise 38 = .ok (.ireturn, 1) := by decide +kernel
theorem dX7_otherwise_39 : decode cX7_otherwise 39 = .ok (.aload_n 0, 1) := by decide +kernel
theorem dX7_otherwise_40 : decode cX7_otherwise 40 = .ok (.iload_n 3, 1) := by decide +kernel
theorem dX7_otherwise_41 : decode cX7_otherwise 41 = .ok (.invokevirtual 215, 3) := by decide +kernel
theorem dX7_otherwise_44 : decode cX7_otherwise 44 = .ok (.istore_n 3, 1) := by decide +kernel
theorem dX7_otherwise_45 : decode cX7_otherwise 45 = .ok (.iinc 4 1, 3) := by decide +kernel
theorem dX7_otherwise_48 : decode cX7_otherwise 48 = .ok (.goto (-43), 3) := by decide +kernel
theorem dX7_otherwise_51 : decode cX7_otherwise 51 = .ok (.iconst (-1), 1) := by decide +kernel
theorem dX7_otherwise_52 : decode cX7_otherwise 52 = .ok (.ireturn, 1) := by decide +kernel
theorem dX7_fits_0 : decode cX7_fits 0 = .ok (.aload_n 0, 1) := by decide +kernel
theorem dX7_fits_1 : decode cX7_fits 1 = .ok (.iload_n 1, 1) := by decide +kernel
theorem dX7_fits_2 : decode cX7_fits 2 = .ok (.iload_n 2, 1) := by decide +kernel
theorem dX7_fits_3 : decode cX7_fits 3 = .ok (.invokevirtual 260, 3) := by decide +kernel
theorem dX7_fits_6 : decode cX7_fits 6 = .ok (.iconst (-1), 1) := by decide +kernel
theorem dX7_fits_7 : decode cX7_fits 7 = .ok (.if_icmp .ne 7, 3) := by decide +kernel
theorem dX7_fits_10 : decode cX7_fits 10 = .ok (.iconst 1, 1) := by decide +kernel
theorem dX7_fits_11 : decode cX7_fits 11 = .ok (.goto 4, 3) := by decide +kernel
theorem dX7_fits_14 : decode cX7_fits 14 = .ok (.iconst 0, 1) := by decide +kernel
theorem dX7_fits_15 : decode cX7_fits 15 = .ok (.ireturn, 1) := by decide +kernel
theorem dX7_fitAngers_0 : decode cX7_fitAngers 0 = .ok (.iconst 0, 1) := by decide +kernel
theorem dX7_fitAngers_1 : decode cX7_fitAngers 1 = .ok (.istore_n 3, 1) := by decide +kernel
theorem dX7_fitAngers_2 : decode cX7_fitAngers 2 = .ok (.iconst (-1), 1) := by decide +kernel
theorem dX7_fitAngers_3 : decode cX7_fitAngers 3 = .ok (.istore 4, 2) := by decide +kernel
theorem dX7_fitAngers_5 : decode cX7_fitAngers 5 = .ok (.bipush 99, 2) := by decide +kernel
theorem dX7_fitAngers_7 : decode cX7_fitAngers 7 = .ok (.istore 5, 2) := by decide +kernel
theorem dX7_fitAngers_9 : decode cX7_fitAngers 9 = .ok (.iload 5, 2) := by decide +kernel
theorem dX7_fitAngers_11 : decode cX7_fitAngers 11 = .ok (.ifCond .lt 45, 3) := by decide +kernel
theorem dX7_fitAngers_14 : decode cX7_fitAngers 14 = .ok (.aload_n 0, 1) := by decide +kernel
theorem dX7_fitAngers_15 : decode cX7_fitAngers 15 = .ok (.iload_n 1, 1) := by decide +kernel
theorem dX7_fitAngers_16 : decode cX7_fitAngers 16 = .ok (.iload 5, 2) := by decide +kernel
theorem dX7_fitAngers_18 : decode cX7_fitAngers 18 = .ok (.invokevirtual 263, 3) := by decide +kernel
theorem dX7_fitAngers_21 : decode cX7_fitAngers 21 = .ok (.istore 6, 2) := by decide +kernel
theorem dX7_fitAngers_23 : decode cX7_fitAngers 23 = .ok (.iload_n 3, 1) := by decide +kernel
theorem dX7_fitAngers_24 : decode cX7_fitAngers 24 = .ok (.iload 6, 2) := by decide +kernel
theorem dX7_fitAngers_26 : decode cX7_fitAngers 26 = .ok (.ifCond .eq 7, 3) := by decide +kernel
theorem dX7_fitAngers_29 : decode cX7_fitAngers 29 = .ok (.iconst 1, 1) := by decide +kernel
theorem dX7_fitAngers_30 : decode cX7_fitAngers 30 = .ok (.goto 4, 3) := by decide +kernel
theorem dX7_fitAngers_33 : decode cX7_fitAngers 33 = .ok (.iconst 0, 1) := by decide +kernel
theorem dX7_fitAngers_34 : decode cX7_fitAngers 34 = .ok (.iadd, 1) := by decide +kernel
theorem dX7_fitAngers_35 : decode cX7_fitAngers 35 = .ok (.istore_n 3, 1) := by decide +kernel
theorem dX7_fitAngers_36 : decode cX7_fitAngers 36 = .ok (.iload 6, 2) := by decide +kernel
theorem dX7_fitAngers_38 : decode cX7_fitAngers 38 = .ok (.ifCond .eq 8, 3) := by decide +kernel
theorem dX7_fitAngers_41 : decode cX7_fitAngers 41 = .ok (.iload 5, 2) := by decide +kernel
theorem dX7_fitAngers_43 : decode cX7_fitAngers 43 = .ok (.goto 5, 3) := by decide +kernel
theorem dX7_fitAngers_46 : decode cX7_fitAngers 46 = .ok (.iload 4, 2) := by decide +kernel
theorem dX7_fitAngers_48 : decode cX7_fitAngers 48 = .ok (.istore 4, 2) := by decide +kernel
theorem dX7_fitAngers_50 : decode cX7_fitAngers 50 = .ok (.iinc 5 (-1), 3) := by decide +kernel
theorem dX7_fitAngers_53 : decode cX7_fitAngers 53 = .ok (.goto (-44), 3) := by decide +kernel
theorem dX7_fitAngers_56 : decode cX7_fitAngers 56 = .ok (.iload_n 2, 1) := by decide +kernel
theorem dX7_fitAngers_57 : decode cX7_fitAngers 57 = .ok (.ifCond .eq 7, 3) := by decide +kernel
theorem dX7_fitAngers_60 : decode cX7_fitAngers 60 = .ok (.iload_n 3, 1) := by decide +kernel
theorem dX7_fitAngers_61 : decode cX7_fitAngers 61 = .ok (.goto 5, 3) := by decide +kernel
theorem dX7_fitAngers_64 : decode cX7_fitAngers 64 = .ok (.iload 4, 2) := by decide +kernel
theorem dX7_fitAngers_66 : decode cX7_fitAngers 66 = .ok (.ireturn, 1) := by decide +kernel
theorem dX7_tells_0 : decode cX7_tells 0 = .ok (.iload_n 1, 1) := by decide +kernel
theorem dX7_tells_1 : decode cX7_tells 1 = .ok (.invokestatic 254, 3) := by decide +kernel
theorem dX7_tells_4 : decode cX7_tells 4 = .ok (.ifCond .eq 21, 3) := by decide +kernel
theorem dX7_tells_7 : decode cX7_tells 7 = .ok (.aload_n 0, 1) := by decide +kernel
theorem dX7_tells_8 : decode cX7_tells 8 = .ok (.iload_n 2, 1) := by decide +kernel
theorem dX7_tells_9 : decode cX7_tells 9 = .ok (.invokevirtual 82, 3) := by decide +kernel
theorem dX7_tells_12 : decode cX7_tells 12 = .ok (.ifCond .eq 13, 3) := by decide +kernel
theorem dX7_tells_15 : decode cX7_tells 15 = .ok (.iload_n 3, 1) := by decide +kernel
theorem dX7_tells_16 : decode cX7_tells 16 = .ok (.iconst 0, 1) := by decide +kernel
theorem dX7_tells_17 : decode cX7_tells 17 = .ok (.bipush 7, 2) := by decide +kernel
theorem dX7_tells_19 : decode cX7_tells 19 = .ok (.invokestatic 78, 3) := by decide +kernel
theorem dX7_tells_22 : decode cX7_tells 22 = .ok (.ifCond .ne 6, 3) := by decide +kernel
theorem dX7_tells_25 : decode cX7_tells 25 = .ok (.bipush (-2), 2) := by decide +kernel
theorem dX7_tells_27 : decode cX7_tells 27 = .ok (.ireturn, 1) := by decide +kernel
theorem dX7_tells_28 : decode cX7_tells 28 = .ok (.aload_n 0, 1) := by decide +kernel
theorem dX7_tells_29 : decode cX7_tells 29 = .ok (.getfield 63, 3) := by decide +kernel
theorem dX7_tells_32 : decode cX7_tells 32 = .ok (.iload_n 1, 1) := by decide +kernel
theorem dX7_tells_33 : decode cX7_tells 33 = .ok (.iaload, 1) := by decide +kernel
theorem dX7_tells_34 : decode cX7_tells 34 = .ok (.iconst (-1), 1) := by decide +kernel
theorem dX7_tells_35 : decode cX7_tells 35 = .ok (.if_icmp .ne 6, 3) := by decide +kernel
theorem dX7_tells_38 : decode cX7_tells 38 = .ok (.bipush (-11), 2) := by decide +kernel
theorem dX7_tells_40 : decode cX7_tells 40 = .ok (.ireturn, 1) := by decide +kernel
theorem dX7_tells_41 : decode cX7_tells 41 = .ok (.aload_n 0, 1) := by decide +kernel
theorem dX7_tells_42 : decode cX7_tells 42 = .ok (.iload_n 2, 1) := by decide +kernel
theorem dX7_tells_43 : decode cX7_tells 43 = .ok (.invokevirtual 97, 3) := by decide +kernel
theorem dX7_tells_46 : decode cX7_tells 46 = .ok (.aload_n 0, 1) := by decide +kernel
theorem dX7_tells_47 : decode cX7_tells 47 = .ok (.iload_n 2, 1) := by decide +kernel
theorem dX7_tells_48 : decode cX7_tells 48 = .ok (.invokevirtual 101, 3) := by decide +kernel
theorem dX7_tells_51 : decode cX7_tells 51 = .ok (.istore 4, 2) := by decide +kernel
theorem dX7_tells_53 : decode cX7_tells 53 = .ok (.iload_n 3, 1) := by decide +kernel
theorem dX7_tells_54 : decode cX7_tells 54 = .ok (.ifCond .ne 11, 3) := by decide +kernel
theorem dX7_tells_57 : decode cX7_tells 57 = .ok (.aload_n 0, 1) := by decide +kernel
theorem dX7_tells_58 : decode cX7_tells 58 = .ok (.iload_n 1, 1) := by decide +kernel
theorem dX7_tells_59 : decode cX7_tells 59 = .ok (.iload 4, 2) := by decide +kernel
theorem dX7_tells_61 : decode cX7_tells 61 = .ok (.invokevirtual 260, 3) := by decide +kernel
theorem dX7_tells_64 : decode cX7_tells 64 = .ok (.ireturn, 1) := by decide +kernel
theorem dX7_tells_65 : decode cX7_tells 65 = .ok (.iload_n 3, 1) := by decide +kernel
theorem dX7_tells_66 : decode cX7_tells 66 = .ok (.iconst 3, 1) := by decide +kernel
theorem dX7_tells_67 : decode cX7_tells 67 = .ok (.if_icmp .eq 8, 3) := by decide +kernel
theorem dX7_tells_70 : decode cX7_tells 70 = .ok (.iload_n 3, 1) := by decide +kernel
theorem dX7_tells_71 : decode cX7_tells 71 = .ok (.iconst 4, 1) := by decide +kernel
theorem dX7_tells_72 : decode cX7_tells 72 = .ok (.if_icmp .ne 19, 3) := by decide +kernel
theorem dX7_tells_75 : decode cX7_tells 75 = .ok (.aload_n 0, 1) := by decide +kernel
theorem dX7_tells_76 : decode cX7_tells 76 = .ok (.iload_n 1, 1) := by decide +kernel
theorem dX7_tells_77 : decode cX7_tells 77 = .ok (.iload_n 3, 1) := by decide +kernel
theorem dX7_tells_78 : decode cX7_tells 78 = .ok (.iconst 3, 1) := by decide +kernel
theorem dX7_tells_79 : decode cX7_tells 79 = .ok (.if_icmp .ne 7, 3) := by decide +kernel
theorem dX7_tells_82 : decode cX7_tells 82 = .ok (.iconst 1, 1) := by decide +kernel
theorem dX7_tells_83 : decode cX7_tells 83 = .ok (.goto 4, 3) := by decide +kernel
theorem dX7_tells_86 : decode cX7_tells 86 = .ok (.iconst 0, 1) := by decide +kernel
theorem dX7_tells_87 : decode cX7_tells 87 = .ok (.invokevirtual 267, 3) := by decide +kernel
theorem dX7_tells_90 : decode cX7_tells 90 = .ok (.ireturn, 1) := by decide +kernel
theorem dX7_tells_91 : decode cX7_tells 91 = .ok (.iload_n 3, 1) := by decide +kernel
theorem dX7_tells_92 : decode cX7_tells 92 = .ok (.iconst 1, 1) := by decide +kernel
theorem dX7_tells_93 : decode cX7_tells 93 = .ok (.if_icmp .eq 9, 3) := by decide +kernel
theorem dX7_tells_96 : decode cX7_tells 96 = .ok (.iload_n 3, 1) := by decide +kernel
theorem dX7_tells_97 : decode cX7_tells 97 = .ok (.bipush 6, 2) := by decide +kernel
theorem dX7_tells_99 : decode cX7_tells 99 = .ok (.if_icmp .ne 8, 3) := by decide +kernel
theorem dX7_tells_102 : decode cX7_tells 102 = .ok (.bipush 6, 2) := by decide +kernel
theorem dX7_tells_104 : decode cX7_tells 104 = .ok (.goto 29, 3) := by decide +kernel
theorem dX7_tells_107 : decode cX7_tells 107 = .ok (.iload_n 3, 1) := by decide +kernel
theorem dX7_tells_108 : decode cX7_tells 108 = .ok (.iconst 2, 1) := by decide +kernel
theorem dX7_tells_109 : decode cX7_tells 109 = .ok (.if_icmp .ne 8, 3) := by decide +kernel
theorem dX7_tells_112 : decode cX7_tells 112 = .ok (.bipush 10, 2) := by decide +kernel
theorem dX7_tells_114 : decode cX7_tells 114 = .ok (.goto 19, 3) := by decide +kernel
theorem dX7_tells_117 : decode cX7_tells 117 = .ok (.iload_n 3, 1) := by decide +kernel
theorem dX7_tells_118 : decode cX7_tells 118 = .ok (.iconst 5, 1) := by decide +kernel
theorem dX7_tells_119 : decode cX7_tells 119 = .ok (.if_icmp .ne 10, 3) := by decide +kernel
theorem dX7_tells_122 : decode cX7_tells 122 = .ok (.aload_n 0, 1) := by decide +kernel
theorem dX7_tells_123 : decode cX7_tells 123 = .ok (.getfield 29, 3) := by decide +kernel
theorem dX7_tells_126 : decode cX7_tells 126 = .ok (.goto 7, 3) := by decide +kernel
theorem dX7_tells_129 : decode cX7_tells 129 = .ok (.aload_n 0, 1) := by decide +kernel
theorem dX7_tells_130 : decode cX7_tells 130 = .ok (.invokevirtual 94, 3) := by decide +kernel
theorem dX7_tells_133 : decode cX7_tells 133 = .ok (.istore 5, 2) := by decide +kernel
theorem dX7_tells_135 : decode cX7_tells 135 = .ok (.iconst 0, 1) := by decide +kernel
theorem dX7_tells_136 : decode cX7_tells 136 = .ok (.istore 6, 2) := by decide +kernel
theorem dX7_tells_138 : decode cX7_tells 138 = .ok (.iconst 0, 1) := by decide +kernel
theorem dX7_tells_139 : decode cX7_tells 139 = .ok (.istore 7, 2) := by decide +kernel
theorem dX7_tells_141 : decode cX7_tells 141 = .ok (.iload 7, 2) := by decide +kernel
theorem dX7_tells_143 : decode cX7_tells 143 = .ok (.iload 5, 2) := by decide +kernel
theorem dX7_tells_145 : decode cX7_tells 145 = .ok (.if_icmp .ge 138, 3) := by decide +kernel
theorem dX7_tells_148 : decode cX7_tells 148 = .ok (.aload_n 0, 1) := by decide +kernel
theorem dX7_tells_149 : decode cX7_tells 149 = .ok (.iload_n 3, 1) := by decide +kernel
theorem dX7_tells_150 : decode cX7_tells 150 = .ok (.bipush 7, 2) := by decide +kernel
theorem dX7_tells_152 : decode cX7_tells 152 = .ok (.if_icmp .ne 8, 3) := by decide +kernel
theorem dX7_tells_155 : decode cX7_tells 155 = .ok (.iload 7, 2) := by decide +kernel
theorem dX7_tells_157 : decode cX7_tells 157 = .ok (.goto 4, 3) := by decide +kernel
theorem dX7_tells_160 : decode cX7_tells 160 = .ok (.iload_n 2, 1) := by decide +kernel
theorem dX7_tells_161 : decode cX7_tells 161 = .ok (.invokevirtual 97, 3) := by decide +kernel
theorem dX7_tells_164 : decode cX7_tells 164 = .ok (.aload_n 0, 1) := by decide +kernel
theorem dX7_tells_165 : decode cX7_tells 165 = .ok (.iload_n 3, 1) := by decide +kernel
theorem dX7_tells_166 : decode cX7_tells 166 = .ok (.iconst 1, 1) := by decide +kernel
theorem dX7_tells_167 : decode cX7_tells 167 = .ok (.if_icmp .ne 8, 3) := by decide +kernel
theorem dX7_tells_170 : decode cX7_tells 170 = .ok (.iload 7, 2) := by decide +kernel
theorem dX7_tells_172 : decode cX7_tells 172 = .ok (.goto 7, 3) := by decide +kernel
theorem dX7_tells_175 : decode cX7_tells 175 = .ok (.aload_n 0, 1) := by decide +kernel
theorem dX7_tells_176 : decode cX7_tells 176 = .ok (.getfield 200, 3) := by decide +kernel
theorem dX7_tells_179 : decode cX7_tells 179 = .ok (.putfield 200, 3) := by decide +kernel
theorem dX7_tells_182 : decode cX7_tells 182 = .ok (.aload_n 0, 1) := by decide +kernel
theorem dX7_tells_183 : decode cX7_tells 183 = .ok (.iload_n 3, 1) := by decide +kernel
theorem dX7_tells_184 : decode cX7_tells 184 = .ok (.iconst 2, 1) := by decide +kernel
theorem dX7_tells_185 : decode cX7_tells 185 = .ok (.if_icmp .ne 8, 3) := by decide +kernel
theorem dX7_tells_188 : decode cX7_tells 188 = .ok (.iload 7, 2) := by decide +kernel
theorem dX7_tells_190 : decode cX7_tells 190 = .ok (.goto 7, 3) := by decide +kernel
theorem dX7_tells_193 : decode cX7_tells 193 = .ok (.aload_n 0, 1) := by decide +kernel
theorem dX7_tells_194 : decode cX7_tells 194 = .ok (.getfield 190, 3) := by decide +kernel
theorem dX7_tells_197 : decode cX7_tells 197 = .ok (.putfield 190, 3) := by decide +kernel
theorem dX7_tells_200 : decode cX7_tells 200 = .ok (.aload_n 0, 1) := by decide +kernel
theorem dX7_tells_201 : decode cX7_tells 201 = .ok (.iload_n 3, 1) := by decide +kernel
theorem dX7_tells_202 : decode cX7_tells 202 = .ok (.iconst 5, 1) := by decide +kernel
theorem dX7_tells_203 : decode cX7_tells 203 = .ok (.if_icmp .ne 8, 3) := by decide +kernel
theorem dX7_tells_206 : decode cX7_tells 206 = .ok (.iload 7, 2) := by decide +kernel
theorem dX7_tells_208 : decode cX7_tells 208 = .ok (.goto 7, 3) := by decide +kernel
theorem dX7_tells_211 : decode cX7_tells 211 = .ok (.aload_n 0, 1) := by decide +kernel
theorem dX7_tells_212 : decode cX7_tells 212 = .ok (.getfield 187, 3) := by decide +kernel
theorem dX7_tells_215 : decode cX7_tells 215 = .ok (.putfield 187, 3) := by decide +kernel
theorem dX7_tells_218 : decode cX7_tells 218 = .ok (.iload_n 3, 1) := by decide +kernel
theorem dX7_tells_219 : decode cX7_tells 219 = .ok (.bipush 6, 2) := by decide +kernel
theorem dX7_tells_221 : decode cX7_tells 221 = .ok (.if_icmp .ne 14, 3) := by decide +kernel
theorem dX7_tells_224 : decode cX7_tells 224 = .ok (.aload_n 0, 1) := by decide +kernel
theorem dX7_tells_225 : decode cX7_tells 225 = .ok (.iload 4, 2) := by decide +kernel
theorem dX7_tells_227 : decode cX7_tells 227 = .ok (.iload 7, 2) := by decide +kernel
theorem dX7_tells_229 : decode cX7_tells 229 = .ok (.invokevirtual 212, 3) := by decide +kernel
theorem dX7_tells_232 : decode cX7_tells 232 = .ok (.goto 20, 3) := by decide +kernel
theorem dX7_tells_235 : decode cX7_tells 235 = .ok (.iload_n 3, 1) := by decide +kernel
theorem dX7_tells_236 : decode cX7_tells 236 = .ok (.bipush 7, 2) := by decide +kernel
theorem dX7_tells_238 : decode cX7_tells 238 = .ok (.if_icmp .ne 12, 3) := by decide +kernel
theorem dX7_tells_241 : decode cX7_tells 241 = .ok (.aload_n 0, 1) := by decide +kernel
theorem dX7_tells_242 : decode cX7_tells 242 = .ok (.iload 7, 2) := by decide +kernel
theorem dX7_tells_244 : decode cX7_tells 244 = .ok (.invokevirtual 101, 3) := by decide +kernel
theorem dX7_tells_247 : decode cX7_tells 247 = .ok (.goto 5, 3) := by decide +kernel
theorem dX7_tells_250 : decode cX7_tells 250 = .ok (.iload 4, 2) := by decide +kernel
theorem dX7_tells_252 : decode cX7_tells 252 = .ok (.istore 8, 2) := by decide +kernel
theorem dX7_tells_254 : decode cX7_tells 254 = .ok (.iload 6, 2) := by decide +kernel
theorem dX7_tells_256 : decode cX7_tells 256 = .ok (.aload_n 0, 1) := by decide +kernel
theorem dX7_tells_257 : decode cX7_tells 257 = .ok (.iload_n 1, 1) := by decide +kernel
theorem dX7_tells_258 : decode cX7_tells 258 = .ok (.iload 8, 2) := by decide +kernel
theorem dX7_tells_260 : decode cX7_tells 260 = .ok (.invokevirtual 263, 3) := by decide +kernel
theorem dX7_tells_263 : decode cX7_tells 263 = .ok (.ifCond .eq 10, 3) := by decide +kernel
theorem dX7_tells_266 : decode cX7_tells 266 = .ok (.iconst 1, 1) := by decide +kernel
theorem dX7_tells_267 : decode cX7_tells 267 = .ok (.iload 7, 2) := by decide +kernel
theorem dX7_tells_269 : decode cX7_tells 269 = .ok (.ishl, 1) := by decide +kernel
theorem dX7_tells_270 : decode cX7_tells 270 = .ok (.goto 4, 3) := by decide +kernel
theorem dX7_tells_273 : decode cX7_tells 273 = .ok (.iconst 0, 1) := by decide +kernel
theorem dX7_tells_274 : decode cX7_tells 274 = .ok (.ior, 1) := by decide +kernel
theorem dX7_tells_275 : decode cX7_tells 275 = .ok (.istore 6, 2) := by decide +kernel
theorem dX7_tells_277 : decode cX7_tells 277 = .ok (.iinc 7 1, 3) := by decide +kernel
theorem dX7_tells_280 : decode cX7_tells 280 = .ok (.goto (-139), 3) := by decide +kernel
theorem dX7_tells_283 : decode cX7_tells 283 = .ok (.iload 6, 2) := by decide +kernel
theorem dX7_tells_285 : decode cX7_tells 285 = .ok (.ireturn, 1) := by decide +kernel
theorem dX7_film_0 : decode cX7_film 0 = .ok (.iload_n 1, 1) := by decide +kernel
theorem dX7_film_1 : decode cX7_film 1 = .ok (.invokestatic 254, 3) := by decide +kernel
theorem dX7_film_4 : decode cX7_film 4 = .ok (.ifCond .eq 21, 3) := by decide +kernel
theorem dX7_film_7 : decode cX7_film 7 = .ok (.aload_n 0, 1) := by decide +kernel
theorem dX7_film_8 : decode cX7_film 8 = .ok (.iload_n 2, 1) := by decide +kernel
theorem dX7_film_9 : decode cX7_film 9 = .ok (.invokevirtual 82, 3) := by decide +kernel
theorem dX7_film_12 : decode cX7_film 12 = .ok (.ifCond .eq 13, 3) := by decide +kernel
theorem dX7_film_15 : decode cX7_film 15 = .ok (.iload_n 3, 1) := by decide +kernel
theorem dX7_film_16 : decode cX7_film 16 = .ok (.iconst 0, 1) := by decide +kernel
theorem dX7_film_17 : decode cX7_film 17 = .ok (.bipush 40, 2) := by decide +kernel
theorem dX7_film_19 : decode cX7_film 19 = .ok (.invokestatic 78, 3) := by decide +kernel
theorem dX7_film_22 : decode cX7_film 22 = .ok (.ifCond .ne 6, 3) := by decide +kernel
theorem dX7_film_25 : decode cX7_film 25 = .ok (.bipush (-2), 2) := by decide +kernel
theorem dX7_film_27 : decode cX7_film 27 = .ok (.ireturn, 1) := by decide +kernel
theorem dX7_film_28 : decode cX7_film 28 = .ok (.aload_n 0, 1) := by decide +kernel
theorem dX7_film_29 : decode cX7_film 29 = .ok (.iload_n 1, 1) := by decide +kernel
theorem dX7_film_30 : decode cX7_film 30 = .ok (.iconst 0, 1) := by decide +kernel
theorem dX7_film_31 : decode cX7_film 31 = .ok (.iload_n 3, 1) := by decide +kernel
theorem dX7_film_32 : decode cX7_film 32 = .ok (.invokevirtual 271, 3) := by decide +kernel
theorem dX7_film_35 : decode cX7_film 35 = .ok (.pop, 1) := by decide +kernel
theorem dX7_film_36 : decode cX7_film 36 = .ok (.aload_n 0, 1) := by decide +kernel
theorem dX7_film_37 : decode cX7_film 37 = .ok (.iload_n 2, 1) := by decide +kernel
theorem dX7_film_38 : decode cX7_film 38 = .ok (.invokevirtual 97, 3) := by decide +kernel
theorem dX7_film_41 : decode cX7_film 41 = .ok (.aload_n 0, 1) := by decide +kernel
theorem dX7_film_42 : decode cX7_film 42 = .ok (.iload_n 2, 1) := by decide +kernel
theorem dX7_film_43 : decode cX7_film 43 = .ok (.invokevirtual 101, 3) := by decide +kernel
theorem dX7_film_46 : decode cX7_film 46 = .ok (.istore 4, 2) := by decide +kernel
theorem dX7_film_48 : decode cX7_film 48 = .ok (.iconst 0, 1) := by decide +kernel
theorem dX7_film_49 : decode cX7_film 49 = .ok (.istore 5, 2) := by decide +kernel
theorem dX7_film_51 : decode cX7_film 51 = .ok (.iload 5, 2) := by decide +kernel
theorem dX7_film_53 : decode cX7_film 53 = .ok (.iload_n 3, 1) := by decide +kernel
theorem dX7_film_54 : decode cX7_film 54 = .ok (.if_icmp .ge 35, 3) := by decide +kernel
theorem dX7_film_57 : decode cX7_film 57 = .ok (.aload_n 0, 1) := by decide +kernel
theorem dX7_film_58 : decode cX7_film 58 = .ok (.getfield 69, 3) := by decide +kernel
theorem dX7_film_61 : decode cX7_film 61 = .ok (.bipush 40, 2) := by decide +kernel
theorem dX7_film_63 : decode cX7_film 63 = .ok (.iload_n 1, 1) := by decide +kernel
theorem dX7_film_64 : decode cX7_film 64 = .ok (.imul, 1) := by decide +kernel
theorem dX7_film_65 : decode cX7_film 65 = .ok (.iload 5, 2) := by decide +kernel
theorem dX7_film_67 : decode cX7_film 67 = .ok (.iadd, 1) := by decide +kernel
theorem dX7_film_68 : decode cX7_film 68 = .ok (.aload_n 0, 1) := by decide +kernel
theorem dX7_film_69 : decode cX7_film 69 = .ok (.iload 4, 2) := by decide +kernel
theorem dX7_film_71 : decode cX7_film 71 = .ok (.invokevirtual 113, 3) := by decide +kernel
theorem dX7_film_74 : decode cX7_film 74 = .ok (.iastore, 1) := by decide +kernel
theorem dX7_film_75 : decode cX7_film 75 = .ok (.aload_n 0, 1) := by decide +kernel
theorem dX7_film_76 : decode cX7_film 76 = .ok (.iload 4, 2) := by decide +kernel
theorem dX7_film_78 : decode cX7_film 78 = .ok (.invokevirtual 215, 3) := by decide +kernel
theorem dX7_film_81 : decode cX7_film 81 = .ok (.istore 4, 2) := by decide +kernel
theorem dX7_film_83 : decode cX7_film 83 = .ok (.iinc 5 1, 3) := by decide +kernel
theorem dX7_film_86 : decode cX7_film 86 = .ok (.goto (-35), 3) := by decide +kernel
theorem dX7_film_89 : decode cX7_film 89 = .ok (.iload_n 3, 1) := by decide +kernel
theorem dX7_film_90 : decode cX7_film 90 = .ok (.ireturn, 1) := by decide +kernel
theorem dX7_farBehind_0 : decode cX7_farBehind 0 = .ok (.iload_n 1, 1) := by decide +kernel
theorem dX7_farBehind_1 : decode cX7_farBehind 1 = .ok (.istore 4, 2) := by decide +kernel
theorem dX7_farBehind_3 : decode cX7_farBehind 3 = .ok (.iload_n 2, 1) := by decide +kernel
theorem dX7_farBehind_4 : decode cX7_farBehind 4 = .ok (.istore 5, 2) := by decide +kernel
theorem dX7_farBehind_6 : decode cX7_farBehind 6 = .ok (.iconst 0, 1) := by decide +kernel
theorem dX7_farBehind_7 : decode cX7_farBehind 7 = .ok (.istore 6, 2) := by decide +kernel
theorem dX7_farBehind_9 : decode cX7_farBehind 9 = .ok (.iload 6, 2) := by decide +kernel
theorem dX7_farBehind_11 : decode cX7_farBehind 11 = .ok (.iload_n 3, 1) := by decide +kernel
theorem dX7_farBehind_12 : decode cX7_farBehind 12 = .ok (.if_icmp .ge 37, 3) := by decide +kernel
theorem dX7_farBehind_15 : decode cX7_farBehind 15 = .ok (.iload 4, 2) := by decide +kernel
theorem dX7_farBehind_17 : decode cX7_farBehind 17 = .ok (.ldc_w 274, 3) := by decide +kernel
theorem dX7_farBehind_20 : decode cX7_farBehind 20 = .ok (.imul, 1) := by decide +kernel
theorem dX7_farBehind_21 : decode cX7_farBehind 21 = .ok (.sipush 12345, 3) := by decide +kernel
theorem dX7_farBehind_24 : decode cX7_farBehind 24 = .ok (.iadd, 1) := by decide +kernel
theorem dX7_farBehind_25 : decode cX7_farBehind 25 = .ok (.istore 4, 2) := by decide +kernel
theorem dX7_farBehind_27 : decode cX7_farBehind 27 = .ok (.aload_n 0, 1) := by decide +kernel
theorem dX7_farBehind_28 : decode cX7_farBehind 28 = .ok (.iload 5, 2) := by decide +kernel
theorem dX7_farBehind_30 : decode cX7_farBehind 30 = .ok (.iload 4, 2) := by decide +kernel
theorem dX7_farBehind_32 : decode cX7_farBehind 32 = .ok (.bipush 9, 2) := by decide +kernel
theorem dX7_farBehind_34 : decode cX7_farBehind 34 = .ok (.iushr, 1) := by decide +kernel
theorem dX7_farBehind_35 : decode cX7_farBehind 35 = .ok (.bipush 6, 2) := by decide +kernel
theorem dX7_farBehind_37 : decode cX7_farBehind 37 = .ok (.irem, 1) := by decide +kernel
theorem dX7_farBehind_38 : decode cX7_farBehind 38 = .ok (.invokevirtual 212, 3) := by decide +kernel
theorem dX7_farBehind_41 : decode cX7_farBehind 41 = .ok (.istore 5, 2) := by decide +kernel
theorem dX7_farBehind_43 : decode cX7_farBehind 43 = .ok (.iinc 6 1, 3) := by decide +kernel
theorem dX7_farBehind_46 : decode cX7_farBehind 46 = .ok (.goto (-37), 3) := by decide +kernel
theorem dX7_farBehind_49 : decode cX7_farBehind 49 = .ok (.aload_n 0, 1) := by decide +kernel
theorem dX7_farBehind_50 : decode cX7_farBehind 50 = .ok (.iload 5, 2) := by decide +kernel
theorem dX7_farBehind_52 : decode cX7_farBehind 52 = .ok (.invokevirtual 113, 3) := by decide +kernel
theorem dX7_farBehind_55 : decode cX7_farBehind 55 = .ok (.ireturn, 1) := by decide +kernel
theorem dX7_drawn_0 : decode cX7_drawn 0 = .ok (.aload_n 0, 1) := by decide +kernel
theorem dX7_drawn_1 : decode cX7_drawn 1 = .ok (.iload_n 2, 1) := by decide +kernel
theorem dX7_drawn_2 : decode cX7_drawn 2 = .ok (.invokevirtual 82, 3) := by decide +kernel
theorem dX7_drawn_5 : decode cX7_drawn 5 = .ok (.ifCond .eq 13, 3) := by decide +kernel
theorem dX7_drawn_8 : decode cX7_drawn 8 = .ok (.iload_n 3, 1) := by decide +kernel
theorem dX7_drawn_9 : decode cX7_drawn 9 = .ok (.iconst 0, 1) := by decide +kernel
theorem dX7_drawn_10 : decode cX7_drawn 10 = .ok (.bipush 99, 2) := by decide +kernel
theorem dX7_drawn_12 : decode cX7_drawn 12 = .ok (.invokestatic 78, 3) := by decide +kernel
theorem dX7_drawn_15 : decode cX7_drawn 15 = .ok (.ifCond .ne 6, 3) := by decide +kernel
theorem dX7_drawn_18 : decode cX7_drawn 18 = .ok (.bipush (-2), 2) := by decide +kernel
theorem dX7_drawn_20 : decode cX7_drawn 20 = .ok (.ireturn, 1) := by decide +kernel
theorem dX7_drawn_21 : decode cX7_drawn 21 = .ok (.aload_n 0, 1) := by decide +kernel
theorem dX7_drawn_22 : decode cX7_drawn 22 = .ok (.iload_n 2, 1) := by decide +kernel
theorem dX7_drawn_23 : decode cX7_drawn 23 = .ok (.invokevirtual 97, 3) := by decide +kernel
theorem dX7_drawn_26 : decode cX7_drawn 26 = .ok (.aload_n 0, 1) := by decide +kernel
theorem dX7_drawn_27 : decode cX7_drawn 27 = .ok (.iload_n 1, 1) := by decide +kernel
theorem dX7_drawn_28 : decode cX7_drawn 28 = .ok (.aload_n 0, 1) := by decide +kernel
theorem dX7_drawn_29 : decode cX7_drawn 29 = .ok (.iload_n 2, 1) := by decide +kernel
theorem dX7_drawn_30 : decode cX7_drawn 30 = .ok (.invokevirtual 101, 3) := by decide +kernel
theorem dX7_drawn_33 : decode cX7_drawn 33 = .ok (.iload_n 3, 1) := by decide +kernel
theorem dX7_drawn_34 : decode cX7_drawn 34 = .ok (.invokevirtual 275, 3) := by decide +kernel
theorem dX7_drawn_37 : decode cX7_drawn 37 = .ok (.ireturn, 1) := by decide +kernel
theorem dX7_chance_0 : decode cX7_chance 0 = .ok (.iload_n 2, 1) := by decide +kernel
theorem dX7_chance_1 : decode cX7_chance 1 = .ok (.iconst 1, 1) := by decide +kernel
theorem dX7_chance_2 : decode cX7_chance 2 = .ok (.bipush 20, 2) := by decide +kernel
theorem dX7_chance_4 : decode cX7_chance 4 = .ok (.invokestatic 78, 3) := by decide +kernel
theorem dX7_chance_7 : decode cX7_chance 7 = .ok (.ifCond .eq 32, 3) := by decide +kernel
theorem dX7_chance_10 : decode cX7_chance 10 = .ok (.aload_n 0, 1) := by decide +kernel
theorem dX7_chance_11 : decode cX7_chance 11 = .ok (.iload_n 3, 1) := by decide +kernel
theorem dX7_chance_12 : decode cX7_chance 12 = .ok (.invokevirtual 82, 3) := by decide +kernel
theorem dX7_chance_15 : decode cX7_chance 15 = .ok (.ifCond .eq 24, 3) := by decide +kernel
theorem dX7_chance_18 : decode cX7_chance 18 = .ok (.iload 4, 2) := by decide +kernel
theorem dX7_chance_20 : decode cX7_chance 20 = .ok (.iconst 0, 1) := by decide +kernel
theorem dX7_chance_21 : decode cX7_chance 21 = .ok (.bipush 40, 2) := by decide +kernel
theorem dX7_chance_23 : decode cX7_chance 23 = .ok (.invokestatic 78, 3) := by decide +kernel
theorem dX7_chance_26 : decode cX7_chance 26 = .ok (.ifCond .eq 13, 3) := by decide +kernel
theorem dX7_chance_29 : decode cX7_chance 29 = .ok (.iload 5, 2) := by decide +kernel
theorem dX7_chance_31 : decode cX7_chance 31 = .ok (.iconst 0, 1) := by decide +kernel
theorem dX7_chance_32 : decode cX7_chance 32 = .ok (.iconst 1, 1) := by decide +kernel
theorem dX7_chance_33 : decode cX7_chance 33 = .ok (.invokestatic 78, 3) := by decide +kernel
theorem dX7_chance_36 : decode cX7_chance 36 = .ok (.ifCond .ne 7, 3) := by decide +kernel
theorem dX7_chance_39 : decode cX7_chance 39 = .ok (.ldc2_w 230, 3) := by decide +kernel
theorem dX7_chance_42 : decode cX7_chance 42 = .ok (.lreturn, 1) := by decide +kernel
theorem dX7_chance_43 : decode cX7_chance 43 = .ok (.aload_n 0, 1) := by decide +kernel
theorem dX7_chance_44 : decode cX7_chance 44 = .ok (.iload_n 3, 1) := by decide +kernel
theorem dX7_chance_45 : decode cX7_chance 45 = .ok (.invokevirtual 97, 3) := by decide +kernel
theorem dX7_chance_48 : decode cX7_chance 48 = .ok (.lconst 0, 1) := by decide +kernel
theorem dX7_chance_49 : decode cX7_chance 49 = .ok (.lstore 6, 2) := by decide +kernel
theorem dX7_chance_51 : decode cX7_chance 51 = .ok (.iconst 0, 1) := by decide +kernel
theorem dX7_chance_52 : decode cX7_chance 52 = .ok (.istore 8, 2) := by decide +kernel
theorem dX7_chance_54 : decode cX7_chance 54 = .ok (.iload 8, 2) := by decide +kernel
theorem dX7_chance_56 : decode cX7_chance 56 = .ok (.iload_n 2, 1) := by decide +kernel
theorem dX7_chance_57 : decode cX7_chance 57 = .ok (.if_icmp .ge 39, 3) := by decide +kernel
theorem dX7_chance_60 : decode cX7_chance 60 = .ok (.lload 6, 2) := by decide +kernel
theorem dX7_chance_62 : decode cX7_chance 62 = .ok (.aload_n 0, 1) := by decide +kernel
theorem dX7_chance_63 : decode cX7_chance 63 = .ok (.iload_n 1, 1) := by decide +kernel
theorem dX7_chance_64 : decode cX7_chance 64 = .ok (.iload 8, 2) := by decide +kernel
theorem dX7_chance_66 : decode cX7_chance 66 = .ok (.iadd, 1) := by decide +kernel
theorem dX7_chance_67 : decode cX7_chance 67 = .ok (.aload_n 0, 1) := by decide +kernel
theorem dX7_chance_68 : decode cX7_chance 68 = .ok (.iload_n 3, 1) := by decide +kernel
theorem dX7_chance_69 : decode cX7_chance 69 = .ok (.invokevirtual 101, 3) := by decide +kernel
theorem dX7_chance_72 : decode cX7_chance 72 = .ok (.bipush 8, 2) := by decide +kernel
theorem dX7_chance_74 : decode cX7_chance 74 = .ok (.invokevirtual 275, 3) := by decide +kernel
theorem dX7_chance_77 : decode cX7_chance 77 = .ok (.iload 4, 2) := by decide +kernel
theorem dX7_chance_79 : decode cX7_chance 79 = .ok (.if_icmp .lt 7, 3) := by decide +kernel
theorem dX7_chance_82 : decode cX7_chance 82 = .ok (.lconst 1, 1) := by decide +kernel
theorem dX7_chance_83 : decode cX7_chance 83 = .ok (.goto 4, 3) := by decide +kernel
theorem dX7_chance_86 : decode cX7_chance 86 = .ok (.lconst 0, 1) := by decide +kernel
theorem dX7_chance_87 : decode cX7_chance 87 = .ok (.ladd, 1) := by decide +kernel
theorem dX7_chance_88 : decode cX7_chance 88 = .ok (.lstore 6, 2) := by decide +kernel
theorem dX7_chance_90 : decode cX7_chance 90 = .ok (.iinc 8 1, 3) := by decide +kernel
theorem dX7_chance_93 : decode cX7_chance 93 = .ok (.goto (-39), 3) := by decide +kernel
theorem dX7_chance_96 : decode cX7_chance 96 = .ok (.iload_n 2, 1) := by decide +kernel
theorem dX7_chance_97 : decode cX7_chance 97 = .ok (.i2l, 1) := by decide +kernel
theorem dX7_chance_98 : decode cX7_chance 98 = .ok (.lload 6, 2) := by decide +kernel
theorem dX7_chance_100 : decode cX7_chance 100 = .ok (.invokestatic 250, 3) := by decide +kernel
theorem dX7_chance_103 : decode cX7_chance 103 = .ok (.lstore 8, 2) := by decide +kernel
theorem dX7_chance_105 : decode cX7_chance 105 = .ok (.iload 5, 2) := by decide +kernel
theorem dX7_chance_107 : decode cX7_chance 107 = .ok (.ifCond .ne 11, 3) := by decide +kernel
theorem dX7_chance_110 : decode cX7_chance 110 = .ok (.lload 6, 2) := by decide +kernel
theorem dX7_chance_112 : decode cX7_chance 112 = .ok (.lload 8, 2) := by decide +kernel
theorem dX7_chance_114 : decode cX7_chance 114 = .ok (.ldiv, 1) := by decide +kernel
theorem dX7_chance_115 : decode cX7_chance 115 = .ok (.goto 8, 3) := by decide +kernel
theorem dX7_chance_118 : decode cX7_chance 118 = .ok (.iload_n 2, 1) := by decide +kernel
theorem dX7_chance_119 : decode cX7_chance 119 = .ok (.i2l, 1) := by decide +kernel
theorem dX7_chance_120 : decode cX7_chance 120 = .ok (.lload 8, 2) := by decide +kernel
theorem dX7_chance_122 : decode cX7_chance 122 = .ok (.ldiv, 1) := by decide +kernel
theorem dX7_chance_123 : decode cX7_chance 123 = .ok (.lreturn, 1) := by decide +kernel
theorem dX7_image_0 : decode cX7_image 0 = .ok (.iconst 0, 1) := by decide +kernel
theorem dX7_image_1 : decode cX7_image 1 = .ok (.istore_n 1, 1) := by decide +kernel
theorem dX7_image_2 : decode cX7_image 2 = .ok (.iload_n 1, 1) := by decide +kernel
theorem dX7_image_3 : decode cX7_image 3 = .ok (.bipush 63, 2) := by decide +kernel
theorem dX7_image_5 : decode cX7_image 5 = .ok (.if_icmp .ge 21, 3) := by decide +kernel
theorem dX7_image_8 : decode cX7_image 8 = .ok (.aload_n 0, 1) := by decide +kernel
theorem dX7_image_9 : decode cX7_image 9 = .ok (.getfield 13, 3) := by decide +kernel
theorem dX7_image_12 : decode cX7_image 12 = .ok (.iload_n 1, 1) := by decide +kernel
theorem dX7_image_13 : decode cX7_image 13 = .ok (.aload_n 0, 1) := by decide +kernel
theorem dX7_image_14 : decode cX7_image 14 = .ok (.getfield 7, 3) := by decide +kernel
theorem dX7_image_17 : decode cX7_image 17 = .ok (.iload_n 1, 1) := by decide +kernel
theorem dX7_image_18 : decode cX7_image 18 = .ok (.iaload, 1) := by decide +kernel
theorem dX7_image_19 : decode cX7_image 19 = .ok (.iastore, 1) := by decide +kernel
theorem dX7_image_20 : decode cX7_image 20 = .ok (.iinc 1 1, 3) := by decide +kernel
theorem dX7_image_23 : decode cX7_image 23 = .ok (.goto (-21), 3) := by decide +kernel
theorem dX7_image_26 : decode cX7_image 26 = .ok (.aload_n 0, 1) := by decide +kernel
theorem dX7_image_27 : decode cX7_image 27 = .ok (.iconst 1, 1) := by decide +kernel
theorem dX7_image_28 : decode cX7_image 28 = .ok (.putfield 278, 3) := by decide +kernel
theorem dX7_image_31 : decode cX7_image 31 = .ok (.aload_n 0, 1) := by decide +kernel
theorem dX7_image_32 : decode cX7_image 32 = .ok (.invokevirtual 94, 3) := by decide +kernel
theorem dX7_image_35 : decode cX7_image 35 = .ok (.ireturn, 1) := by decide +kernel
theorem dX7_back_0 : decode cX7_back 0 = .ok (.aload_n 0, 1) := by decide +kernel
theorem dX7_back_1 : decode cX7_back 1 = .ok (.getfield 278, 3) := by decide +kernel
theorem dX7_back_4 : decode cX7_back 4 = .ok (.ifCond .ne 6, 3) := by decide +kernel
theorem dX7_back_7 : decode cX7_back 7 = .ok (.bipush (-3), 2) := by decide +kernel
theorem dX7_back_9 : decode cX7_back 9 = .ok (.ireturn, 1) := by decide +kernel
theorem dX7_back_10 : decode cX7_back 10 = .ok (.iconst 0, 1) := by decide +kernel
theorem dX7_back_11 : decode cX7_back 11 = .ok (.istore_n 1, 1) := by decide +kernel
theorem dX7_back_12 : decode cX7_back 12 = .ok (.iload_n 1, 1) := by decide +kernel
theorem dX7_back_13 : decode cX7_back 13 = .ok (.bipush 63, 2) := by decide +kernel
theorem dX7_back_15 : decode cX7_back 15 = .ok (.if_icmp .ge 21, 3) := by decide +kernel
theorem dX7_back_18 : decode cX7_back 18 = .ok (.aload_n 0, 1) := by decide +kernel
theorem dX7_back_19 : decode cX7_back 19 = .ok (.getfield 7, 3) := by decide +kernel
theorem dX7_back_22 : decode cX7_back 22 = .ok (.iload_n 1, 1) := by decide +kernel
theorem dX7_back_23 : decode cX7_back 23 = .ok (.aload_n 0, 1) := by decide +kernel
theorem dX7_back_24 : decode cX7_back 24 = .ok (.getfield 13, 3) := by decide +kernel
theorem dX7_back_27 : decode cX7_back 27 = .ok (.iload_n 1, 1) := by decide +kernel
theorem dX7_back_28 : decode cX7_back 28 = .ok (.iaload, 1) := by decide +kernel
theorem dX7_back_29 : decode cX7_back 29 = .ok (.iastore, 1) := by decide +kernel
theorem dX7_back_30 : decode cX7_back 30 = .ok (.iinc 1 1, 3) := by decide +kernel
theorem dX7_back_33 : decode cX7_back 33 = .ok (.goto (-21), 3) := by decide +kernel
theorem dX7_back_36 : decode cX7_back 36 = .ok (.aload_n 0, 1) := by decide +kernel
theorem dX7_back_37 : decode cX7_back 37 = .ok (.invokevirtual 94, 3) := by decide +kernel
theorem dX7_back_40 : decode cX7_back 40 = .ok (.ireturn, 1) := by decide +kernel
theorem dX7_count_0 : decode cX7_count 0 = .ok (.iconst 0, 1) := by decide +kernel
theorem dX7_count_1 : decode cX7_count 1 = .ok (.istore_n 2, 1) := by decide +kernel
theorem dX7_count_2 : decode cX7_count 2 = .ok (.iconst 0, 1) := by decide +kernel
theorem dX7_count_3 : decode cX7_count 3 = .ok (.istore_n 3, 1) := by decide +kernel
theorem dX7_count_4 : decode cX7_count 4 = .ok (.iload_n 3, 1) := by decide +kernel
theorem dX7_count_5 : decode cX7_count 5 = .ok (.aload_n 0, 1) := by decide +kernel
theorem dX7_count_6 : decode cX7_count 6 = .ok (.invokevirtual 94, 3) := by decide +kernel
theorem dX7_count_9 : decode cX7_count 9 = .ok (.if_icmp .ge 25, 3) := by decide +kernel
theorem dX7_count_12 : decode cX7_count 12 = .ok (.iload_n 2, 1) := by decide +kernel
theorem dX7_count_13 : decode cX7_count 13 = .ok (.aload_n 0, 1) := by decide +kernel
theorem dX7_count_14 : decode cX7_count 14 = .ok (.getfield 7, 3) := by decide +kernel
theorem dX7_count_17 : decode cX7_count 17 = .ok (.bipush 40, 2) := by decide +kernel
theorem dX7_count_19 : decode cX7_count 19 = .ok (.iconst 4, 1) := by decide +kernel
theorem dX7_count_20 : decode cX7_count 20 = .ok (.iload_n 3, 1) := by decide +kernel
theorem dX7_count_21 : decode cX7_count 21 = .ok (.imul, 1) := by decide +kernel
theorem dX7_count_22 : decode cX7_count 22 = .ok (.iadd, 1) := by decide +kernel
theorem dX7_count_23 : decode cX7_count 23 = .ok (.iconst 3, 1) := by decide +kernel
theorem dX7_count_24 : decode cX7_count 24 = .ok (.iadd, 1) := by decide +kernel
theorem dX7_count_25 : decode cX7_count 25 = .ok (.iaload, 1) := by decide +kernel
theorem dX7_count_26 : decode cX7_count 26 = .ok (.iadd, 1) := by decide +kernel
theorem dX7_count_27 : decode cX7_count 27 = .ok (.istore_n 2, 1) := by decide +kernel
theorem dX7_count_28 : decode cX7_count 28 = .ok (.iinc 3 1, 3) := by decide +kernel
theorem dX7_count_31 : decode cX7_count 31 = .ok (.goto (-27), 3) := by decide +kernel
theorem dX7_count_34 : decode cX7_count 34 = .ok (.iload_n 1, 1) := by decide +kernel
theorem dX7_count_35 : decode cX7_count 35 = .ok (.tableswitch 67 0 5 #[37, 42, 47, 49, 54, 59], 37) := by decide +kernel
theorem dX7_count_72 : decode cX7_count 72 = .ok (.aload_n 0, 1) := by decide +kernel
theorem dX7_count_73 : decode cX7_count 73 = .ok (.invokevirtual 94, 3) := by decide +kernel
theorem dX7_count_76 : decode cX7_count 76 = .ok (.ireturn, 1) := by decide +kernel
theorem dX7_count_77 : decode cX7_count 77 = .ok (.aload_n 0, 1) := by decide +kernel
theorem dX7_count_78 : decode cX7_count 78 = .ok (.invokevirtual 203, 3) := by decide +kernel
theorem dX7_count_81 : decode cX7_count 81 = .ok (.ireturn, 1) := by decide +kernel
theorem dX7_count_82 : decode cX7_count 82 = .ok (.iload_n 2, 1) := by decide +kernel
theorem dX7_count_83 : decode cX7_count 83 = .ok (.ireturn, 1) := by decide +kernel
theorem dX7_count_84 : decode cX7_count 84 = .ok (.aload_n 0, 1) := by decide +kernel
theorem dX7_count_85 : decode cX7_count 85 = .ok (.getfield 29, 3) := by decide +kernel
theorem dX7_count_88 : decode cX7_count 88 = .ok (.ireturn, 1) := by decide +kernel
theorem dX7_count_89 : decode cX7_count 89 = .ok (.aload_n 0, 1) := by decide +kernel
theorem dX7_count_90 : decode cX7_count 90 = .ok (.getfield 119, 3) := by decide +kernel
theorem dX7_count_93 : decode cX7_count 93 = .ok (.ireturn, 1) := by decide +kernel
theorem dX7_count_94 : decode cX7_count 94 = .ok (.aload_n 0, 1) := by decide +kernel
theorem dX7_count_95 : decode cX7_count 95 = .ok (.getfield 7, 3) := by decide +kernel
theorem dX7_count_98 : decode cX7_count 98 = .ok (.bipush 62, 2) := by decide +kernel
theorem dX7_count_100 : decode cX7_count 100 = .ok (.iaload, 1) := by decide +kernel
theorem dX7_count_101 : decode cX7_count 101 = .ok (.ireturn, 1) := by decide +kernel
theorem dX7_count_102 : decode cX7_count 102 = .ok (.bipush (-2), 2) := by decide +kernel
theorem dX7_count_104 : decode cX7_count 104 = .ok (.ireturn, 1) := by decide +kernel
