theorem dX8_init_0 : decode cX8_init 0 = .ok (.aload_n 0, 1) := by decide +kernel
theorem dX8_init_1 : decode cX8_init 1 = .ok (.invokespecial 1, 3) := by decide +kernel
theorem dX8_init_4 : decode cX8_init 4 = .ok (.aload_n 0, 1) := by decide +kernel
theorem dX8_init_5 : decode cX8_init 5 = .ok (.iconst (-1), 1) := by decide +kernel
theorem dX8_init_6 : decode cX8_init 6 = .ok (.putfield 7, 3) := by decide +kernel
theorem dX8_init_9 : decode cX8_init 9 = .ok (.aload_n 0, 1) := by decide +kernel
theorem dX8_init_10 : decode cX8_init 10 = .ok (.iconst (-1), 1) := by decide +kernel
theorem dX8_init_11 : decode cX8_init 11 = .ok (.putfield 13, 3) := by decide +kernel
theorem dX8_init_14 : decode cX8_init 14 = .ok (.aload_n 0, 1) := by decide +kernel
theorem dX8_init_15 : decode cX8_init 15 = .ok (.sipush 169, 3) := by decide +kernel
theorem dX8_init_18 : decode cX8_init 18 = .ok (.newarray .int, 2) := by decide +kernel
theorem dX8_init_20 : decode cX8_init 20 = .ok (.putfield 16, 3) := by decide +kernel
theorem dX8_init_23 : decode cX8_init 23 = .ok (.aload_n 0, 1) := by decide +kernel
theorem dX8_init_24 : decode cX8_init 24 = .ok (.sipush 169, 3) := by decide +kernel
theorem dX8_init_27 : decode cX8_init 27 = .ok (.newarray .int, 2) := by decide +kernel
theorem dX8_init_29 : decode cX8_init 29 = .ok (.putfield 20, 3) := by decide +kernel
theorem dX8_init_32 : decode cX8_init 32 = .ok (.aload_n 0, 1) := by decide +kernel
theorem dX8_init_33 : decode cX8_init 33 = .ok (.sipush 169, 3) := by decide +kernel
theorem dX8_init_36 : decode cX8_init 36 = .ok (.newarray .int, 2) := by decide +kernel
theorem dX8_init_38 : decode cX8_init 38 = .ok (.putfield 23, 3) := by decide +kernel
theorem dX8_init_41 : decode cX8_init 41 = .ok (.aload_n 0, 1) := by decide +kernel
theorem dX8_init_42 : decode cX8_init 42 = .ok (.sipush 1352, 3) := by decide +kernel
theorem dX8_init_45 : decode cX8_init 45 = .ok (.newarray .int, 2) := by decide +kernel
theorem dX8_init_47 : decode cX8_init 47 = .ok (.putfield 26, 3) := by decide +kernel
theorem dX8_init_50 : decode cX8_init 50 = .ok (.aload_n 0, 1) := by decide +kernel
theorem dX8_init_51 : decode cX8_init 51 = .ok (.bipush 60, 2) := by decide +kernel
theorem dX8_init_53 : decode cX8_init 53 = .ok (.newarray .int, 2) := by decide +kernel
theorem dX8_init_55 : decode cX8_init 55 = .ok (.putfield 29, 3) := by decide +kernel
theorem dX8_init_58 : decode cX8_init 58 = .ok (.aload_n 0, 1) := by decide +kernel
theorem dX8_init_59 : decode cX8_init 59 = .ok (.bipush 50, 2) := by decide +kernel
theorem dX8_init_61 : decode cX8_init 61 = .ok (.newarray .int, 2) := by decide +kernel
theorem dX8_init_63 : decode cX8_init 63 = .ok (.putfield 32, 3) := by decide +kernel
theorem dX8_init_66 : decode cX8_init 66 = .ok (.aload_n 0, 1) := by decide +kernel
theorem dX8_init_67 : decode cX8_init 67 = .ok (.bipush 10, 2) := by decide +kernel
theorem dX8_init_69 : decode cX8_init 69 = .ok (.newarray .int, 2) := by decide +kernel
theorem dX8_init_71 : decode cX8_init 71 = .ok (.putfield 35, 3) := by decide +kernel
theorem dX8_init_74 : decode cX8_init 74 = .ok (.aload_n 0, 1) := by decide +kernel
theorem dX8_init_75 : decode cX8_init 75 = .ok (.bipush 57, 2) := by decide +kernel
theorem dX8_init_77 : decode cX8_init 77 = .ok (.newarray .int, 2) := by decide +kernel
theorem dX8_init_79 : decode cX8_init 79 = .ok (.dup, 1) := by decide +kernel
theorem dX8_init_80 : decode cX8_init 80 = .ok (.iconst 0, 1) := by decide +kernel
theorem dX8_init_81 : decode cX8_init 81 = .ok (.bipush 109, 2) := by decide +kernel
theorem dX8_init_83 : decode cX8_init 83 = .ok (.iastore, 1) := by decide +kernel
theorem dX8_init_84 : decode cX8_init 84 = .ok (.dup, 1) := by decide +kernel
theorem dX8_init_85 : decode cX8_init 85 = .ok (.iconst 1, 1) := by decide +kernel
theorem dX8_init_86 : decode cX8_init 86 = .ok (.bipush 101, 2) := by decide +kernel
theorem dX8_init_88 : decode cX8_init 88 = .ok (.iastore, 1) := by decide +kernel
theorem dX8_init_89 : decode cX8_init 89 = .ok (.dup, 1) := by decide +kernel
theorem dX8_init_90 : decode cX8_init 90 = .ok (.iconst 2, 1) := by decide +kernel
theorem dX8_init_91 : decode cX8_init 91 = .ok (.bipush 109, 2) := by decide +kernel
theorem dX8_init_93 : decode cX8_init 93 = .ok (.iastore, 1) := by decide +kernel
theorem dX8_init_94 : decode cX8_init 94 = .ok (.dup, 1) := by decide +kernel
theorem dX8_init_95 : decode cX8_init 95 = .ok (.iconst 3, 1) := by decide +kernel
theorem dX8_init_96 : decode cX8_init 96 = .ok (.bipush 98, 2) := by decide +kernel
theorem dX8_init_98 : decode cX8_init 98 = .ok (.iastore, 1) := by decide +kernel
theorem dX8_init_99 : decode cX8_init 99 = .ok (.dup, 1) := by decide +kernel
theorem dX8_init_100 : decode cX8_init 100 = .ok (.iconst 4, 1) := by decide +kernel
theorem dX8_init_101 : decode cX8_init 101 = .ok (.bipush 101, 2) := by decide +kernel
theorem dX8_init_103 : decode cX8_init 103 = .ok (.iastore, 1) := by decide +kernel
theorem dX8_init_104 : decode cX8_init 104 = .ok (.dup, 1) := by decide +kernel
theorem dX8_init_105 : decode cX8_init 105 = .ok (.iconst 5, 1) := by decide +kernel
theorem dX8_init_106 : decode cX8_init 106 = .ok (.bipush 114, 2) := by decide +kernel
theorem dX8_init_108 : decode cX8_init 108 = .ok (.iastore, 1) := by decide +kernel
theorem dX8_init_109 : decode cX8_init 109 = .ok (.dup, 1) := by decide +kernel
theorem dX8_init_110 : decode cX8_init 110 = .ok (.bipush 6, 2) := by decide +kernel
theorem dX8_init_112 : decode cX8_init 112 = .ok (.bipush 32, 2) := by decide +kernel
theorem dX8_init_114 : decode cX8_init 114 = .ok (.iastore, 1) := by decide +kernel
theorem dX8_init_115 : decode cX8_init 115 = .ok (.dup, 1) := by decide +kernel
theorem dX8_init_116 : decode cX8_init 116 = .ok (.bipush 7, 2) := by decide +kernel
theorem dX8_init_118 : decode cX8_init 118 = .ok (.bipush 119, 2) := by decide +kernel
theorem dX8_init_120 : decode cX8_init 120 = .ok (.iastore, 1) := by decide +kernel
theorem dX8_init_121 : decode cX8_init 121 = .ok (.dup, 1) := by decide +kernel
theorem dX8_init_122 : decode cX8_init 122 = .ok (.bipush 8, 2) := by decide +kernel
theorem dX8_init_124 : decode cX8_init 124 = .ok (.bipush 105, 2) := by decide +kernel
theorem dX8_init_126 : decode cX8_init 126 = .ok (.iastore, 1) := by decide +kernel
theorem dX8_init_127 : decode cX8_init 127 = .ok (.dup, 1) := by decide +kernel
theorem dX8_init_128 : decode cX8_init 128 = .ok (.bipush 9, 2) := by decide +kernel
theorem dX8_init_130 : decode cX8_init 130 = .ok (.bipush 110, 2) := by decide +kernel
theorem dX8_init_132 : decode cX8_init 132 = .ok (.iastore, 1) := by decide +kernel
theorem dX8_init_133 : decode cX8_init 133 = .ok (.dup, 1) := by decide +kernel
theorem dX8_init_134 : decode cX8_init 134 = .ok (.bipush 10, 2) := by decide +kernel
theorem dX8_init_136 : decode cX8_init 136 = .ok (.bipush 100, 2) := by decide +kernel
theorem dX8_init_138 : decode cX8_init 138 = .ok (.iastore, 1) := by decide +kernel
theorem dX8_init_139 : decode cX8_init 139 = .ok (.dup, 1) := by decide +kernel
theorem dX8_init_140 : decode cX8_init 140 = .ok (.bipush 11, 2) := by decide +kernel
theorem dX8_init_142 : decode cX8_init 142 = .ok (.bipush 32, 2) := by decide +kernel
theorem dX8_init_144 : decode cX8_init 144 = .ok (.iastore, 1) := by decide +kernel
theorem dX8_init_145 : decode cX8_init 145 = .ok (.dup, 1) := by decide +kernel
theorem dX8_init_146 : decode cX8_init 146 = .ok (.bipush 12, 2) := by decide +kernel
theorem dX8_init_148 : decode cX8_init 148 = .ok (.bipush 115, 2) := by decide +kernel
theorem dX8_init_150 : decode cX8_init 150 = .ok (.iastore, 1) := by decide +kernel
theorem dX8_init_151 : decode cX8_init 151 = .ok (.dup, 1) := by decide +kernel
theorem dX8_init_152 : decode cX8_init 152 = .ok (.bipush 13, 2) := by decide +kernel
theorem dX8_init_154 : decode cX8_init 154 = .ok (.bipush 104, 2) := by decide +kernel
theorem dX8_init_156 : decode cX8_init 156 = .ok (.iastore, 1) := by decide +kernel
theorem dX8_init_157 : decode cX8_init 157 = .ok (.dup, 1) := by decide +kernel
theorem dX8_init_158 : decode cX8_init 158 = .ok (.bipush 14, 2) := by decide +kernel
theorem dX8_init_160 : decode cX8_init 160 = .ok (.bipush 105, 2) := by decide +kernel
theorem dX8_init_162 : decode cX8_init 162 = .ok (.iastore, 1) := by decide +kernel
theorem dX8_init_163 : decode cX8_init 163 = .ok (.dup, 1) := by decide +kernel
theorem dX8_init_164 : decode cX8_init 164 = .ok (.bipush 15, 2) := by decide +kernel
theorem dX8_init_166 : decode cX8_init 166 = .ok (.bipush 102, 2) := by decide +kernel
theorem dX8_init_168 : decode cX8_init 168 = .ok (.iastore, 1) := by decide +kernel
theorem dX8_init_169 : decode cX8_init 169 = .ok (.dup, 1) := by decide +kernel
theorem dX8_init_170 : decode cX8_init 170 = .ok (.bipush 16, 2) := by decide +kernel
theorem dX8_init_172 : decode cX8_init 172 = .ok (.bipush 116, 2) := by decide +kernel
theorem dX8_init_174 : decode cX8_init 174 = .ok (.iastore, 1) := by decide +kernel
theorem dX8_init_175 : decode cX8_init 175 = .ok (.dup, 1) := by decide +kernel
theorem dX8_init_176 : decode cX8_init 176 = .ok (.bipush 17, 2) := by decide +kernel
theorem dX8_init_178 : decode cX8_init 178 = .ok (.bipush 32, 2) := by decide +kernel
theorem dX8_init_180 : decode cX8_init 180 = .ok (.iastore, 1) := by decide +kernel
theorem dX8_init_181 : decode cX8_init 181 = .ok (.dup, 1) := by decide +kernel
theorem dX8_init_182 : decode cX8_init 182 = .ok (.bipush 18, 2) := by decide +kernel
theorem dX8_init_184 : decode cX8_init 184 = .ok (.bipush 118, 2) := by decide +kernel
theorem dX8_init_186 : decode cX8_init 186 = .ok (.iastore, 1) := by decide +kernel
theorem dX8_init_187 : decode cX8_init 187 = .ok (.dup, 1) := by decide +kernel
theorem dX8_init_188 : decode cX8_init 188 = .ok (.bipush 19, 2) := by decide +kernel
theorem dX8_init_190 : decode cX8_init 190 = .ok (.bipush 111, 2) := by decide +kernel
theorem dX8_init_192 : decode cX8_init 192 = .ok (.iastore, 1) := by decide +kernel
theorem dX8_init_193 : decode cX8_init 193 = .ok (.dup, 1) := by decide +kernel
theorem dX8_init_194 : decode cX8_init 194 = .ok (.bipush 20, 2) := by decide +kernel
theorem dX8_init_196 : decode cX8_init 196 = .ok (.bipush 116, 2) := by decide +kernel
theorem dX8_init_198 : decode cX8_init 198 = .ok (.iastore, 1) := by decide +kernel
theorem dX8_init_199 : decode cX8_init 199 = .ok (.dup, 1) := by decide +kernel
theorem dX8_init_200 : decode cX8_init 200 = .ok (.bipush 21, 2) := by decide +kernel
theorem dX8_init_202 : decode cX8_init 202 = .ok (.bipush 101, 2) := by decide +kernel
theorem dX8_init_204 : decode cX8_init 204 = .ok (.iastore, 1) := by decide +kernel
theorem dX8_init_205 : decode cX8_init 205 = .ok (.dup, 1) := by decide +kernel
theorem dX8_init_206 : decode cX8_init 206 = .ok (.bipush 22, 2) := by decide +kernel
theorem dX8_init_208 : decode cX8_init 208 = .ok (.bipush 32, 2) := by decide +kernel
theorem dX8_init_210 : decode cX8_init 210 = .ok (.iastore, 1) := by decide +kernel
theorem dX8_init_211 : decode cX8_init 211 = .ok (.dup, 1) := by decide +kernel
theorem dX8_init_212 : decode cX8_init 212 = .ok (.bipush 23, 2) := by decide +kernel
theorem dX8_init_214 : decode cX8_init 214 = .ok (.bipush 115, 2) := by decide +kernel
theorem dX8_init_216 : decode cX8_init 216 = .ok (.iastore, 1) := by decide +kernel
theorem dX8_init_217 : decode cX8_init 217 = .ok (.dup, 1) := by decide +kernel
theorem dX8_init_218 : decode cX8_init 218 = .ok (.bipush 24, 2) := by decide +kernel
theorem dX8_init_220 : decode cX8_init 220 = .ok (.bipush 116, 2) := by decide +kernel
theorem dX8_init_222 : decode cX8_init 222 = .ok (.iastore, 1) := by decide +kernel
theorem dX8_init_223 : decode cX8_init 223 = .ok (.dup, 1) := by decide +kernel
theorem dX8_init_224 : decode cX8_init 224 = .ok (.bipush 25, 2) := by decide +kernel
theorem dX8_init_226 : decode cX8_init 226 = .ok (.bipush 114, 2) := by decide +kernel
theorem dX8_init_228 : decode cX8_init 228 = .ok (.iastore, 1) := by decide +kernel
theorem dX8_init_229 : decode cX8_init 229 = .ok (.dup, 1) := by decide +kernel
theorem dX8_init_230 : decode cX8_init 230 = .ok (.bipush 26, 2) := by decide +kernel
theorem dX8_init_232 : decode cX8_init 232 = .ok (.bipush 105, 2) := by decide +kernel
theorem dX8_init_234 : decode cX8_init 234 = .ok (.iastore, 1) := by decide +kernel
theorem dX8_init_235 : decode cX8_init 235 = .ok (.dup, 1) := by decide +kernel
theorem dX8_init_236 : decode cX8_init 236 = .ok (.bipush 27, 2) := by decide +kernel
theorem dX8_init_238 : decode cX8_init 238 = .ok (.bipush 107, 2) := by decide +kernel
theorem dX8_init_240 : decode cX8_init 240 = .ok (.iastore, 1) := by decide +kernel
theorem dX8_init_241 : decode cX8_init 241 = .ok (.dup, 1) := by decide +kernel
theorem dX8_init_242 : decode cX8_init 242 = .ok (.bipush 28, 2) := by decide +kernel
theorem dX8_init_244 : decode cX8_init 244 = .ok (.bipush 101, 2) := by decide +kernel
theorem dX8_init_246 : decode cX8_init 246 = .ok (.iastore, 1) := by decide +kernel
theorem dX8_init_247 : decode cX8_init 247 = .ok (.dup, 1) := by decide +kernel
theorem dX8_init_248 : decode cX8_init 248 = .ok (.bipush 29, 2) := by decide +kernel
theorem dX8_init_250 : decode cX8_init 250 = .ok (.bipush 112, 2) := by decide +kernel
theorem dX8_init_252 : decode cX8_init 252 = .ok (.iastore, 1) := by decide +kernel
theorem dX8_init_253 : decode cX8_init 253 = .ok (.dup, 1) := by decide +kernel
theorem dX8_init_254 : decode cX8_init 254 = .ok (.bipush 30, 2) := by decide +kernel
theorem dX8_init_256 : decode cX8_init 256 = .ok (.bipush 97, 2) := by decide +kernel
theorem dX8_init_258 : decode cX8_init 258 = .ok (.iastore, 1) := by decide +kernel
theorem dX8_init_259 : decode cX8_init 259 = .ok (.dup, 1) := by decide +kernel
theorem dX8_init_260 : decode cX8_init 260 = .ok (.bipush 31, 2) := by decide +kernel
theorem dX8_init_262 : decode cX8_init 262 = .ok (.bipush 121, 2) := by decide +kernel
theorem dX8_init_264 : decode cX8_init 264 = .ok (.iastore, 1) := by decide +kernel
theorem dX8_init_265 : decode cX8_init 265 = .ok (.dup, 1) := by decide +kernel
theorem dX8_init_266 : decode cX8_init 266 = .ok (.bipush 32, 2) := by decide +kernel
theorem dX8_init_268 : decode cX8_init 268 = .ok (.bipush 32, 2) := by decide +kernel
theorem dX8_init_270 : decode cX8_init 270 = .ok (.iastore, 1) := by decide +kernel
theorem dX8_init_271 : decode cX8_init 271 = .ok (.dup, 1) := by decide +kernel
theorem dX8_init_272 : decode cX8_init 272 = .ok (.bipush 33, 2) := by decide +kernel
theorem dX8_init_274 : decode cX8_init 274 = .ok (.bipush 112, 2) := by decide +kernel
theorem dX8_init_276 : decode cX8_init 276 = .ok (.iastore, 1) := by decide +kernel
theorem dX8_init_277 : decode cX8_init 277 = .ok (.dup, 1) := by decide +kernel
theorem dX8_init_278 : decode cX8_init 278 = .ok (.bipush 34, 2) := by decide +kernel
theorem dX8_init_280 : decode cX8_init 280 = .ok (.bipush 105, 2) := by decide +kernel
theorem dX8_init_282 : decode cX8_init 282 = .ok (.iastore, 1) := by decide +kernel
theorem dX8_init_283 : decode cX8_init 283 = .ok (.dup, 1) := by decide +kernel
theorem dX8_init_284 : decode cX8_init 284 = .ok (.bipush 35, 2) := by decide +kernel
theorem dX8_init_286 : decode cX8_init 286 = .ok (.bipush 99, 2) := by decide +kernel
theorem dX8_init_288 : decode cX8_init 288 = .ok (.iastore, 1) := by decide +kernel
theorem dX8_init_289 : decode cX8_init 289 = .ok (.dup, 1) := by decide +kernel
theorem dX8_init_290 : decode cX8_init 290 = .ok (.bipush 36, 2) := by decide +kernel
theorem dX8_init_292 : decode cX8_init 292 = .ok (.bipush 107, 2) := by decide +kernel
theorem dX8_init_294 : decode cX8_init 294 = .ok (.iastore, 1) := by decide +kernel
theorem dX8_init_295 : decode cX8_init 295 = .ok (.dup, 1) := by decide +kernel
theorem dX8_init_296 : decode cX8_init 296 = .ok (.bipush 37, 2) := by decide +kernel
theorem dX8_init_298 : decode cX8_init 298 = .ok (.bipush 101, 2) := by decide +kernel
theorem dX8_init_300 : decode cX8_init 300 = .ok (.iastore, 1) := by decide +kernel
theorem dX8_init_301 : decode cX8_init 301 = .ok (.dup, 1) := by decide +kernel
theorem dX8_init_302 : decode cX8_init 302 = .ok (.bipush 38, 2) := by decide +kernel
theorem dX8_init_304 : decode cX8_init 304 = .ok (.bipush 116, 2) := by decide +kernel
theorem dX8_init_306 : decode cX8_init 306 = .ok (.iastore, 1) := by decide +kernel
theorem dX8_init_307 : decode cX8_init 307 = .ok (.dup, 1) := by decide +kernel
theorem dX8_init_308 : decode cX8_init 308 = .ok (.bipush 39, 2) := by decide +kernel
theorem dX8_init_310 : decode cX8_init 310 = .ok (.bipush 32, 2) := by decide +kernel
theorem dX8_init_312 : decode cX8_init 312 = .ok (.iastore, 1) := by decide +kernel
theorem dX8_init_313 : decode cX8_init 313 = .ok (.dup, 1) := by decide +kernel
theorem dX8_init_314 : decode cX8_init 314 = .ok (.bipush 40, 2) := by decide +kernel
theorem dX8_init_316 : decode cX8_init 316 = .ok (.bipush 111, 2) := by decide +kernel
theorem dX8_init_318 : decode cX8_init 318 = .ok (.iastore, 1) := by decide +kernel
theorem dX8_init_319 : decode cX8_init 319 = .ok (.dup, 1) := by decide +kernel
theorem dX8_init_320 : decode cX8_init 320 = .ok (.bipush 41, 2) := by decide +kernel
theorem dX8_init_322 : decode cX8_init 322 = .ok (.bipush 102, 2) := by decide +kernel
theorem dX8_init_324 : decode cX8_init 324 = .ok (.iastore, 1) := by decide +kernel
theorem dX8_init_325 : decode cX8_init 325 = .ok (.dup, 1) := by decide +kernel
theorem dX8_init_326 : decode cX8_init 326 = .ok (.bipush 42, 2) := by decide +kernel
theorem dX8_init_328 : decode cX8_init 328 = .ok (.bipush 102, 2) := by decide +kernel
theorem dX8_init_330 : decode cX8_init 330 = .ok (.iastore, 1) := by decide +kernel
theorem dX8_init_331 : decode cX8_init 331 = .ok (.dup, 1) := by decide +kernel
theorem dX8_init_332 : decode cX8_init 332 = .ok (.bipush 43, 2) := by decide +kernel
theorem dX8_init_334 : decode cX8_init 334 = .ok (.bipush 32, 2) := by decide +kernel
theorem dX8_init_336 : decode cX8_init 336 = .ok (.iastore, 1) := by decide +kernel
theorem dX8_init_337 : decode cX8_init 337 = .ok (.dup, 1) := by decide +kernel
theorem dX8_init_338 : decode cX8_init 338 = .ok (.bipush 44, 2) := by decide +kernel
theorem dX8_init_340 : decode cX8_init 340 = .ok (.bipush 111, 2) := by decide +kernel
theorem dX8_init_342 : decode cX8_init 342 = .ok (.iastore, 1) := by decide +kernel
theorem dX8_init_343 : decode cX8_init 343 = .ok (.dup, 1) := by decide +kernel
theorem dX8_init_344 : decode cX8_init 344 = .ok (.bipush 45, 2) := by decide +kernel
theorem dX8_init_346 : decode cX8_init 346 = .ok (.bipush 102, 2) := by decide +kernel
theorem dX8_init_348 : decode cX8_init 348 = .ok (.iastore, 1) := by decide +kernel
theorem dX8_init_349 : decode cX8_init 349 = .ok (.dup, 1) := by decide +kernel
theorem dX8_init_350 : decode cX8_init 350 = .ok (.bipush 46, 2) := by decide +kernel
theorem dX8_init_352 : decode cX8_init 352 = .ok (.bipush 102, 2) := by decide +kernel
theorem dX8_init_354 : decode cX8_init 354 = .ok (.iastore, 1) := by decide +kernel
theorem dX8_init_355 : decode cX8_init 355 = .ok (.dup, 1) := by decide +kernel
theorem dX8_init_356 : decode cX8_init 356 = .ok (.bipush 47, 2) := by decide +kernel
theorem dX8_init_358 : decode cX8_init 358 = .ok (.bipush 101, 2) := by decide +kernel
theorem dX8_init_360 : decode cX8_init 360 = .ok (.iastore, 1) := by decide +kernel
theorem dX8_init_361 : decode cX8_init 361 = .ok (.dup, 1) := by decide +kernel
theorem dX8_init_362 : decode cX8_init 362 = .ok (.bipush 48, 2) := by decide +kernel
theorem dX8_init_364 : decode cX8_init 364 = .ok (.bipush 114, 2) := by decide +kernel
theorem dX8_init_366 : decode cX8_init 366 = .ok (.iastore, 1) := by decide +kernel
theorem dX8_init_367 : decode cX8_init 367 = .ok (.dup, 1) := by decide +kernel
theorem dX8_init_368 : decode cX8_init 368 = .ok (.bipush 49, 2) := by decide +kernel
theorem dX8_init_370 : decode cX8_init 370 = .ok (.bipush 32, 2) := by decide +kernel
theorem dX8_init_372 : decode cX8_init 372 = .ok (.iastore, 1) := by decide +kernel
theorem dX8_init_373 : decode cX8_init 373 = .ok (.dup, 1) := by decide +kernel
theorem dX8_init_374 : decode cX8_init 374 = .ok (.bipush 50, 2) := by decide +kernel
theorem dX8_init_376 : decode cX8_init 376 = .ok (.bipush 97, 2) := by decide +kernel
theorem dX8_init_378 : decode cX8_init 378 = .ok (.iastore, 1) := by decide +kernel
theorem dX8_init_379 : decode cX8_init 379 = .ok (.dup, 1) := by decide +kernel
theorem dX8_init_380 : decode cX8_init 380 = .ok (.bipush 51, 2) := by decide +kernel
theorem dX8_init_382 : decode cX8_init 382 = .ok (.bipush 99, 2) := by decide +kernel
theorem dX8_init_384 : decode cX8_init 384 = .ok (.iastore, 1) := by decide +kernel
theorem dX8_init_385 : decode cX8_init 385 = .ok (.dup, 1) := by decide +kernel
theorem dX8_init_386 : decode cX8_init 386 = .ok (.bipush 52, 2) := by decide +kernel
theorem dX8_init_388 : decode cX8_init 388 = .ok (.bipush 99, 2) := by decide +kernel
theorem dX8_init_390 : decode cX8_init 390 = .ok (.iastore, 1) := by decide +kernel
theorem dX8_init_391 : decode cX8_init 391 = .ok (.dup, 1) := by decide +kernel
theorem dX8_init_392 : decode cX8_init 392 = .ok (.bipush 53, 2) := by decide +kernel
theorem dX8_init_394 : decode cX8_init 394 = .ok (.bipush 101, 2) := by decide +kernel
theorem dX8_init_396 : decode cX8_init 396 = .ok (.iastore, 1) := by decide +kernel
theorem dX8_init_397 : decode cX8_init 397 = .ok (.dup, 1) := by decide +kernel
theorem dX8_init_398 : decode cX8_init 398 = .ok (.bipush 54, 2) := by decide +kernel
theorem dX8_init_400 : decode cX8_init 400 = .ok (.bipush 112, 2) := by decide +kernel
theorem dX8_init_402 : decode cX8_init 402 = .ok (.iastore, 1) := by decide +kernel
theorem dX8_init_403 : decode cX8_init 403 = .ok (.dup, 1) := by decide +kernel
theorem dX8_init_404 : decode cX8_init 404 = .ok (.bipush 55, 2) := by decide +kernel
theorem dX8_init_406 : decode cX8_init 406 = .ok (.bipush 116, 2) := by decide +kernel
theorem dX8_init_408 : decode cX8_init 408 = .ok (.iastore, 1) := by decide +kernel
theorem dX8_init_409 : decode cX8_init 409 = .ok (.dup, 1) := by decide +kernel
theorem dX8_init_410 : decode cX8_init 410 = .ok (.bipush 56, 2) := by decide +kernel
theorem dX8_init_412 : decode cX8_init 412 = .ok (.bipush 32, 2) := by decide +kernel
theorem dX8_init_414 : decode cX8_init 414 = .ok (.iastore, 1) := by decide +kernel
theorem dX8_init_415 : decode cX8_init 415 = .ok (.putfield 38, 3) := by decide +kernel
theorem dX8_init_418 : decode cX8_init 418 = .ok (.aload_n 0, 1) := by decide +kernel
theorem dX8_init_419 : decode cX8_init 419 = .ok (.bipush 11, 2) := by decide +kernel
theorem dX8_init_421 : decode cX8_init 421 = .ok (.newarray .int, 2) := by decide +kernel
theorem dX8_init_423 : decode cX8_init 423 = .ok (.dup, 1) := by decide +kernel
theorem dX8_init_424 : decode cX8_init 424 = .ok (.iconst 0, 1) := by decide +kernel
theorem dX8_init_425 : decode cX8_init 425 = .ok (.iconst 0, 1) := by decide +kernel
theorem dX8_init_426 : decode cX8_init 426 = .ok (.iastore, 1) := by decide +kernel
theorem dX8_init_427 : decode cX8_init 427 = .ok (.dup, 1) := by decide +kernel
theorem dX8_init_428 : decode cX8_init 428 = .ok (.iconst 1, 1) := by decide +kernel
theorem dX8_init_429 : decode cX8_init 429 = .ok (.bipush 7, 2) := by decide +kernel
theorem dX8_init_431 : decode cX8_init 431 = .ok (.iastore, 1) := by decide +kernel
theorem dX8_init_432 : decode cX8_init 432 = .ok (.dup, 1) := by decide +kernel
theorem dX8_init_433 : decode cX8_init 433 = .ok (.iconst 2, 1) := by decide +kernel
theorem dX8_init_434 : decode cX8_init 434 = .ok (.bipush 12, 2) := by decide +kernel
theorem dX8_init_436 : decode cX8_init 436 = .ok (.iastore, 1) := by decide +kernel
theorem dX8_init_437 : decode cX8_init 437 = .ok (.dup, 1) := by decide +kernel
theorem dX8_init_438 : decode cX8_init 438 = .ok (.iconst 3, 1) := by decide +kernel
theorem dX8_init_439 : decode cX8_init 439 = .ok (.bipush 18, 2) := by decide +kernel
theorem dX8_init_441 : decode cX8_init 441 = .ok (.iastore, 1) := by decide +kernel
theorem dX8_init_442 : decode cX8_init 442 = .ok (.dup, 1) := by decide +kernel
theorem dX8_init_443 : decode cX8_init 443 = .ok (.iconst 4, 1) := by decide +kernel
theorem dX8_init_444 : decode cX8_init 444 = .ok (.bipush 23, 2) := by decide +kernel
theorem dX8_init_446 : decode cX8_init 446 = .ok (.iastore, 1) := by decide +kernel
theorem dX8_init_447 : decode cX8_init 447 = .ok (.dup, 1) := by decide +kernel
theorem dX8_init_448 : decode cX8_init 448 = .ok (.iconst 5, 1) := by decide +kernel
theorem dX8_init_449 : decode cX8_init 449 = .ok (.bipush 29, 2) := by decide +kernel
theorem dX8_init_451 : decode cX8_init 451 = .ok (.iastore, 1) := by decide +kernel
theorem dX8_init_452 : decode cX8_init 452 = .ok (.dup, 1) := by decide +kernel
theorem dX8_init_453 : decode cX8_init 453 = .ok (.bipush 6, 2) := by decide +kernel
theorem dX8_init_455 : decode cX8_init 455 = .ok (.bipush 33, 2) := by decide +kernel
theorem dX8_init_457 : decode cX8_init 457 = .ok (.iastore, 1) := by decide +kernel
theorem dX8_init_458 : decode cX8_init 458 = .ok (.dup, 1) := by decide +kernel
theorem dX8_init_459 : decode cX8_init 459 = .ok (.bipush 7, 2) := by decide +kernel
theorem dX8_init_461 : decode cX8_init 461 = .ok (.bipush 40, 2) := by decide +kernel
theorem dX8_init_463 : decode cX8_init 463 = .ok (.iastore, 1) := by decide +kernel
theorem dX8_init_464 : decode cX8_init 464 = .ok (.dup, 1) := by decide +kernel
theorem dX8_init_465 : decode cX8_init 465 = .ok (.bipush 8, 2) := by decide +kernel
theorem dX8_init_467 : decode cX8_init 467 = .ok (.bipush 44, 2) := by decide +kernel
theorem dX8_init_469 : decode cX8_init 469 = .ok (.iastore, 1) := by decide +kernel
theorem dX8_init_470 : decode cX8_init 470 = .ok (.dup, 1) := by decide +kernel
theorem dX8_init_471 : decode cX8_init 471 = .ok (.bipush 9, 2) := by decide +kernel
theorem dX8_init_473 : decode cX8_init 473 = .ok (.bipush 50, 2) := by decide +kernel
theorem dX8_init_475 : decode cX8_init 475 = .ok (.iastore, 1) := by decide +kernel
theorem dX8_init_476 : decode cX8_init 476 = .ok (.dup, 1) := by decide +kernel
theorem dX8_init_477 : decode cX8_init 477 = .ok (.bipush 10, 2) := by decide +kernel
theorem dX8_init_479 : decode cX8_init 479 = .ok (.bipush 57, 2) := by decide +kernel
theorem dX8_init_481 : decode cX8_init 481 = .ok (.iastore, 1) := by decide +kernel
theorem dX8_init_482 : decode cX8_init 482 = .ok (.putfield 41, 3) := by decide +kernel
theorem dX8_init_485 : decode cX8_init 485 = .ok (.return_, 1) := by decide +kernel
theorem dX8_thrown_0 : decode cX8_thrown 0 = .ok (.aload_n 0, 1) := by decide +kernel
theorem dX8_thrown_1 : decode cX8_thrown 1 = .ok (.getfield 44, 3) := by decide +kernel
theorem dX8_thrown_4 : decode cX8_thrown 4 = .ok (.ireturn, 1) := by decide +kernel
theorem dX8_fail_0 : decode cX8_fail 0 = .ok (.aload_n 0, 1) := by decide +kernel
theorem dX8_fail_1 : decode cX8_fail 1 = .ok (.iload_n 1, 1) := by decide +kernel
theorem dX8_fail_2 : decode cX8_fail 2 = .ok (.putfield 44, 3) := by decide +kernel
theorem dX8_fail_5 : decode cX8_fail 5 = .ok (.iconst 0, 1) := by decide +kernel
theorem dX8_fail_6 : decode cX8_fail 6 = .ok (.ireturn, 1) := by decide +kernel
theorem dX8_isIn_0 : decode cX8_isIn 0 = .ok (.iload_n 0, 1) := by decide +kernel
theorem dX8_isIn_1 : decode cX8_isIn 1 = .ok (.iload_n 1, 1) := by decide +kernel
theorem dX8_isIn_2 : decode cX8_isIn 2 = .ok (.if_icmp .lt 12, 3) := by decide +kernel
theorem dX8_isIn_5 : decode cX8_isIn 5 = .ok (.iload_n 0, 1) := by decide +kernel
theorem dX8_isIn_6 : decode cX8_isIn 6 = .ok (.iload_n 2, 1) := by decide +kernel
theorem dX8_isIn_7 : decode cX8_isIn 7 = .ok (.if_icmp .gt 7, 3) := by decide +kernel
theorem dX8_isIn_10 : decode cX8_isIn 10 = .ok (.iconst 1, 1) := by decide +kernel
theorem dX8_isIn_11 : decode cX8_isIn 11 = .ok (.goto 4, 3) := by decide +kernel
theorem dX8_isIn_14 : decode cX8_isIn 14 = .ok (.iconst 0, 1) := by decide +kernel
theorem dX8_isIn_15 : decode cX8_isIn 15 = .ok (.ireturn, 1) := by decide +kernel
theorem dX8_lays_0 : decode cX8_lays 0 = .ok (.iconst 0, 1) := by decide +kernel
theorem dX8_lays_1 : decode cX8_lays 1 = .ok (.istore_n 2, 1) := by decide +kernel
theorem dX8_lays_2 : decode cX8_lays 2 = .ok (.iload_n 2, 1) := by decide +kernel
theorem dX8_lays_3 : decode cX8_lays 3 = .ok (.sipush 169, 3) := by decide +kernel
theorem dX8_lays_6 : decode cX8_lays 6 = .ok (.if_icmp .ge 15, 3) := by decide +kernel
theorem dX8_lays_9 : decode cX8_lays 9 = .ok (.aload_n 0, 1) := by decide +kernel
theorem dX8_lays_10 : decode cX8_lays 10 = .ok (.iload_n 2, 1) := by decide +kernel
theorem dX8_lays_11 : decode cX8_lays 11 = .ok (.aload_n 1, 1) := by decide +kernel
theorem dX8_lays_12 : decode cX8_lays 12 = .ok (.iload_n 2, 1) := by decide +kernel
theorem dX8_lays_13 : decode cX8_lays 13 = .ok (.iaload, 1) := by decide +kernel
theorem dX8_lays_14 : decode cX8_lays 14 = .ok (.iastore, 1) := by decide +kernel
theorem dX8_lays_15 : decode cX8_lays 15 = .ok (.iinc 2 1, 3) := by decide +kernel
theorem dX8_lays_18 : decode cX8_lays 18 = .ok (.goto (-16), 3) := by decide +kernel
theorem dX8_lays_21 : decode cX8_lays 21 = .ok (.return_, 1) := by decide +kernel
theorem dX8_begins_0 : decode cX8_begins 0 = .ok (.aload_n 0, 1) := by decide +kernel
theorem dX8_begins_1 : decode cX8_begins 1 = .ok (.iconst 0, 1) := by decide +kernel
theorem dX8_begins_2 : decode cX8_begins 2 = .ok (.putfield 44, 3) := by decide +kernel
theorem dX8_begins_5 : decode cX8_begins 5 = .ok (.aload_n 0, 1) := by decide +kernel
theorem dX8_begins_6 : decode cX8_begins 6 = .ok (.getfield 20, 3) := by decide +kernel
theorem dX8_begins_9 : decode cX8_begins 9 = .ok (.aload_n 0, 1) := by decide +kernel
theorem dX8_begins_10 : decode cX8_begins 10 = .ok (.getfield 16, 3) := by decide +kernel
theorem dX8_begins_13 : decode cX8_begins 13 = .ok (.invokestatic 47, 3) := by decide +kernel
theorem dX8_begins_16 : decode cX8_begins 16 = .ok (.return_, 1) := by decide +kernel
theorem dX8_ends_0 : decode cX8_ends 0 = .ok (.aload_n 0, 1) := by decide +kernel
theorem dX8_ends_1 : decode cX8_ends 1 = .ok (.getfield 44, 3) := by decide +kernel
theorem dX8_ends_4 : decode cX8_ends 4 = .ok (.ifCond .eq 16, 3) := by decide +kernel
theorem dX8_ends_7 : decode cX8_ends 7 = .ok (.aload_n 0, 1) := by decide +kernel
theorem dX8_ends_8 : decode cX8_ends 8 = .ok (.getfield 16, 3) := by decide +kernel
theorem dX8_ends_11 : decode cX8_ends 11 = .ok (.aload_n 0, 1) := by decide +kernel
theorem dX8_ends_12 : decode cX8_ends 12 = .ok (.getfield 20, 3) := by decide +kernel
theorem dX8_ends_15 : decode cX8_ends 15 = .ok (.invokestatic 47, 3) := by decide +kernel
theorem dX8_ends_18 : decode cX8_ends 18 = .ok (.iconst 0, 1) := by decide +kernel
theorem dX8_ends_19 : decode cX8_ends 19 = .ok (.ireturn, 1) := by decide +kernel
theorem dX8_ends_20 : decode cX8_ends 20 = .ok (.aload_n 0, 1) := by decide +kernel
theorem dX8_ends_21 : decode cX8_ends 21 = .ok (.getfield 51, 3) := by decide +kernel
theorem dX8_ends_24 : decode cX8_ends 24 = .ok (.bipush 8, 2) := by decide +kernel
theorem dX8_ends_26 : decode cX8_ends 26 = .ok (.if_icmp .ne 44, 3) := by decide +kernel
theorem dX8_ends_29 : decode cX8_ends 29 = .ok (.iconst 0, 1) := by decide +kernel
theorem dX8_ends_30 : decode cX8_ends 30 = .ok (.istore_n 2, 1) := by decide +kernel
theorem dX8_ends_31 : decode cX8_ends 31 = .ok (.iload_n 2, 1) := by decide +kernel
theorem dX8_ends_32 : decode cX8_ends 32 = .ok (.sipush 1183, 3) := by decide +kernel
theorem dX8_ends_35 : decode cX8_ends 35 = .ok (.if_icmp .ge 25, 3) := by decide +kernel
theorem dX8_ends_38 : decode cX8_ends 38 = .ok (.aload_n 0, 1) := by decide +kernel
theorem dX8_ends_39 : decode cX8_ends 39 = .ok (.getfield 26, 3) := by decide +kernel
theorem dX8_ends_42 : decode cX8_ends 42 = .ok (.iload_n 2, 1) := by decide +kernel
theorem dX8_ends_43 : decode cX8_ends 43 = .ok (.aload_n 0, 1) := by decide +kernel
theorem dX8_ends_44 : decode cX8_ends 44 = .ok (.getfield 26, 3) := by decide +kernel
theorem dX8_ends_47 : decode cX8_ends 47 = .ok (.iload_n 2, 1) := by decide +kernel
theorem dX8_ends_48 : decode cX8_ends 48 = .ok (.sipush 169, 3) := by decide +kernel
theorem dX8_ends_51 : decode cX8_ends 51 = .ok (.iadd, 1) := by decide +kernel
theorem dX8_ends_52 : decode cX8_ends 52 = .ok (.iaload, 1) := by decide +kernel
theorem dX8_ends_53 : decode cX8_ends 53 = .ok (.iastore, 1) := by decide +kernel
theorem dX8_ends_54 : decode cX8_ends 54 = .ok (.iinc 2 1, 3) := by decide +kernel
theorem dX8_ends_57 : decode cX8_ends 57 = .ok (.goto (-26), 3) := by decide +kernel
theorem dX8_ends_60 : decode cX8_ends 60 = .ok (.aload_n 0, 1) := by decide +kernel
theorem dX8_ends_61 : decode cX8_ends 61 = .ok (.dup, 1) := by decide +kernel
theorem dX8_ends_62 : decode cX8_ends 62 = .ok (.getfield 51, 3) := by decide +kernel
theorem dX8_ends_65 : decode cX8_ends 65 = .ok (.iconst 1, 1) := by decide +kernel
theorem dX8_ends_66 : decode cX8_ends 66 = .ok (.isub, 1) := by decide +kernel
theorem dX8_ends_67 : decode cX8_ends 67 = .ok (.putfield 51, 3) := by decide +kernel
theorem dX8_ends_70 : decode cX8_ends 70 = .ok (.iconst 0, 1) := by decide +kernel
theorem dX8_ends_71 : decode cX8_ends 71 = .ok (.istore_n 2, 1) := by decide +kernel
theorem dX8_ends_72 : decode cX8_ends 72 = .ok (.iload_n 2, 1) := by decide +kernel
theorem dX8_ends_73 : decode cX8_ends 73 = .ok (.sipush 169, 3) := by decide +kernel
theorem dX8_ends_76 : decode cX8_ends 76 = .ok (.if_icmp .ge 30, 3) := by decide +kernel
theorem dX8_ends_79 : decode cX8_ends 79 = .ok (.aload_n 0, 1) := by decide +kernel
theorem dX8_ends_80 : decode cX8_ends 80 = .ok (.getfield 26, 3) := by decide +kernel
theorem dX8_ends_83 : decode cX8_ends 83 = .ok (.aload_n 0, 1) := by decide +kernel
theorem dX8_ends_84 : decode cX8_ends 84 = .ok (.getfield 51, 3) := by decide +kernel
theorem dX8_ends_87 : decode cX8_ends 87 = .ok (.sipush 169, 3) := by decide +kernel
theorem dX8_ends_90 : decode cX8_ends 90 = .ok (.imul, 1) := by decide +kernel
theorem dX8_ends_91 : decode cX8_ends 91 = .ok (.iload_n 2, 1) := by decide +kernel
theorem dX8_ends_92 : decode cX8_ends 92 = .ok (.iadd, 1) := by decide +kernel
theorem dX8_ends_93 : decode cX8_ends 93 = .ok (.aload_n 0, 1) := by decide +kernel
theorem dX8_ends_94 : decode cX8_ends 94 = .ok (.getfield 20, 3) := by decide +kernel
theorem dX8_ends_97 : decode cX8_ends 97 = .ok (.iload_n 2, 1) := by decide +kernel
theorem dX8_ends_98 : decode cX8_ends 98 = .ok (.iaload, 1) := by decide +kernel
theorem dX8_ends_99 : decode cX8_ends 99 = .ok (.iastore, 1) := by decide +kernel
theorem dX8_ends_100 : decode cX8_ends 100 = .ok (.iinc 2 1, 3) := by decide +kernel
theorem dX8_ends_103 : decode cX8_ends 103 = .ok (.goto (-31), 3) := by decide +kernel
theorem dX8_ends_106 : decode cX8_ends 106 = .ok (.aload_n 0, 1) := by decide +kernel
theorem dX8_ends_107 : decode cX8_ends 107 = .ok (.dup, 1) := by decide +kernel
theorem dX8_ends_108 : decode cX8_ends 108 = .ok (.getfield 51, 3) := by decide +kernel
theorem dX8_ends_111 : decode cX8_ends 111 = .ok (.iconst 1, 1) := by decide +kernel
theorem dX8_ends_112 : decode cX8_ends 112 = .ok (.iadd, 1) := by decide +kernel
theorem dX8_ends_113 : decode cX8_ends 113 = .ok (.putfield 51, 3) := by decide +kernel
theorem dX8_ends_116 : decode cX8_ends 116 = .ok (.iload_n 1, 1) := by decide +kernel
theorem dX8_ends_117 : decode cX8_ends 117 = .ok (.ireturn, 1) := by decide +kernel
theorem dX8_isMember_0 : decode cX8_isMember 0 = .ok (.iload_n 1, 1) := by decide +kernel
theorem dX8_isMember_1 : decode cX8_isMember 1 = .ok (.iconst 0, 1) := by decide +kernel
theorem dX8_isMember_2 : decode cX8_isMember 2 = .ok (.aload_n 0, 1) := by decide +kernel
theorem dX8_isMember_3 : decode cX8_isMember 3 = .ok (.getfield 16, 3) := by decide +kernel
theorem dX8_isMember_6 : decode cX8_isMember 6 = .ok (.iconst 0, 1) := by decide +kernel
theorem dX8_isMember_7 : decode cX8_isMember 7 = .ok (.iaload, 1) := by decide +kernel
theorem dX8_isMember_8 : decode cX8_isMember 8 = .ok (.iconst 1, 1) := by decide +kernel
theorem dX8_isMember_9 : decode cX8_isMember 9 = .ok (.isub, 1) := by decide +kernel
theorem dX8_isMember_10 : decode cX8_isMember 10 = .ok (.invokestatic 54, 3) := by decide +kernel
theorem dX8_isMember_13 : decode cX8_isMember 13 = .ok (.ireturn, 1) := by decide +kernel
theorem dX8_isRoof_0 : decode cX8_isRoof 0 = .ok (.iload_n 0, 1) := by decide +kernel
theorem dX8_isRoof_1 : decode cX8_isRoof 1 = .ok (.iconst 0, 1) := by decide +kernel
theorem dX8_isRoof_2 : decode cX8_isRoof 2 = .ok (.bipush 9, 2) := by decide +kernel
theorem dX8_isRoof_4 : decode cX8_isRoof 4 = .ok (.invokestatic 54, 3) := by decide +kernel
theorem dX8_isRoof_7 : decode cX8_isRoof 7 = .ok (.ireturn, 1) := by decide +kernel
theorem dX8_listed_0 : decode cX8_listed 0 = .ok (.sipush 129, 3) := by decide +kernel
theorem dX8_listed_3 : decode cX8_listed 3 = .ok (.iconst 4, 1) := by decide +kernel
theorem dX8_listed_4 : decode cX8_listed 4 = .ok (.iload_n 0, 1) := by decide +kernel
theorem dX8_listed_5 : decode cX8_listed 5 = .ok (.imul, 1) := by decide +kernel
theorem dX8_listed_6 : decode cX8_listed 6 = .ok (.iadd, 1) := by decide +kernel
theorem dX8_listed_7 : decode cX8_listed 7 = .ok (.iload_n 1, 1) := by decide +kernel
theorem dX8_listed_8 : decode cX8_listed 8 = .ok (.iadd, 1) := by decide +kernel
theorem dX8_listed_9 : decode cX8_listed 9 = .ok (.ireturn, 1) := by decide +kernel
theorem dX8_far_0 : decode cX8_far 0 = .ok (.iload_n 1, 1) := by decide +kernel
theorem dX8_far_1 : decode cX8_far 1 = .ok (.iload_n 0, 1) := by decide +kernel
theorem dX8_far_2 : decode cX8_far 2 = .ok (.isub, 1) := by decide +kernel
theorem dX8_far_3 : decode cX8_far 3 = .ok (.bipush 8, 2) := by decide +kernel
theorem dX8_far_5 : decode cX8_far 5 = .ok (.iadd, 1) := by decide +kernel
theorem dX8_far_6 : decode cX8_far 6 = .ok (.bipush 8, 2) := by decide +kernel
theorem dX8_far_8 : decode cX8_far 8 = .ok (.irem, 1) := by decide +kernel
theorem dX8_far_9 : decode cX8_far 9 = .ok (.istore_n 2, 1) := by decide +kernel
theorem dX8_far_10 : decode cX8_far 10 = .ok (.iload_n 2, 1) := by decide +kernel
theorem dX8_far_11 : decode cX8_far 11 = .ok (.iconst 4, 1) := by decide +kernel
theorem dX8_far_12 : decode cX8_far 12 = .ok (.if_icmp .le 10, 3) := by decide +kernel
theorem dX8_far_15 : decode cX8_far 15 = .ok (.bipush 8, 2) := by decide +kernel
theorem dX8_far_17 : decode cX8_far 17 = .ok (.iload_n 2, 1) := by decide +kernel
theorem dX8_far_18 : decode cX8_far 18 = .ok (.isub, 1) := by decide +kernel
theorem dX8_far_19 : decode cX8_far 19 = .ok (.goto 4, 3) := by decide +kernel
theorem dX8_far_22 : decode cX8_far 22 = .ok (.iload_n 2, 1) := by decide +kernel
theorem dX8_far_23 : decode cX8_far 23 = .ok (.ireturn, 1) := by decide +kernel
theorem dX8_adds_0 : decode cX8_adds 0 = .ok (.iload_n 1, 1) := by decide +kernel
theorem dX8_adds_1 : decode cX8_adds 1 = .ok (.invokestatic 58, 3) := by decide +kernel
theorem dX8_adds_4 : decode cX8_adds 4 = .ok (.ifCond .ne 9, 3) := by decide +kernel
theorem dX8_adds_7 : decode cX8_adds 7 = .ok (.aload_n 0, 1) := by decide +kernel
theorem dX8_adds_8 : decode cX8_adds 8 = .ok (.iconst 1, 1) := by decide +kernel
theorem dX8_adds_9 : decode cX8_adds 9 = .ok (.invokevirtual 62, 3) := by decide +kernel
theorem dX8_adds_12 : decode cX8_adds 12 = .ok (.ireturn, 1) := by decide +kernel
theorem dX8_adds_13 : decode cX8_adds 13 = .ok (.iload_n 2, 1) := by decide +kernel
theorem dX8_adds_14 : decode cX8_adds 14 = .ok (.iconst 1, 1) := by decide +kernel
theorem dX8_adds_15 : decode cX8_adds 15 = .ok (.bipush 20, 2) := by decide +kernel
theorem dX8_adds_17 : decode cX8_adds 17 = .ok (.invokestatic 54, 3) := by decide +kernel
theorem dX8_adds_20 : decode cX8_adds 20 = .ok (.ifCond .ne 9, 3) := by decide +kernel
theorem dX8_adds_23 : decode cX8_adds 23 = .ok (.aload_n 0, 1) := by decide +kernel
theorem dX8_adds_24 : decode cX8_adds 24 = .ok (.iconst 2, 1) := by decide +kernel
theorem dX8_adds_25 : decode cX8_adds 25 = .ok (.invokevirtual 62, 3) := by decide +kernel
theorem dX8_adds_28 : decode cX8_adds 28 = .ok (.ireturn, 1) := by decide +kernel
theorem dX8_adds_29 : decode cX8_adds 29 = .ok (.aload_n 0, 1) := by decide +kernel
theorem dX8_adds_30 : decode cX8_adds 30 = .ok (.getfield 16, 3) := by decide +kernel
theorem dX8_adds_33 : decode cX8_adds 33 = .ok (.iconst 0, 1) := by decide +kernel
theorem dX8_adds_34 : decode cX8_adds 34 = .ok (.iaload, 1) := by decide +kernel
theorem dX8_adds_35 : decode cX8_adds 35 = .ok (.istore_n 3, 1) := by decide +kernel
theorem dX8_adds_36 : decode cX8_adds 36 = .ok (.iload_n 3, 1) := by decide +kernel
theorem dX8_adds_37 : decode cX8_adds 37 = .ok (.bipush 12, 2) := by decide +kernel
theorem dX8_adds_39 : decode cX8_adds 39 = .ok (.if_icmp .ne 9, 3) := by decide +kernel
theorem dX8_adds_42 : decode cX8_adds 42 = .ok (.aload_n 0, 1) := by decide +kernel
theorem dX8_adds_43 : decode cX8_adds 43 = .ok (.iconst 3, 1) := by decide +kernel
theorem dX8_adds_44 : decode cX8_adds 44 = .ok (.invokevirtual 62, 3) := by decide +kernel
theorem dX8_adds_47 : decode cX8_adds 47 = .ok (.ireturn, 1) := by decide +kernel
theorem dX8_adds_48 : decode cX8_adds 48 = .ok (.aload_n 0, 1) := by decide +kernel
theorem dX8_adds_49 : decode cX8_adds 49 = .ok (.getfield 16, 3) := by decide +kernel
theorem dX8_adds_52 : decode cX8_adds 52 = .ok (.bipush 11, 2) := by decide +kernel
theorem dX8_adds_54 : decode cX8_adds 54 = .ok (.iload_n 3, 1) := by decide +kernel
theorem dX8_adds_55 : decode cX8_adds 55 = .ok (.iadd, 1) := by decide +kernel
theorem dX8_adds_56 : decode cX8_adds 56 = .ok (.iload_n 1, 1) := by decide +kernel
theorem dX8_adds_57 : decode cX8_adds 57 = .ok (.iastore, 1) := by decide +kernel
theorem dX8_adds_58 : decode cX8_adds 58 = .ok (.aload_n 0, 1) := by decide +kernel
theorem dX8_adds_59 : decode cX8_adds 59 = .ok (.getfield 16, 3) := by decide +kernel
theorem dX8_adds_62 : decode cX8_adds 62 = .ok (.bipush 23, 2) := by decide +kernel
theorem dX8_adds_64 : decode cX8_adds 64 = .ok (.iload_n 3, 1) := by decide +kernel
theorem dX8_adds_65 : decode cX8_adds 65 = .ok (.iadd, 1) := by decide +kernel
theorem dX8_adds_66 : decode cX8_adds 66 = .ok (.iload_n 2, 1) := by decide +kernel
theorem dX8_adds_67 : decode cX8_adds 67 = .ok (.iastore, 1) := by decide +kernel
theorem dX8_adds_68 : decode cX8_adds 68 = .ok (.aload_n 0, 1) := by decide +kernel
theorem dX8_adds_69 : decode cX8_adds 69 = .ok (.getfield 16, 3) := by decide +kernel
theorem dX8_adds_72 : decode cX8_adds 72 = .ok (.iconst 0, 1) := by decide +kernel
theorem dX8_adds_73 : decode cX8_adds 73 = .ok (.dup2, 1) := by decide +kernel
theorem dX8_adds_74 : decode cX8_adds 74 = .ok (.iaload, 1) := by decide +kernel
theorem dX8_adds_75 : decode cX8_adds 75 = .ok (.iconst 1, 1) := by decide +kernel
theorem dX8_adds_76 : decode cX8_adds 76 = .ok (.iadd, 1) := by decide +kernel
theorem dX8_adds_77 : decode cX8_adds 77 = .ok (.iastore, 1) := by decide +kernel
theorem dX8_adds_78 : decode cX8_adds 78 = .ok (.iload_n 3, 1) := by decide +kernel
theorem dX8_adds_79 : decode cX8_adds 79 = .ok (.ireturn, 1) := by decide +kernel
theorem dX8_addMember_0 : decode cX8_addMember 0 = .ok (.aload_n 0, 1) := by decide +kernel
theorem dX8_addMember_1 : decode cX8_addMember 1 = .ok (.invokevirtual 66, 3) := by decide +kernel
theorem dX8_addMember_4 : decode cX8_addMember 4 = .ok (.aload_n 0, 1) := by decide +kernel
theorem dX8_addMember_5 : decode cX8_addMember 5 = .ok (.aload_n 0, 1) := by decide +kernel
theorem dX8_addMember_6 : decode cX8_addMember 6 = .ok (.iload_n 1, 1) := by decide +kernel
theorem dX8_addMember_7 : decode cX8_addMember 7 = .ok (.iload_n 2, 1) := by decide +kernel
theorem dX8_addMember_8 : decode cX8_addMember 8 = .ok (.invokevirtual 69, 3) := by decide +kernel
theorem dX8_addMember_11 : decode cX8_addMember 11 = .ok (.invokevirtual 73, 3) := by decide +kernel
theorem dX8_addMember_14 : decode cX8_addMember 14 = .ok (.ireturn, 1) := by decide +kernel
theorem dX8_tells_0 : decode cX8_tells 0 = .ok (.aload_n 0, 1) := by decide +kernel
theorem dX8_tells_1 : decode cX8_tells 1 = .ok (.iconst 0, 1) := by decide +kernel
theorem dX8_tells_2 : decode cX8_tells 2 = .ok (.putfield 44, 3) := by decide +kernel
theorem dX8_tells_5 : decode cX8_tells 5 = .ok (.aload_n 0, 1) := by decide +kernel
theorem dX8_tells_6 : decode cX8_tells 6 = .ok (.getfield 16, 3) := by decide +kernel
theorem dX8_tells_9 : decode cX8_tells 9 = .ok (.iload_n 1, 1) := by decide +kernel
theorem dX8_tells_10 : decode cX8_tells 10 = .ok (.iaload, 1) := by decide +kernel
theorem dX8_tells_11 : decode cX8_tells 11 = .ok (.ireturn, 1) := by decide +kernel
theorem dX8_tellsOf_0 : decode cX8_tellsOf 0 = .ok (.aload_n 0, 1) := by decide +kernel
theorem dX8_tellsOf_1 : decode cX8_tellsOf 1 = .ok (.aload_n 0, 1) := by decide +kernel
theorem dX8_tellsOf_2 : decode cX8_tellsOf 2 = .ok (.iload_n 1, 1) := by decide +kernel
theorem dX8_tellsOf_3 : decode cX8_tellsOf 3 = .ok (.invokevirtual 76, 3) := by decide +kernel
theorem dX8_tellsOf_6 : decode cX8_tellsOf 6 = .ok (.ifCond .eq 7, 3) := by decide +kernel
theorem dX8_tellsOf_9 : decode cX8_tellsOf 9 = .ok (.iconst 0, 1) := by decide +kernel
theorem dX8_tellsOf_10 : decode cX8_tellsOf 10 = .ok (.goto 4, 3) := by decide +kernel
theorem dX8_tellsOf_13 : decode cX8_tellsOf 13 = .ok (.iconst 1, 1) := by decide +kernel
theorem dX8_tellsOf_14 : decode cX8_tellsOf 14 = .ok (.putfield 44, 3) := by decide +kernel
theorem dX8_tellsOf_17 : decode cX8_tellsOf 17 = .ok (.aload_n 0, 1) := by decide +kernel
theorem dX8_tellsOf_18 : decode cX8_tellsOf 18 = .ok (.getfield 44, 3) := by decide +kernel
theorem dX8_tellsOf_21 : decode cX8_tellsOf 21 = .ok (.ifCond .ne 14, 3) := by decide +kernel
theorem dX8_tellsOf_24 : decode cX8_tellsOf 24 = .ok (.aload_n 0, 1) := by decide +kernel
theorem dX8_tellsOf_25 : decode cX8_tellsOf 25 = .ok (.getfield 16, 3) := by decide +kernel
theorem dX8_tellsOf_28 : decode cX8_tellsOf 28 = .ok (.iload_n 2, 1) := by decide +kernel
theorem dX8_tellsOf_29 : decode cX8_tellsOf 29 = .ok (.iload_n 1, 1) := by decide +kernel
theorem dX8_tellsOf_30 : decode cX8_tellsOf 30 = .ok (.iadd, 1) := by decide +kernel
theorem dX8_tellsOf_31 : decode cX8_tellsOf 31 = .ok (.iaload, 1) := by decide +kernel
theorem dX8_tellsOf_32 : decode cX8_tellsOf 32 = .ok (.goto 4, 3) := by decide +kernel
theorem dX8_tellsOf_35 : decode cX8_tellsOf 35 = .ok (.iconst 0, 1) := by decide +kernel
theorem dX8_tellsOf_36 : decode cX8_tellsOf 36 = .ok (.ireturn, 1) := by decide +kernel
theorem dX8_memberCount_0 : decode cX8_memberCount 0 = .ok (.aload_n 0, 1) := by decide +kernel
theorem dX8_memberCount_1 : decode cX8_memberCount 1 = .ok (.iconst 0, 1) := by decide +kernel
theorem dX8_memberCount_2 : decode cX8_memberCount 2 = .ok (.invokevirtual 79, 3) := by decide +kernel
theorem dX8_memberCount_5 : decode cX8_memberCount 5 = .ok (.ireturn, 1) := by decide +kernel
theorem dX8_roofOf_0 : decode cX8_roofOf 0 = .ok (.aload_n 0, 1) := by decide +kernel
theorem dX8_roofOf_1 : decode cX8_roofOf 1 = .ok (.iload_n 1, 1) := by decide +kernel
theorem dX8_roofOf_2 : decode cX8_roofOf 2 = .ok (.bipush 11, 2) := by decide +kernel
theorem dX8_roofOf_4 : decode cX8_roofOf 4 = .ok (.invokevirtual 82, 3) := by decide +kernel
theorem dX8_roofOf_7 : decode cX8_roofOf 7 = .ok (.ireturn, 1) := by decide +kernel
theorem dX8_membersOn_0 : decode cX8_membersOn 0 = .ok (.aload_n 0, 1) := by decide +kernel
theorem dX8_membersOn_1 : decode cX8_membersOn 1 = .ok (.iload_n 1, 1) := by decide +kernel
theorem dX8_membersOn_2 : decode cX8_membersOn 2 = .ok (.invokestatic 58, 3) := by decide +kernel
theorem dX8_membersOn_5 : decode cX8_membersOn 5 = .ok (.ifCond .eq 7, 3) := by decide +kernel
theorem dX8_membersOn_8 : decode cX8_membersOn 8 = .ok (.iconst 0, 1) := by decide +kernel
theorem dX8_membersOn_9 : decode cX8_membersOn 9 = .ok (.goto 4, 3) := by decide +kernel
theorem dX8_membersOn_12 : decode cX8_membersOn 12 = .ok (.iconst 1, 1) := by decide +kernel
theorem dX8_membersOn_13 : decode cX8_membersOn 13 = .ok (.putfield 44, 3) := by decide +kernel
theorem dX8_membersOn_16 : decode cX8_membersOn 16 = .ok (.iconst 0, 1) := by decide +kernel
theorem dX8_membersOn_17 : decode cX8_membersOn 17 = .ok (.istore_n 2, 1) := by decide +kernel
theorem dX8_membersOn_18 : decode cX8_membersOn 18 = .ok (.iconst 0, 1) := by decide +kernel
theorem dX8_membersOn_19 : decode cX8_membersOn 19 = .ok (.istore_n 3, 1) := by decide +kernel
theorem dX8_membersOn_20 : decode cX8_membersOn 20 = .ok (.iload_n 3, 1) := by decide +kernel
theorem dX8_membersOn_21 : decode cX8_membersOn 21 = .ok (.aload_n 0, 1) := by decide +kernel
theorem dX8_membersOn_22 : decode cX8_membersOn 22 = .ok (.getfield 16, 3) := by decide +kernel
theorem dX8_membersOn_25 : decode cX8_membersOn 25 = .ok (.iconst 0, 1) := by decide +kernel
theorem dX8_membersOn_26 : decode cX8_membersOn 26 = .ok (.iaload, 1) := by decide +kernel
theorem dX8_membersOn_27 : decode cX8_membersOn 27 = .ok (.if_icmp .ge 30, 3) := by decide +kernel
theorem dX8_membersOn_30 : decode cX8_membersOn 30 = .ok (.iload_n 2, 1) := by decide +kernel
theorem dX8_membersOn_31 : decode cX8_membersOn 31 = .ok (.aload_n 0, 1) := by decide +kernel
theorem dX8_membersOn_32 : decode cX8_membersOn 32 = .ok (.getfield 16, 3) := by decide +kernel
theorem dX8_membersOn_35 : decode cX8_membersOn 35 = .ok (.bipush 11, 2) := by decide +kernel
theorem dX8_membersOn_37 : decode cX8_membersOn 37 = .ok (.iload_n 3, 1) := by decide +kernel
theorem dX8_membersOn_38 : decode cX8_membersOn 38 = .ok (.iadd, 1) := by decide +kernel
theorem dX8_membersOn_39 : decode cX8_membersOn 39 = .ok (.iaload, 1) := by decide +kernel
theorem dX8_membersOn_40 : decode cX8_membersOn 40 = .ok (.iload_n 1, 1) := by decide +kernel
theorem dX8_membersOn_41 : decode cX8_membersOn 41 = .ok (.if_icmp .ne 7, 3) := by decide +kernel
theorem dX8_membersOn_44 : decode cX8_membersOn 44 = .ok (.iconst 1, 1) := by decide +kernel
theorem dX8_membersOn_45 : decode cX8_membersOn 45 = .ok (.goto 4, 3) := by decide +kernel
theorem dX8_membersOn_48 : decode cX8_membersOn 48 = .ok (.iconst 0, 1) := by decide +kernel
theorem dX8_membersOn_49 : decode cX8_membersOn 49 = .ok (.iadd, 1) := by decide +kernel
theorem dX8_membersOn_50 : decode cX8_membersOn 50 = .ok (.istore_n 2, 1) := by decide +kernel
theorem dX8_membersOn_51 : decode cX8_membersOn 51 = .ok (.iinc 3 1, 3) := by decide +kernel
theorem dX8_membersOn_54 : decode cX8_membersOn 54 = .ok (.goto (-34), 3) := by decide +kernel
theorem dX8_membersOn_57 : decode cX8_membersOn 57 = .ok (.aload_n 0, 1) := by decide +kernel
theorem dX8_membersOn_58 : decode cX8_membersOn 58 = .ok (.getfield 44, 3) := by decide +kernel
theorem dX8_membersOn_61 : decode cX8_membersOn 61 = .ok (.ifCond .ne 7, 3) := by decide +kernel
theorem dX8_membersOn_64 : decode cX8_membersOn 64 = .ok (.iload_n 2, 1) := by decide +kernel
theorem dX8_membersOn_65 : decode cX8_membersOn 65 = .ok (.goto 4, 3) := by decide +kernel
theorem dX8_membersOn_68 : decode cX8_membersOn 68 = .ok (.iconst 0, 1) := by decide +kernel
theorem dX8_membersOn_69 : decode cX8_membersOn 69 = .ok (.ireturn, 1) := by decide +kernel
theorem dX8_rateOf_0 : decode cX8_rateOf 0 = .ok (.aload_n 0, 1) := by decide +kernel
theorem dX8_rateOf_1 : decode cX8_rateOf 1 = .ok (.iload_n 1, 1) := by decide +kernel
theorem dX8_rateOf_2 : decode cX8_rateOf 2 = .ok (.bipush 23, 2) := by decide +kernel
theorem dX8_rateOf_4 : decode cX8_rateOf 4 = .ok (.invokevirtual 82, 3) := by decide +kernel
theorem dX8_rateOf_7 : decode cX8_rateOf 7 = .ok (.ireturn, 1) := by decide +kernel
theorem dX8_bearingOf_0 : decode cX8_bearingOf 0 = .ok (.aload_n 0, 1) := by decide +kernel
theorem dX8_bearingOf_1 : decode cX8_bearingOf 1 = .ok (.iload_n 1, 1) := by decide +kernel
theorem dX8_bearingOf_2 : decode cX8_bearingOf 2 = .ok (.bipush 35, 2) := by decide +kernel
theorem dX8_bearingOf_4 : decode cX8_bearingOf 4 = .ok (.invokevirtual 82, 3) := by decide +kernel
theorem dX8_bearingOf_7 : decode cX8_bearingOf 7 = .ok (.ireturn, 1) := by decide +kernel
theorem dX8_wagesOf_0 : decode cX8_wagesOf 0 = .ok (.aload_n 0, 1) := by decide +kernel
theorem dX8_wagesOf_1 : decode cX8_wagesOf 1 = .ok (.iload_n 1, 1) := by decide +kernel
theorem dX8_wagesOf_2 : decode cX8_wagesOf 2 = .ok (.bipush 47, 2) := by decide +kernel
theorem dX8_wagesOf_4 : decode cX8_wagesOf 4 = .ok (.invokevirtual 82, 3) := by decide +kernel
theorem dX8_wagesOf_7 : decode cX8_wagesOf 7 = .ok (.ireturn, 1) := by decide +kernel
theorem dX8_supportOf_0 : decode cX8_supportOf 0 = .ok (.aload_n 0, 1) := by decide +kernel
theorem dX8_supportOf_1 : decode cX8_supportOf 1 = .ok (.iload_n 1, 1) := by decide +kernel
theorem dX8_supportOf_2 : decode cX8_supportOf 2 = .ok (.bipush 59, 2) := by decide +kernel
theorem dX8_supportOf_4 : decode cX8_supportOf 4 = .ok (.invokevirtual 82, 3) := by decide +kernel
theorem dX8_supportOf_7 : decode cX8_supportOf 7 = .ok (.ireturn, 1) := by decide +kernel
theorem dX8_lostShifts_0 : decode cX8_lostShifts 0 = .ok (.aload_n 0, 1) := by decide +kernel
theorem dX8_lostShifts_1 : decode cX8_lostShifts 1 = .ok (.iload_n 1, 1) := by decide +kernel
theorem dX8_lostShifts_2 : decode cX8_lostShifts 2 = .ok (.bipush 71, 2) := by decide +kernel
theorem dX8_lostShifts_4 : decode cX8_lostShifts 4 = .ok (.invokevirtual 82, 3) := by decide +kernel
theorem dX8_lostShifts_7 : decode cX8_lostShifts 7 = .ok (.ireturn, 1) := by decide +kernel
theorem dX8_lostDays_0 : decode cX8_lostDays 0 = .ok (.aload_n 0, 1) := by decide +kernel
theorem dX8_lostDays_1 : decode cX8_lostDays 1 = .ok (.iload_n 1, 1) := by decide +kernel
theorem dX8_lostDays_2 : decode cX8_lostDays 2 = .ok (.bipush 71, 2) := by decide +kernel
theorem dX8_lostDays_4 : decode cX8_lostDays 4 = .ok (.invokevirtual 82, 3) := by decide +kernel
theorem dX8_lostDays_7 : decode cX8_lostDays 7 = .ok (.i2f, 1) := by decide +kernel
theorem dX8_lostDays_8 : decode cX8_lostDays 8 = .ok (.ldc 85, 2) := by decide +kernel
theorem dX8_lostDays_10 : decode cX8_lostDays 10 = .ok (.fdiv, 1) := by decide +kernel
theorem dX8_lostDays_11 : decode cX8_lostDays 11 = .ok (.freturn, 1) := by decide +kernel
theorem dX8_dutiesOf_0 : decode cX8_dutiesOf 0 = .ok (.aload_n 0, 1) := by decide +kernel
theorem dX8_dutiesOf_1 : decode cX8_dutiesOf 1 = .ok (.iload_n 1, 1) := by decide +kernel
theorem dX8_dutiesOf_2 : decode cX8_dutiesOf 2 = .ok (.bipush 83, 2) := by decide +kernel
theorem dX8_dutiesOf_4 : decode cX8_dutiesOf 4 = .ok (.invokevirtual 82, 3) := by decide +kernel
theorem dX8_dutiesOf_7 : decode cX8_dutiesOf 7 = .ok (.ireturn, 1) := by decide +kernel
theorem dX8_memberAtRank_0 : decode cX8_memberAtRank 0 = .ok (.aload_n 0, 1) := by decide +kernel
theorem dX8_memberAtRank_1 : decode cX8_memberAtRank 1 = .ok (.iconst 0, 1) := by decide +kernel
theorem dX8_memberAtRank_2 : decode cX8_memberAtRank 2 = .ok (.putfield 44, 3) := by decide +kernel
theorem dX8_memberAtRank_5 : decode cX8_memberAtRank 5 = .ok (.iconst 0, 1) := by decide +kernel
theorem dX8_memberAtRank_6 : decode cX8_memberAtRank 6 = .ok (.istore_n 2, 1) := by decide +kernel
theorem dX8_memberAtRank_7 : decode cX8_memberAtRank 7 = .ok (.iload_n 2, 1) := by decide +kernel
theorem dX8_memberAtRank_8 : decode cX8_memberAtRank 8 = .ok (.aload_n 0, 1) := by decide +kernel
theorem dX8_memberAtRank_9 : decode cX8_memberAtRank 9 = .ok (.getfield 16, 3) := by decide +kernel
theorem dX8_memberAtRank_12 : decode cX8_memberAtRank 12 = .ok (.iconst 0, 1) := by decide +kernel
theorem dX8_memberAtRank_13 : decode cX8_memberAtRank 13 = .ok (.iaload, 1) := by decide +kernel
theorem dX8_memberAtRank_14 : decode cX8_memberAtRank 14 = .ok (.if_icmp .ge 168, 3) := by decide +kernel
theorem dX8_memberAtRank_17 : decode cX8_memberAtRank 17 = .ok (.iconst 0, 1) := by decide +kernel
theorem dX8_memberAtRank_18 : decode cX8_memberAtRank 18 = .ok (.istore_n 3, 1) := by decide +kernel
theorem dX8_memberAtRank_19 : decode cX8_memberAtRank 19 = .ok (.iconst 0, 1) := by decide +kernel
theorem dX8_memberAtRank_20 : decode cX8_memberAtRank 20 = .ok (.istore 4, 2) := by decide +kernel
theorem dX8_memberAtRank_22 : decode cX8_memberAtRank 22 = .ok (.iload 4, 2) := by decide +kernel
theorem dX8_memberAtRank_24 : decode cX8_memberAtRank 24 = .ok (.aload_n 0, 1) := by decide +kernel
theorem dX8_memberAtRank_25 : decode cX8_memberAtRank 25 = .ok (.getfield 16, 3) := by decide +kernel
theorem dX8_memberAtRank_28 : decode cX8_memberAtRank 28 = .ok (.iconst 0, 1) := by decide +kernel
theorem dX8_memberAtRank_29 : decode cX8_memberAtRank 29 = .ok (.iaload, 1) := by decide +kernel
theorem dX8_memberAtRank_30 : decode cX8_memberAtRank 30 = .ok (.if_icmp .ge 139, 3) := by decide +kernel
theorem dX8_memberAtRank_33 : decode cX8_memberAtRank 33 = .ok (.aload_n 0, 1) := by decide +kernel
theorem dX8_memberAtRank_34 : decode cX8_memberAtRank 34 = .ok (.getfield 16, 3) := by decide +kernel
theorem dX8_memberAtRank_37 : decode cX8_memberAtRank 37 = .ok (.bipush 47, 2) := by decide +kernel
theorem dX8_memberAtRank_39 : decode cX8_memberAtRank 39 = .ok (.iload 4, 2) := by decide +kernel
theorem dX8_memberAtRank_41 : decode cX8_memberAtRank 41 = .ok (.iadd, 1) := by decide +kernel
theorem dX8_memberAtRank_42 : decode cX8_memberAtRank 42 = .ok (.iaload, 1) := by decide +kernel
theorem dX8_memberAtRank_43 : decode cX8_memberAtRank 43 = .ok (.aload_n 0, 1) := by decide +kernel
theorem dX8_memberAtRank_44 : decode cX8_memberAtRank 44 = .ok (.getfield 16, 3) := by decide +kernel
theorem dX8_memberAtRank_47 : decode cX8_memberAtRank 47 = .ok (.bipush 47, 2) := by decide +kernel
theorem dX8_memberAtRank_49 : decode cX8_memberAtRank 49 = .ok (.iload_n 2, 1) := by decide +kernel
theorem dX8_memberAtRank_50 : decode cX8_memberAtRank 50 = .ok (.iadd, 1) := by decide +kernel
theorem dX8_memberAtRank_51 : decode cX8_memberAtRank 51 = .ok (.iaload, 1) := by decide +kernel
theorem dX8_memberAtRank_52 : decode cX8_memberAtRank 52 = .ok (.if_icmp .eq 33, 3) := by decide +kernel
theorem dX8_memberAtRank_55 : decode cX8_memberAtRank 55 = .ok (.aload_n 0, 1) := by decide +kernel
theorem dX8_memberAtRank_56 : decode cX8_memberAtRank 56 = .ok (.getfield 16, 3) := by decide +kernel
theorem dX8_memberAtRank_59 : decode cX8_memberAtRank 59 = .ok (.bipush 47, 2) := by decide +kernel
theorem dX8_memberAtRank_61 : decode cX8_memberAtRank 61 = .ok (.iload 4, 2) := by decide +kernel
theorem dX8_memberAtRank_63 : decode cX8_memberAtRank 63 = .ok (.iadd, 1) := by decide +kernel
theorem dX8_memberAtRank_64 : decode cX8_memberAtRank 64 = .ok (.iaload, 1) := by decide +kernel
theorem dX8_memberAtRank_65 : decode cX8_memberAtRank 65 = .ok (.aload_n 0, 1) := by decide +kernel
theorem dX8_memberAtRank_66 : decode cX8_memberAtRank 66 = .ok (.getfield 16, 3) := by decide +kernel
theorem dX8_memberAtRank_69 : decode cX8_memberAtRank 69 = .ok (.bipush 47, 2) := by decide +kernel
theorem dX8_memberAtRank_71 : decode cX8_memberAtRank 71 = .ok (.iload_n 2, 1) := by decide +kernel
theorem dX8_memberAtRank_72 : decode cX8_memberAtRank 72 = .ok (.iadd, 1) := by decide +kernel
theorem dX8_memberAtRank_73 : decode cX8_memberAtRank 73 = .ok (.iaload, 1) := by decide +kernel
theorem dX8_memberAtRank_74 : decode cX8_memberAtRank 74 = .ok (.if_icmp .le 7, 3) := by decide +kernel
theorem dX8_memberAtRank_77 : decode cX8_memberAtRank 77 = .ok (.iconst 1, 1) := by decide +kernel
theorem dX8_memberAtRank_78 : decode cX8_memberAtRank 78 = .ok (.goto 70, 3) := by decide +kernel
theorem dX8_memberAtRank_81 : decode cX8_memberAtRank 81 = .ok (.iconst 0, 1) := by decide +kernel
theorem dX8_memberAtRank_82 : decode cX8_memberAtRank 82 = .ok (.goto 66, 3) := by decide +kernel
theorem dX8_memberAtRank_85 : decode cX8_memberAtRank 85 = .ok (.aload_n 0, 1) := by decide +kernel
theorem dX8_memberAtRank_86 : decode cX8_memberAtRank 86 = .ok (.getfield 16, 3) := by decide +kernel
theorem dX8_memberAtRank_89 : decode cX8_memberAtRank 89 = .ok (.bipush 71, 2) := by decide +kernel
theorem dX8_memberAtRank_91 : decode cX8_memberAtRank 91 = .ok (.iload 4, 2) := by decide +kernel
theorem dX8_memberAtRank_93 : decode cX8_memberAtRank 93 = .ok (.iadd, 1) := by decide +kernel
theorem dX8_memberAtRank_94 : decode cX8_memberAtRank 94 = .ok (.iaload, 1) := by decide +kernel
theorem dX8_memberAtRank_95 : decode cX8_memberAtRank 95 = .ok (.aload_n 0, 1) := by decide +kernel
theorem dX8_memberAtRank_96 : decode cX8_memberAtRank 96 = .ok (.getfield 16, 3) := by decide +kernel
theorem dX8_memberAtRank_99 : decode cX8_memberAtRank 99 = .ok (.bipush 71, 2) := by decide +kernel
theorem dX8_memberAtRank_101 : decode cX8_memberAtRank 101 = .ok (.iload_n 2, 1) := by decide +kernel
theorem dX8_memberAtRank_102 : decode cX8_memberAtRank 102 = .ok (.iadd, 1) := by decide +kernel
theorem dX8_memberAtRank_103 : decode cX8_memberAtRank 103 = .ok (.iaload, 1) := by decide +kernel
theorem dX8_memberAtRank_104 : decode cX8_memberAtRank 104 = .ok (.if_icmp .eq 33, 3) := by decide +kernel
theorem dX8_memberAtRank_107 : decode cX8_memberAtRank 107 = .ok (.aload_n 0, 1) := by decide +kernel
theorem dX8_memberAtRank_108 : decode cX8_memberAtRank 108 = .ok (.getfield 16, 3) := by decide +kernel
theorem dX8_memberAtRank_111 : decode cX8_memberAtRank 111 = .ok (.bipush 71, 2) := by decide +kernel
theorem dX8_memberAtRank_113 : decode cX8_memberAtRank 113 = .ok (.iload 4, 2) := by decide +kernel
theorem dX8_memberAtRank_115 : decode cX8_memberAtRank 115 = .ok (.iadd, 1) := by decide +kernel
theorem dX8_memberAtRank_116 : decode cX8_memberAtRank 116 = .ok (.iaload, 1) := by decide +kernel
theorem dX8_memberAtRank_117 : decode cX8_memberAtRank 117 = .ok (.aload_n 0, 1) := by decide +kernel
theorem dX8_memberAtRank_118 : decode cX8_memberAtRank 118 = .ok (.getfield 16, 3) := by decide +kernel
theorem dX8_memberAtRank_121 : decode cX8_memberAtRank 121 = .ok (.bipush 71, 2) := by decide +kernel
theorem dX8_memberAtRank_123 : decode cX8_memberAtRank 123 = .ok (.iload_n 2, 1) := by decide +kernel
theorem dX8_memberAtRank_124 : decode cX8_memberAtRank 124 = .ok (.iadd, 1) := by decide +kernel
theorem dX8_memberAtRank_125 : decode cX8_memberAtRank 125 = .ok (.iaload, 1) := by decide +kernel
theorem dX8_memberAtRank_126 : decode cX8_memberAtRank 126 = .ok (.if_icmp .ge 7, 3) := by decide +kernel
theorem dX8_memberAtRank_129 : decode cX8_memberAtRank 129 = .ok (.iconst 1, 1) := by decide +kernel
theorem dX8_memberAtRank_130 : decode cX8_memberAtRank 130 = .ok (.goto 18, 3) := by decide +kernel
theorem dX8_memberAtRank_133 : decode cX8_memberAtRank 133 = .ok (.iconst 0, 1) := by decide +kernel
theorem dX8_memberAtRank_134 : decode cX8_memberAtRank 134 = .ok (.goto 14, 3) := by decide +kernel
theorem dX8_memberAtRank_137 : decode cX8_memberAtRank 137 = .ok (.iload 4, 2) := by decide +kernel
theorem dX8_memberAtRank_139 : decode cX8_memberAtRank 139 = .ok (.iload_n 2, 1) := by decide +kernel
theorem dX8_memberAtRank_140 : decode cX8_memberAtRank 140 = .ok (.if_icmp .ge 7, 3) := by decide +kernel
theorem dX8_memberAtRank_143 : decode cX8_memberAtRank 143 = .ok (.iconst 1, 1) := by decide +kernel
theorem dX8_memberAtRank_144 : decode cX8_memberAtRank 144 = .ok (.goto 4, 3) := by decide +kernel
theorem dX8_memberAtRank_147 : decode cX8_memberAtRank 147 = .ok (.iconst 0, 1) := by decide +kernel
theorem dX8_memberAtRank_148 : decode cX8_memberAtRank 148 = .ok (.istore 5, 2) := by decide +kernel
theorem dX8_memberAtRank_150 : decode cX8_memberAtRank 150 = .ok (.iload_n 3, 1) := by decide +kernel
theorem dX8_memberAtRank_151 : decode cX8_memberAtRank 151 = .ok (.iload 5, 2) := by decide +kernel
theorem dX8_memberAtRank_153 : decode cX8_memberAtRank 153 = .ok (.ifCond .eq 7, 3) := by decide +kernel
theorem dX8_memberAtRank_156 : decode cX8_memberAtRank 156 = .ok (.iconst 1, 1) := by decide +kernel
theorem dX8_memberAtRank_157 : decode cX8_memberAtRank 157 = .ok (.goto 4, 3) := by decide +kernel
theorem dX8_memberAtRank_160 : decode cX8_memberAtRank 160 = .ok (.iconst 0, 1) := by decide +kernel
theorem dX8_memberAtRank_161 : decode cX8_memberAtRank 161 = .ok (.iadd, 1) := by decide +kernel
theorem dX8_memberAtRank_162 : decode cX8_memberAtRank 162 = .ok (.istore_n 3, 1) := by decide +kernel
theorem dX8_memberAtRank_163 : decode cX8_memberAtRank 163 = .ok (.iinc 4 1, 3) := by decide +kernel
theorem dX8_memberAtRank_166 : decode cX8_memberAtRank 166 = .ok (.goto (-144), 3) := by decide +kernel
theorem dX8_memberAtRank_169 : decode cX8_memberAtRank 169 = .ok (.iload_n 3, 1) := by decide +kernel
theorem dX8_memberAtRank_170 : decode cX8_memberAtRank 170 = .ok (.iload_n 1, 1) := by decide +kernel
theorem dX8_memberAtRank_171 : decode cX8_memberAtRank 171 = .ok (.if_icmp .ne 5, 3) := by decide +kernel
theorem dX8_memberAtRank_174 : decode cX8_memberAtRank 174 = .ok (.iload_n 2, 1) := by decide +kernel
theorem dX8_memberAtRank_175 : decode cX8_memberAtRank 175 = .ok (.ireturn, 1) := by decide +kernel
theorem dX8_memberAtRank_176 : decode cX8_memberAtRank 176 = .ok (.iinc 2 1, 3) := by decide +kernel
theorem dX8_memberAtRank_179 : decode cX8_memberAtRank 179 = .ok (.goto (-172), 3) := by decide +kernel
theorem dX8_memberAtRank_182 : decode cX8_memberAtRank 182 = .ok (.aload_n 0, 1) := by decide +kernel
theorem dX8_memberAtRank_183 : decode cX8_memberAtRank 183 = .ok (.iconst 1, 1) := by decide +kernel
theorem dX8_memberAtRank_184 : decode cX8_memberAtRank 184 = .ok (.invokevirtual 62, 3) := by decide +kernel
theorem dX8_memberAtRank_187 : decode cX8_memberAtRank 187 = .ok (.ireturn, 1) := by decide +kernel
theorem dX8_blows_0 : decode cX8_blows 0 = .ok (.iload_n 1, 1) := by decide +kernel
theorem dX8_blows_1 : decode cX8_blows 1 = .ok (.iconst 0, 1) := by decide +kernel
theorem dX8_blows_2 : decode cX8_blows 2 = .ok (.bipush 7, 2) := by decide +kernel
theorem dX8_blows_4 : decode cX8_blows 4 = .ok (.invokestatic 54, 3) := by decide +kernel
theorem dX8_blows_7 : decode cX8_blows 7 = .ok (.ifCond .eq 13, 3) := by decide +kernel
theorem dX8_blows_10 : decode cX8_blows 10 = .ok (.iload_n 2, 1) := by decide +kernel
theorem dX8_blows_11 : decode cX8_blows 11 = .ok (.iconst 0, 1) := by decide +kernel
theorem dX8_blows_12 : decode cX8_blows 12 = .ok (.bipush 12, 2) := by decide +kernel
theorem dX8_blows_14 : decode cX8_blows 14 = .ok (.invokestatic 54, 3) := by decide +kernel
theorem dX8_blows_17 : decode cX8_blows 17 = .ok (.ifCond .ne 9, 3) := by decide +kernel
theorem dX8_blows_20 : decode cX8_blows 20 = .ok (.aload_n 0, 1) := by decide +kernel
theorem dX8_blows_21 : decode cX8_blows 21 = .ok (.iconst 1, 1) := by decide +kernel
theorem dX8_blows_22 : decode cX8_blows 22 = .ok (.invokevirtual 62, 3) := by decide +kernel
theorem dX8_blows_25 : decode cX8_blows 25 = .ok (.ireturn, 1) := by decide +kernel
theorem dX8_blows_26 : decode cX8_blows 26 = .ok (.aload_n 0, 1) := by decide +kernel
theorem dX8_blows_27 : decode cX8_blows 27 = .ok (.getfield 16, 3) := by decide +kernel
theorem dX8_blows_30 : decode cX8_blows 30 = .ok (.iconst 1, 1) := by decide +kernel
theorem dX8_blows_31 : decode cX8_blows 31 = .ok (.iaload, 1) := by decide +kernel
theorem dX8_blows_32 : decode cX8_blows 32 = .ok (.istore_n 3, 1) := by decide +kernel
theorem dX8_blows_33 : decode cX8_blows 33 = .ok (.aload_n 0, 1) := by decide +kernel
theorem dX8_blows_34 : decode cX8_blows 34 = .ok (.getfield 16, 3) := by decide +kernel
theorem dX8_blows_37 : decode cX8_blows 37 = .ok (.iconst 1, 1) := by decide +kernel
theorem dX8_blows_38 : decode cX8_blows 38 = .ok (.iload_n 1, 1) := by decide +kernel
theorem dX8_blows_39 : decode cX8_blows 39 = .ok (.iastore, 1) := by decide +kernel
theorem dX8_blows_40 : decode cX8_blows 40 = .ok (.aload_n 0, 1) := by decide +kernel
theorem dX8_blows_41 : decode cX8_blows 41 = .ok (.getfield 16, 3) := by decide +kernel
theorem dX8_blows_44 : decode cX8_blows 44 = .ok (.iconst 2, 1) := by decide +kernel
theorem dX8_blows_45 : decode cX8_blows 45 = .ok (.iload_n 2, 1) := by decide +kernel
theorem dX8_blows_46 : decode cX8_blows 46 = .ok (.iastore, 1) := by decide +kernel
theorem dX8_blows_47 : decode cX8_blows 47 = .ok (.iload_n 3, 1) := by decide +kernel
theorem dX8_blows_48 : decode cX8_blows 48 = .ok (.iload_n 1, 1) := by decide +kernel
theorem dX8_blows_49 : decode cX8_blows 49 = .ok (.invokestatic 86, 3) := by decide +kernel
theorem dX8_blows_52 : decode cX8_blows 52 = .ok (.ireturn, 1) := by decide +kernel
theorem dX8_setWind_0 : decode cX8_setWind 0 = .ok (.aload_n 0, 1) := by decide +kernel
theorem dX8_setWind_1 : decode cX8_setWind 1 = .ok (.invokevirtual 66, 3) := by decide +kernel
theorem dX8_setWind_4 : decode cX8_setWind 4 = .ok (.aload_n 0, 1) := by decide +kernel
theorem dX8_setWind_5 : decode cX8_setWind 5 = .ok (.aload_n 0, 1) := by decide +kernel
theorem dX8_setWind_6 : decode cX8_setWind 6 = .ok (.iload_n 1, 1) := by decide +kernel
theorem dX8_setWind_7 : decode cX8_setWind 7 = .ok (.iload_n 2, 1) := by decide +kernel
theorem dX8_setWind_8 : decode cX8_setWind 8 = .ok (.invokevirtual 89, 3) := by decide +kernel
theorem dX8_setWind_11 : decode cX8_setWind 11 = .ok (.invokevirtual 73, 3) := by decide +kernel
theorem dX8_setWind_14 : decode cX8_setWind 14 = .ok (.ireturn, 1) := by decide +kernel
theorem dX8_windDirection_0 : decode cX8_windDirection 0 = .ok (.aload_n 0, 1) := by decide +kernel
theorem dX8_windDirection_1 : decode cX8_windDirection 1 = .ok (.iconst 1, 1) := by decide +kernel
theorem dX8_windDirection_2 : decode cX8_windDirection 2 = .ok (.invokevirtual 79, 3) := by decide +kernel
theorem dX8_windDirection_5 : decode cX8_windDirection 5 = .ok (.ireturn, 1) := by decide +kernel
theorem dX8_windSpeed_0 : decode cX8_windSpeed 0 = .ok (.aload_n 0, 1) := by decide +kernel
theorem dX8_windSpeed_1 : decode cX8_windSpeed 1 = .ok (.iconst 2, 1) := by decide +kernel
theorem dX8_windSpeed_2 : decode cX8_windSpeed 2 = .ok (.invokevirtual 79, 3) := by decide +kernel
theorem dX8_windSpeed_5 : decode cX8_windSpeed 5 = .ok (.ireturn, 1) := by decide +kernel
theorem dX8_stepsToWind_0 : decode cX8_stepsToWind 0 = .ok (.aload_n 0, 1) := by decide +kernel
theorem dX8_stepsToWind_1 : decode cX8_stepsToWind 1 = .ok (.aload_n 0, 1) := by decide +kernel
theorem dX8_stepsToWind_2 : decode cX8_stepsToWind 2 = .ok (.iload_n 1, 1) := by decide +kernel
theorem dX8_stepsToWind_3 : decode cX8_stepsToWind 3 = .ok (.invokevirtual 76, 3) := by decide +kernel
theorem dX8_stepsToWind_6 : decode cX8_stepsToWind 6 = .ok (.ifCond .eq 7, 3) := by decide +kernel
theorem dX8_stepsToWind_9 : decode cX8_stepsToWind 9 = .ok (.iconst 0, 1) := by decide +kernel
theorem dX8_stepsToWind_10 : decode cX8_stepsToWind 10 = .ok (.goto 4, 3) := by decide +kernel
theorem dX8_stepsToWind_13 : decode cX8_stepsToWind 13 = .ok (.iconst 1, 1) := by decide +kernel
theorem dX8_stepsToWind_14 : decode cX8_stepsToWind 14 = .ok (.putfield 44, 3) := by decide +kernel
theorem dX8_stepsToWind_17 : decode cX8_stepsToWind 17 = .ok (.aload_n 0, 1) := by decide +kernel
theorem dX8_stepsToWind_18 : decode cX8_stepsToWind 18 = .ok (.getfield 44, 3) := by decide +kernel
theorem dX8_stepsToWind_21 : decode cX8_stepsToWind 21 = .ok (.ifCond .ne 24, 3) := by decide +kernel
theorem dX8_stepsToWind_24 : decode cX8_stepsToWind 24 = .ok (.aload_n 0, 1) := by decide +kernel
theorem dX8_stepsToWind_25 : decode cX8_stepsToWind 25 = .ok (.getfield 16, 3) := by decide +kernel
theorem dX8_stepsToWind_28 : decode cX8_stepsToWind 28 = .ok (.bipush 35, 2) := by decide +kernel
theorem dX8_stepsToWind_30 : decode cX8_stepsToWind 30 = .ok (.iload_n 1, 1) := by decide +kernel
theorem dX8_stepsToWind_31 : decode cX8_stepsToWind 31 = .ok (.iadd, 1) := by decide +kernel
theorem dX8_stepsToWind_32 : decode cX8_stepsToWind 32 = .ok (.iaload, 1) := by decide +kernel
theorem dX8_stepsToWind_33 : decode cX8_stepsToWind 33 = .ok (.aload_n 0, 1) := by decide +kernel
theorem dX8_stepsToWind_34 : decode cX8_stepsToWind 34 = .ok (.getfield 16, 3) := by decide +kernel
theorem dX8_stepsToWind_37 : decode cX8_stepsToWind 37 = .ok (.iconst 1, 1) := by decide +kernel
theorem dX8_stepsToWind_38 : decode cX8_stepsToWind 38 = .ok (.iaload, 1) := by decide +kernel
theorem dX8_stepsToWind_39 : decode cX8_stepsToWind 39 = .ok (.invokestatic 86, 3) := by decide +kernel
theorem dX8_stepsToWind_42 : decode cX8_stepsToWind 42 = .ok (.goto 4, 3) := by decide +kernel
theorem dX8_stepsToWind_45 : decode cX8_stepsToWind 45 = .ok (.iconst 0, 1) := by decide +kernel
theorem dX8_stepsToWind_46 : decode cX8_stepsToWind 46 = .ok (.ireturn, 1) := by decide +kernel
theorem dX8_stepsToWindByTurning_0 : decode cX8_stepsToWindByTurning 0 = .ok (.aload_n 0, 1) := by decide +kernel
theorem dX8_stepsToWindByTurning_1 : decode cX8_stepsToWindByTurning 1 = .ok (.iload_n 1, 1) := by decide +kernel
theorem dX8_stepsToWindByTurning_2 : decode cX8_stepsToWindByTurning 2 = .ok (.invokevirtual 92, 3) := by decide +kernel
theorem dX8_stepsToWindByTurning_5 : decode cX8_stepsToWindByTurning 5 = .ok (.ireturn, 1) := by decide +kernel
theorem dX8_works_0 : decode cX8_works 0 = .ok (.iconst 0, 1) := by decide +kernel
theorem dX8_works_1 : decode cX8_works 1 = .ok (.istore_n 1, 1) := by decide +kernel
theorem dX8_works_2 : decode cX8_works 2 = .ok (.iload_n 1, 1) := by decide +kernel
theorem dX8_works_3 : decode cX8_works 3 = .ok (.aload_n 0, 1) := by decide +kernel
theorem dX8_works_4 : decode cX8_works 4 = .ok (.getfield 16, 3) := by decide +kernel
theorem dX8_works_7 : decode cX8_works 7 = .ok (.iconst 0, 1) := by decide +kernel
theorem dX8_works_8 : decode cX8_works 8 = .ok (.iaload, 1) := by decide +kernel
theorem dX8_works_9 : decode cX8_works 9 = .ok (.if_icmp .ge 86, 3) := by decide +kernel
theorem dX8_works_12 : decode cX8_works 12 = .ok (.aload_n 0, 1) := by decide +kernel
theorem dX8_works_13 : decode cX8_works 13 = .ok (.getfield 16, 3) := by decide +kernel
theorem dX8_works_16 : decode cX8_works 16 = .ok (.bipush 9, 2) := by decide +kernel
theorem dX8_works_18 : decode cX8_works 18 = .ok (.dup2, 1) := by decide +kernel
theorem dX8_works_19 : decode cX8_works 19 = .ok (.iaload, 1) := by decide +kernel
theorem dX8_works_20 : decode cX8_works 20 = .ok (.aload_n 0, 1) := by decide +kernel
theorem dX8_works_21 : decode cX8_works 21 = .ok (.getfield 16, 3) := by decide +kernel
theorem dX8_works_24 : decode cX8_works 24 = .ok (.bipush 35, 2) := by decide +kernel
theorem dX8_works_26 : decode cX8_works 26 = .ok (.iload_n 1, 1) := by decide +kernel
theorem dX8_works_27 : decode cX8_works 27 = .ok (.iadd, 1) := by decide +kernel
theorem dX8_works_28 : decode cX8_works 28 = .ok (.iaload, 1) := by decide +kernel
theorem dX8_works_29 : decode cX8_works 29 = .ok (.aload_n 0, 1) := by decide +kernel
theorem dX8_works_30 : decode cX8_works 30 = .ok (.getfield 16, 3) := by decide +kernel
theorem dX8_works_33 : decode cX8_works 33 = .ok (.iconst 1, 1) := by decide +kernel
theorem dX8_works_34 : decode cX8_works 34 = .ok (.iaload, 1) := by decide +kernel
theorem dX8_works_35 : decode cX8_works 35 = .ok (.invokestatic 86, 3) := by decide +kernel
theorem dX8_works_38 : decode cX8_works 38 = .ok (.iadd, 1) := by decide +kernel
theorem dX8_works_39 : decode cX8_works 39 = .ok (.iastore, 1) := by decide +kernel
theorem dX8_works_40 : decode cX8_works 40 = .ok (.aload_n 0, 1) := by decide +kernel
theorem dX8_works_41 : decode cX8_works 41 = .ok (.getfield 16, 3) := by decide +kernel
theorem dX8_works_44 : decode cX8_works 44 = .ok (.bipush 35, 2) := by decide +kernel
theorem dX8_works_46 : decode cX8_works 46 = .ok (.iload_n 1, 1) := by decide +kernel
theorem dX8_works_47 : decode cX8_works 47 = .ok (.iadd, 1) := by decide +kernel
theorem dX8_works_48 : decode cX8_works 48 = .ok (.aload_n 0, 1) := by decide +kernel
theorem dX8_works_49 : decode cX8_works 49 = .ok (.getfield 16, 3) := by decide +kernel
theorem dX8_works_52 : decode cX8_works 52 = .ok (.iconst 1, 1) := by decide +kernel
theorem dX8_works_53 : decode cX8_works 53 = .ok (.iaload, 1) := by decide +kernel
theorem dX8_works_54 : decode cX8_works 54 = .ok (.iastore, 1) := by decide +kernel
theorem dX8_works_55 : decode cX8_works 55 = .ok (.aload_n 0, 1) := by decide +kernel
theorem dX8_works_56 : decode cX8_works 56 = .ok (.getfield 16, 3) := by decide +kernel
theorem dX8_works_59 : decode cX8_works 59 = .ok (.bipush 47, 2) := by decide +kernel
theorem dX8_works_61 : decode cX8_works 61 = .ok (.iload_n 1, 1) := by decide +kernel
theorem dX8_works_62 : decode cX8_works 62 = .ok (.iadd, 1) := by decide +kernel
theorem dX8_works_63 : decode cX8_works 63 = .ok (.dup2, 1) := by decide +kernel
theorem dX8_works_64 : decode cX8_works 64 = .ok (.iaload, 1) := by decide +kernel
theorem dX8_works_65 : decode cX8_works 65 = .ok (.aload_n 0, 1) := by decide +kernel
theorem dX8_works_66 : decode cX8_works 66 = .ok (.getfield 16, 3) := by decide +kernel
theorem dX8_works_69 : decode cX8_works 69 = .ok (.iconst 2, 1) := by decide +kernel
theorem dX8_works_70 : decode cX8_works 70 = .ok (.iaload, 1) := by decide +kernel
theorem dX8_works_71 : decode cX8_works 71 = .ok (.ifCond .le 15, 3) := by decide +kernel
theorem dX8_works_74 : decode cX8_works 74 = .ok (.aload_n 0, 1) := by decide +kernel
theorem dX8_works_75 : decode cX8_works 75 = .ok (.getfield 16, 3) := by decide +kernel
theorem dX8_works_78 : decode cX8_works 78 = .ok (.bipush 23, 2) := by decide +kernel
theorem dX8_works_80 : decode cX8_works 80 = .ok (.iload_n 1, 1) := by decide +kernel
theorem dX8_works_81 : decode cX8_works 81 = .ok (.iadd, 1) := by decide +kernel
theorem dX8_works_82 : decode cX8_works 82 = .ok (.iaload, 1) := by decide +kernel
theorem dX8_works_83 : decode cX8_works 83 = .ok (.goto 4, 3) := by decide +kernel
theorem dX8_works_86 : decode cX8_works 86 = .ok (.iconst 0, 1) := by decide +kernel
theorem dX8_works_87 : decode cX8_works 87 = .ok (.iadd, 1) := by decide +kernel
theorem dX8_works_88 : decode cX8_works 88 = .ok (.iastore, 1) := by decide +kernel
theorem dX8_works_89 : decode cX8_works 89 = .ok (.iinc 1 1, 3) := by decide +kernel
theorem dX8_works_92 : decode cX8_works 92 = .ok (.goto (-90), 3) := by decide +kernel
theorem dX8_works_95 : decode cX8_works 95 = .ok (.return_, 1) := by decide +kernel
theorem dX8_guards_0 : decode cX8_guards 0 = .ok (.aload_n 0, 1) := by decide +kernel
theorem dX8_guards_1 : decode cX8_guards 1 = .ok (.getfield 16, 3) := by decide +kernel
theorem dX8_guards_4 : decode cX8_guards 4 = .ok (.bipush 119, 2) := by decide +kernel
theorem dX8_guards_6 : decode cX8_guards 6 = .ok (.iload_n 1, 1) := by decide +kernel
theorem dX8_guards_7 : decode cX8_guards 7 = .ok (.iadd, 1) := by decide +kernel
theorem dX8_guards_8 : decode cX8_guards 8 = .ok (.iaload, 1) := by decide +kernel
theorem dX8_guards_9 : decode cX8_guards 9 = .ok (.istore_n 2, 1) := by decide +kernel
theorem dX8_guards_10 : decode cX8_guards 10 = .ok (.iconst 0, 1) := by decide +kernel
theorem dX8_guards_11 : decode cX8_guards 11 = .ok (.istore_n 3, 1) := by decide +kernel
theorem dX8_guards_12 : decode cX8_guards 12 = .ok (.iload_n 3, 1) := by decide +kernel
theorem dX8_guards_13 : decode cX8_guards 13 = .ok (.iconst 2, 1) := by decide +kernel
theorem dX8_guards_14 : decode cX8_guards 14 = .ok (.if_icmp .ge 93, 3) := by decide +kernel
theorem dX8_guards_17 : decode cX8_guards 17 = .ok (.iload_n 3, 1) := by decide +kernel
theorem dX8_guards_18 : decode cX8_guards 18 = .ok (.iload_n 2, 1) := by decide +kernel
theorem dX8_guards_19 : decode cX8_guards 19 = .ok (.if_icmp .ge 88, 3) := by decide +kernel
theorem dX8_guards_22 : decode cX8_guards 22 = .ok (.aload_n 0, 1) := by decide +kernel
theorem dX8_guards_23 : decode cX8_guards 23 = .ok (.getfield 16, 3) := by decide +kernel
theorem dX8_guards_26 : decode cX8_guards 26 = .ok (.iload_n 1, 1) := by decide +kernel
theorem dX8_guards_27 : decode cX8_guards 27 = .ok (.iconst 0, 1) := by decide +kernel
theorem dX8_guards_28 : decode cX8_guards 28 = .ok (.invokestatic 95, 3) := by decide +kernel
theorem dX8_guards_31 : decode cX8_guards 31 = .ok (.iaload, 1) := by decide +kernel
theorem dX8_guards_32 : decode cX8_guards 32 = .ok (.istore 4, 2) := by decide +kernel
theorem dX8_guards_34 : decode cX8_guards 34 = .ok (.aload_n 0, 1) := by decide +kernel
theorem dX8_guards_35 : decode cX8_guards 35 = .ok (.getfield 16, 3) := by decide +kernel
theorem dX8_guards_38 : decode cX8_guards 38 = .ok (.bipush 83, 2) := by decide +kernel
theorem dX8_guards_40 : decode cX8_guards 40 = .ok (.iload 4, 2) := by decide +kernel
theorem dX8_guards_42 : decode cX8_guards 42 = .ok (.iadd, 1) := by decide +kernel
theorem dX8_guards_43 : decode cX8_guards 43 = .ok (.dup2, 1) := by decide +kernel
theorem dX8_guards_44 : decode cX8_guards 44 = .ok (.iaload, 1) := by decide +kernel
theorem dX8_guards_45 : decode cX8_guards 45 = .ok (.iconst 1, 1) := by decide +kernel
theorem dX8_guards_46 : decode cX8_guards 46 = .ok (.iadd, 1) := by decide +kernel
theorem dX8_guards_47 : decode cX8_guards 47 = .ok (.iastore, 1) := by decide +kernel
theorem dX8_guards_48 : decode cX8_guards 48 = .ok (.iconst 1, 1) := by decide +kernel
theorem dX8_guards_49 : decode cX8_guards 49 = .ok (.istore 5, 2) := by decide +kernel
theorem dX8_guards_51 : decode cX8_guards 51 = .ok (.iload 5, 2) := by decide +kernel
theorem dX8_guards_53 : decode cX8_guards 53 = .ok (.iload_n 2, 1) := by decide +kernel
theorem dX8_guards_54 : decode cX8_guards 54 = .ok (.if_icmp .ge 33, 3) := by decide +kernel
theorem dX8_guards_57 : decode cX8_guards 57 = .ok (.aload_n 0, 1) := by decide +kernel
theorem dX8_guards_58 : decode cX8_guards 58 = .ok (.getfield 16, 3) := by decide +kernel
theorem dX8_guards_61 : decode cX8_guards 61 = .ok (.iload_n 1, 1) := by decide +kernel
theorem dX8_guards_62 : decode cX8_guards 62 = .ok (.iload 5, 2) := by decide +kernel
theorem dX8_guards_64 : decode cX8_guards 64 = .ok (.iconst 1, 1) := by decide +kernel
theorem dX8_guards_65 : decode cX8_guards 65 = .ok (.isub, 1) := by decide +kernel
theorem dX8_guards_66 : decode cX8_guards 66 = .ok (.invokestatic 95, 3) := by decide +kernel
theorem dX8_guards_69 : decode cX8_guards 69 = .ok (.aload_n 0, 1) := by decide +kernel
theorem dX8_guards_70 : decode cX8_guards 70 = .ok (.getfield 16, 3) := by decide +kernel
theorem dX8_guards_73 : decode cX8_guards 73 = .ok (.iload_n 1, 1) := by decide +kernel
theorem dX8_guards_74 : decode cX8_guards 74 = .ok (.iload 5, 2) := by decide +kernel
theorem dX8_guards_76 : decode cX8_guards 76 = .ok (.invokestatic 95, 3) := by decide +kernel
theorem dX8_guards_79 : decode cX8_guards 79 = .ok (.iaload, 1) := by decide +kernel
theorem dX8_guards_80 : decode cX8_guards 80 = .ok (.iastore, 1) := by decide +kernel
theorem dX8_guards_81 : decode cX8_guards 81 = .ok (.iinc 5 1, 3) := by decide +kernel
theorem dX8_guards_84 : decode cX8_guards 84 = .ok (.goto (-33), 3) := by decide +kernel
theorem dX8_guards_87 : decode cX8_guards 87 = .ok (.aload_n 0, 1) := by decide +kernel
theorem dX8_guards_88 : decode cX8_guards 88 = .ok (.getfield 16, 3) := by decide +kernel
theorem dX8_guards_91 : decode cX8_guards 91 = .ok (.iload_n 1, 1) := by decide +kernel
theorem dX8_guards_92 : decode cX8_guards 92 = .ok (.iload_n 2, 1) := by decide +kernel
theorem dX8_guards_93 : decode cX8_guards 93 = .ok (.iconst 1, 1) := by decide +kernel
theorem dX8_guards_94 : decode cX8_guards 94 = .ok (.isub, 1) := by decide +kernel
theorem dX8_guards_95 : decode cX8_guards 95 = .ok (.invokestatic 95, 3) := by decide +kernel
theorem dX8_guards_98 : decode cX8_guards 98 = .ok (.iload 4, 2) := by decide +kernel
theorem dX8_guards_100 : decode cX8_guards 100 = .ok (.iastore, 1) := by decide +kernel
theorem dX8_guards_101 : decode cX8_guards 101 = .ok (.iinc 3 1, 3) := by decide +kernel
theorem dX8_guards_104 : decode cX8_guards 104 = .ok (.goto (-92), 3) := by decide +kernel
theorem dX8_guards_107 : decode cX8_guards 107 = .ok (.return_, 1) := by decide +kernel
theorem dX8_strikes_0 : decode cX8_strikes 0 = .ok (.aload_n 0, 1) := by decide +kernel
theorem dX8_strikes_1 : decode cX8_strikes 1 = .ok (.getfield 16, 3) := by decide +kernel
theorem dX8_strikes_4 : decode cX8_strikes 4 = .ok (.bipush 6, 2) := by decide +kernel
theorem dX8_strikes_6 : decode cX8_strikes 6 = .ok (.dup2, 1) := by decide +kernel
theorem dX8_strikes_7 : decode cX8_strikes 7 = .ok (.iaload, 1) := by decide +kernel
theorem dX8_strikes_8 : decode cX8_strikes 8 = .ok (.iconst 1, 1) := by decide +kernel
theorem dX8_strikes_9 : decode cX8_strikes 9 = .ok (.iadd, 1) := by decide +kernel
theorem dX8_strikes_10 : decode cX8_strikes 10 = .ok (.iastore, 1) := by decide +kernel
theorem dX8_strikes_11 : decode cX8_strikes 11 = .ok (.iconst 0, 1) := by decide +kernel
theorem dX8_strikes_12 : decode cX8_strikes 12 = .ok (.istore_n 1, 1) := by decide +kernel
theorem dX8_strikes_13 : decode cX8_strikes 13 = .ok (.iload_n 1, 1) := by decide +kernel
theorem dX8_strikes_14 : decode cX8_strikes 14 = .ok (.aload_n 0, 1) := by decide +kernel
theorem dX8_strikes_15 : decode cX8_strikes 15 = .ok (.getfield 16, 3) := by decide +kernel
theorem dX8_strikes_18 : decode cX8_strikes 18 = .ok (.iconst 0, 1) := by decide +kernel
theorem dX8_strikes_19 : decode cX8_strikes 19 = .ok (.iaload, 1) := by decide +kernel
theorem dX8_strikes_20 : decode cX8_strikes 20 = .ok (.if_icmp .ge 60, 3) := by decide +kernel
theorem dX8_strikes_23 : decode cX8_strikes 23 = .ok (.aload_n 0, 1) := by decide +kernel
theorem dX8_strikes_24 : decode cX8_strikes 24 = .ok (.getfield 16, 3) := by decide +kernel
theorem dX8_strikes_27 : decode cX8_strikes 27 = .ok (.bipush 71, 2) := by decide +kernel
theorem dX8_strikes_29 : decode cX8_strikes 29 = .ok (.iload_n 1, 1) := by decide +kernel
theorem dX8_strikes_30 : decode cX8_strikes 30 = .ok (.iadd, 1) := by decide +kernel
theorem dX8_strikes_31 : decode cX8_strikes 31 = .ok (.dup2, 1) := by decide +kernel
theorem dX8_strikes_32 : decode cX8_strikes 32 = .ok (.iaload, 1) := by decide +kernel
theorem dX8_strikes_33 : decode cX8_strikes 33 = .ok (.iconst 1, 1) := by decide +kernel
theorem dX8_strikes_34 : decode cX8_strikes 34 = .ok (.iadd, 1) := by decide +kernel
theorem dX8_strikes_35 : decode cX8_strikes 35 = .ok (.iastore, 1) := by decide +kernel
theorem dX8_strikes_36 : decode cX8_strikes 36 = .ok (.aload_n 0, 1) := by decide +kernel
theorem dX8_strikes_37 : decode cX8_strikes 37 = .ok (.getfield 16, 3) := by decide +kernel
theorem dX8_strikes_40 : decode cX8_strikes 40 = .ok (.bipush 7, 2) := by decide +kernel
theorem dX8_strikes_42 : decode cX8_strikes 42 = .ok (.iaload, 1) := by decide +kernel
theorem dX8_strikes_43 : decode cX8_strikes 43 = .ok (.iconst 2, 1) := by decide +kernel
theorem dX8_strikes_44 : decode cX8_strikes 44 = .ok (.if_icmp .ge 6, 3) := by decide +kernel
theorem dX8_strikes_47 : decode cX8_strikes 47 = .ok (.goto 27, 3) := by decide +kernel
theorem dX8_strikes_50 : decode cX8_strikes 50 = .ok (.aload_n 0, 1) := by decide +kernel
theorem dX8_strikes_51 : decode cX8_strikes 51 = .ok (.getfield 16, 3) := by decide +kernel
theorem dX8_strikes_54 : decode cX8_strikes 54 = .ok (.bipush 7, 2) := by decide +kernel
theorem dX8_strikes_56 : decode cX8_strikes 56 = .ok (.dup2, 1) := by decide +kernel
theorem dX8_strikes_57 : decode cX8_strikes 57 = .ok (.iaload, 1) := by decide +kernel
theorem dX8_strikes_58 : decode cX8_strikes 58 = .ok (.iconst 2, 1) := by decide +kernel
theorem dX8_strikes_59 : decode cX8_strikes 59 = .ok (.isub, 1) := by decide +kernel
theorem dX8_strikes_60 : decode cX8_strikes 60 = .ok (.iastore, 1) := by decide +kernel
theorem dX8_strikes_61 : decode cX8_strikes 61 = .ok (.aload_n 0, 1) := by decide +kernel
theorem dX8_strikes_62 : decode cX8_strikes 62 = .ok (.getfield 16, 3) := by decide +kernel
theorem dX8_strikes_65 : decode cX8_strikes 65 = .ok (.bipush 59, 2) := by decide +kernel
theorem dX8_strikes_67 : decode cX8_strikes 67 = .ok (.iload_n 1, 1) := by decide +kernel
theorem dX8_strikes_68 : decode cX8_strikes 68 = .ok (.iadd, 1) := by decide +kernel
theorem dX8_strikes_69 : decode cX8_strikes 69 = .ok (.dup2, 1) := by decide +kernel
theorem dX8_strikes_70 : decode cX8_strikes 70 = .ok (.iaload, 1) := by decide +kernel
theorem dX8_strikes_71 : decode cX8_strikes 71 = .ok (.iconst 2, 1) := by decide +kernel
theorem dX8_strikes_72 : decode cX8_strikes 72 = .ok (.iadd, 1) := by decide +kernel
theorem dX8_strikes_73 : decode cX8_strikes 73 = .ok (.iastore, 1) := by decide +kernel
theorem dX8_strikes_74 : decode cX8_strikes 74 = .ok (.iinc 1 1, 3) := by decide +kernel
theorem dX8_strikes_77 : decode cX8_strikes 77 = .ok (.goto (-64), 3) := by decide +kernel
theorem dX8_strikes_80 : decode cX8_strikes 80 = .ok (.iconst 0, 1) := by decide +kernel
theorem dX8_strikes_81 : decode cX8_strikes 81 = .ok (.istore_n 1, 1) := by decide +kernel
theorem dX8_strikes_82 : decode cX8_strikes 82 = .ok (.iload_n 1, 1) := by decide +kernel
theorem dX8_strikes_83 : decode cX8_strikes 83 = .ok (.bipush 10, 2) := by decide +kernel
theorem dX8_strikes_85 : decode cX8_strikes 85 = .ok (.if_icmp .ge 14, 3) := by decide +kernel
theorem dX8_strikes_88 : decode cX8_strikes 88 = .ok (.aload_n 0, 1) := by decide +kernel
theorem dX8_strikes_89 : decode cX8_strikes 89 = .ok (.iload_n 1, 1) := by decide +kernel
theorem dX8_strikes_90 : decode cX8_strikes 90 = .ok (.invokevirtual 98, 3) := by decide +kernel
theorem dX8_strikes_93 : decode cX8_strikes 93 = .ok (.iinc 1 1, 3) := by decide +kernel
theorem dX8_strikes_96 : decode cX8_strikes 96 = .ok (.goto (-14), 3) := by decide +kernel
theorem dX8_strikes_99 : decode cX8_strikes 99 = .ok (.return_, 1) := by decide +kernel
theorem dX8_passes_0 : decode cX8_passes 0 = .ok (.iload_n 1, 1) := by decide +kernel
theorem dX8_passes_1 : decode cX8_passes 1 = .ok (.iconst 1, 1) := by decide +kernel
theorem dX8_passes_2 : decode cX8_passes 2 = .ok (.bipush 30, 2) := by decide +kernel
theorem dX8_passes_4 : decode cX8_passes 4 = .ok (.invokestatic 54, 3) := by decide +kernel
theorem dX8_passes_7 : decode cX8_passes 7 = .ok (.ifCond .ne 9, 3) := by decide +kernel
theorem dX8_passes_10 : decode cX8_passes 10 = .ok (.aload_n 0, 1) := by decide +kernel
theorem dX8_passes_11 : decode cX8_passes 11 = .ok (.iconst 1, 1) := by decide +kernel
theorem dX8_passes_12 : decode cX8_passes 12 = .ok (.invokevirtual 62, 3) := by decide +kernel
theorem dX8_passes_15 : decode cX8_passes 15 = .ok (.ireturn, 1) := by decide +kernel
theorem dX8_passes_16 : decode cX8_passes 16 = .ok (.aload_n 0, 1) := by decide +kernel
theorem dX8_passes_17 : decode cX8_passes 17 = .ok (.getfield 16, 3) := by decide +kernel
theorem dX8_passes_20 : decode cX8_passes 20 = .ok (.bipush 9, 2) := by decide +kernel
theorem dX8_passes_22 : decode cX8_passes 22 = .ok (.iaload, 1) := by decide +kernel
theorem dX8_passes_23 : decode cX8_passes 23 = .ok (.istore_n 2, 1) := by decide +kernel
theorem dX8_passes_24 : decode cX8_passes 24 = .ok (.iconst 0, 1) := by decide +kernel
theorem dX8_passes_25 : decode cX8_passes 25 = .ok (.istore_n 3, 1) := by decide +kernel
theorem dX8_passes_26 : decode cX8_passes 26 = .ok (.iload_n 3, 1) := by decide +kernel
theorem dX8_passes_27 : decode cX8_passes 27 = .ok (.iload_n 1, 1) := by decide +kernel
theorem dX8_passes_28 : decode cX8_passes 28 = .ok (.if_icmp .ge 40, 3) := by decide +kernel
theorem dX8_passes_31 : decode cX8_passes 31 = .ok (.aload_n 0, 1) := by decide +kernel
theorem dX8_passes_32 : decode cX8_passes 32 = .ok (.getfield 16, 3) := by decide +kernel
theorem dX8_passes_35 : decode cX8_passes 35 = .ok (.iconst 3, 1) := by decide +kernel
theorem dX8_passes_36 : decode cX8_passes 36 = .ok (.dup2, 1) := by decide +kernel
theorem dX8_passes_37 : decode cX8_passes 37 = .ok (.iaload, 1) := by decide +kernel
theorem dX8_passes_38 : decode cX8_passes 38 = .ok (.iconst 1, 1) := by decide +kernel
theorem dX8_passes_39 : decode cX8_passes 39 = .ok (.iadd, 1) := by decide +kernel
theorem dX8_passes_40 : decode cX8_passes 40 = .ok (.iastore, 1) := by decide +kernel
theorem dX8_passes_41 : decode cX8_passes 41 = .ok (.aload_n 0, 1) := by decide +kernel
theorem dX8_passes_42 : decode cX8_passes 42 = .ok (.getfield 16, 3) := by decide +kernel
theorem dX8_passes_45 : decode cX8_passes 45 = .ok (.iconst 4, 1) := by decide +kernel
theorem dX8_passes_46 : decode cX8_passes 46 = .ok (.iaload, 1) := by decide +kernel
theorem dX8_passes_47 : decode cX8_passes 47 = .ok (.iconst 1, 1) := by decide +kernel
theorem dX8_passes_48 : decode cX8_passes 48 = .ok (.if_icmp .ne 10, 3) := by decide +kernel
theorem dX8_passes_51 : decode cX8_passes 51 = .ok (.aload_n 0, 1) := by decide +kernel
theorem dX8_passes_52 : decode cX8_passes 52 = .ok (.invokevirtual 102, 3) := by decide +kernel
theorem dX8_passes_55 : decode cX8_passes 55 = .ok (.goto 7, 3) := by decide +kernel
theorem dX8_passes_58 : decode cX8_passes 58 = .ok (.aload_n 0, 1) := by decide +kernel
theorem dX8_passes_59 : decode cX8_passes 59 = .ok (.invokevirtual 105, 3) := by decide +kernel
theorem dX8_passes_62 : decode cX8_passes 62 = .ok (.iinc 3 1, 3) := by decide +kernel
theorem dX8_passes_65 : decode cX8_passes 65 = .ok (.goto (-39), 3) := by decide +kernel
theorem dX8_passes_68 : decode cX8_passes 68 = .ok (.aload_n 0, 1) := by decide +kernel
theorem dX8_passes_69 : decode cX8_passes 69 = .ok (.getfield 16, 3) := by decide +kernel
theorem dX8_passes_72 : decode cX8_passes 72 = .ok (.bipush 9, 2) := by decide +kernel
theorem dX8_passes_74 : decode cX8_passes 74 = .ok (.iaload, 1) := by decide +kernel
theorem dX8_passes_75 : decode cX8_passes 75 = .ok (.iload_n 2, 1) := by decide +kernel
theorem dX8_passes_76 : decode cX8_passes 76 = .ok (.isub, 1) := by decide +kernel
theorem dX8_passes_77 : decode cX8_passes 77 = .ok (.ireturn, 1) := by decide +kernel
theorem dX8_passShifts_0 : decode cX8_passShifts 0 = .ok (.aload_n 0, 1) := by decide +kernel
theorem dX8_passShifts_1 : decode cX8_passShifts 1 = .ok (.invokevirtual 66, 3) := by decide +kernel
theorem dX8_passShifts_4 : decode cX8_passShifts 4 = .ok (.aload_n 0, 1) := by decide +kernel
theorem dX8_passShifts_5 : decode cX8_passShifts 5 = .ok (.aload_n 0, 1) := by decide +kernel
theorem dX8_passShifts_6 : decode cX8_passShifts 6 = .ok (.iload_n 1, 1) := by decide +kernel
theorem dX8_passShifts_7 : decode cX8_passShifts 7 = .ok (.invokevirtual 108, 3) := by decide +kernel
theorem dX8_passShifts_10 : decode cX8_passShifts 10 = .ok (.invokevirtual 73, 3) := by decide +kernel
theorem dX8_passShifts_13 : decode cX8_passShifts 13 = .ok (.ireturn, 1) := by decide +kernel
theorem dX8_shiftCount_0 : decode cX8_shiftCount 0 = .ok (.aload_n 0, 1) := by decide +kernel
theorem dX8_shiftCount_1 : decode cX8_shiftCount 1 = .ok (.iconst 3, 1) := by decide +kernel
theorem dX8_shiftCount_2 : decode cX8_shiftCount 2 = .ok (.invokevirtual 79, 3) := by decide +kernel
theorem dX8_shiftCount_5 : decode cX8_shiftCount 5 = .ok (.ireturn, 1) := by decide +kernel
theorem dX8_day_0 : decode cX8_day 0 = .ok (.aload_n 0, 1) := by decide +kernel
theorem dX8_day_1 : decode cX8_day 1 = .ok (.iconst 3, 1) := by decide +kernel
theorem dX8_day_2 : decode cX8_day 2 = .ok (.invokevirtual 79, 3) := by decide +kernel
theorem dX8_day_5 : decode cX8_day 5 = .ok (.iconst 3, 1) := by decide +kernel
theorem dX8_day_6 : decode cX8_day 6 = .ok (.idiv, 1) := by decide +kernel
theorem dX8_day_7 : decode cX8_day 7 = .ok (.ireturn, 1) := by decide +kernel
theorem dX8_count_0 : decode cX8_count 0 = .ok (.iconst 0, 1) := by decide +kernel
theorem dX8_count_1 : decode cX8_count 1 = .ok (.istore_n 3, 1) := by decide +kernel
theorem dX8_count_2 : decode cX8_count 2 = .ok (.iconst 0, 1) := by decide +kernel
theorem dX8_count_3 : decode cX8_count 3 = .ok (.istore 4, 2) := by decide +kernel
theorem dX8_count_5 : decode cX8_count 5 = .ok (.iload 4, 2) := by decide +kernel
theorem dX8_count_7 : decode cX8_count 7 = .ok (.aload_n 0, 1) := by decide +kernel
theorem dX8_count_8 : decode cX8_count 8 = .ok (.getfield 16, 3) := by decide +kernel
theorem dX8_count_11 : decode cX8_count 11 = .ok (.iconst 0, 1) := by decide +kernel
theorem dX8_count_12 : decode cX8_count 12 = .ok (.iaload, 1) := by decide +kernel
theorem dX8_count_13 : decode cX8_count 13 = .ok (.if_icmp .ge 30, 3) := by decide +kernel
theorem dX8_count_16 : decode cX8_count 16 = .ok (.iload_n 3, 1) := by decide +kernel
theorem dX8_count_17 : decode cX8_count 17 = .ok (.aload_n 0, 1) := by decide +kernel
theorem dX8_count_18 : decode cX8_count 18 = .ok (.getfield 16, 3) := by decide +kernel
theorem dX8_count_21 : decode cX8_count 21 = .ok (.iload_n 1, 1) := by decide +kernel
theorem dX8_count_22 : decode cX8_count 22 = .ok (.iload 4, 2) := by decide +kernel
theorem dX8_count_24 : decode cX8_count 24 = .ok (.iadd, 1) := by decide +kernel
theorem dX8_count_25 : decode cX8_count 25 = .ok (.iaload, 1) := by decide +kernel
theorem dX8_count_26 : decode cX8_count 26 = .ok (.iload_n 2, 1) := by decide +kernel
theorem dX8_count_27 : decode cX8_count 27 = .ok (.if_icmp .ne 7, 3) := by decide +kernel
theorem dX8_count_30 : decode cX8_count 30 = .ok (.iconst 1, 1) := by decide +kernel
theorem dX8_count_31 : decode cX8_count 31 = .ok (.goto 4, 3) := by decide +kernel
theorem dX8_count_34 : decode cX8_count 34 = .ok (.iconst 0, 1) := by decide +kernel
theorem dX8_count_35 : decode cX8_count 35 = .ok (.iadd, 1) := by decide +kernel
theorem dX8_count_36 : decode cX8_count 36 = .ok (.istore_n 3, 1) := by decide +kernel
theorem dX8_count_37 : decode cX8_count 37 = .ok (.iinc 4 1, 3) := by decide +kernel
theorem dX8_count_40 : decode cX8_count 40 = .ok (.goto (-35), 3) := by decide +kernel
theorem dX8_count_43 : decode cX8_count 43 = .ok (.iload_n 3, 1) := by decide +kernel
theorem dX8_count_44 : decode cX8_count 44 = .ok (.ireturn, 1) := by decide +kernel
theorem dX8_votes_0 : decode cX8_votes 0 = .ok (.aload_n 0, 1) := by decide +kernel
theorem dX8_votes_1 : decode cX8_votes 1 = .ok (.iload_n 1, 1) := by decide +kernel
theorem dX8_votes_2 : decode cX8_votes 2 = .ok (.invokevirtual 76, 3) := by decide +kernel
theorem dX8_votes_5 : decode cX8_votes 5 = .ok (.ifCond .ne 9, 3) := by decide +kernel
theorem dX8_votes_8 : decode cX8_votes 8 = .ok (.aload_n 0, 1) := by decide +kernel
theorem dX8_votes_9 : decode cX8_votes 9 = .ok (.iconst 1, 1) := by decide +kernel
theorem dX8_votes_10 : decode cX8_votes 10 = .ok (.invokevirtual 62, 3) := by decide +kernel
theorem dX8_votes_13 : decode cX8_votes 13 = .ok (.ireturn, 1) := by decide +kernel
theorem dX8_votes_14 : decode cX8_votes 14 = .ok (.aload_n 0, 1) := by decide +kernel
theorem dX8_votes_15 : decode cX8_votes 15 = .ok (.getfield 16, 3) := by decide +kernel
theorem dX8_votes_18 : decode cX8_votes 18 = .ok (.iconst 4, 1) := by decide +kernel
theorem dX8_votes_19 : decode cX8_votes 19 = .ok (.iaload, 1) := by decide +kernel
theorem dX8_votes_20 : decode cX8_votes 20 = .ok (.iconst 1, 1) := by decide +kernel
theorem dX8_votes_21 : decode cX8_votes 21 = .ok (.if_icmp .ne 9, 3) := by decide +kernel
theorem dX8_votes_24 : decode cX8_votes 24 = .ok (.aload_n 0, 1) := by decide +kernel
theorem dX8_votes_25 : decode cX8_votes 25 = .ok (.iconst 2, 1) := by decide +kernel
theorem dX8_votes_26 : decode cX8_votes 26 = .ok (.invokevirtual 62, 3) := by decide +kernel
theorem dX8_votes_29 : decode cX8_votes 29 = .ok (.ireturn, 1) := by decide +kernel
theorem dX8_votes_30 : decode cX8_votes 30 = .ok (.aload_n 0, 1) := by decide +kernel
theorem dX8_votes_31 : decode cX8_votes 31 = .ok (.getfield 16, 3) := by decide +kernel
theorem dX8_votes_34 : decode cX8_votes 34 = .ok (.bipush 95, 2) := by decide +kernel
theorem dX8_votes_36 : decode cX8_votes 36 = .ok (.iload_n 1, 1) := by decide +kernel
theorem dX8_votes_37 : decode cX8_votes 37 = .ok (.iadd, 1) := by decide +kernel
theorem dX8_votes_38 : decode cX8_votes 38 = .ok (.iload_n 2, 1) := by decide +kernel
theorem dX8_votes_39 : decode cX8_votes 39 = .ok (.iastore, 1) := by decide +kernel
theorem dX8_votes_40 : decode cX8_votes 40 = .ok (.aload_n 0, 1) := by decide +kernel
theorem dX8_votes_41 : decode cX8_votes 41 = .ok (.bipush 95, 2) := by decide +kernel
theorem dX8_votes_43 : decode cX8_votes 43 = .ok (.iconst 1, 1) := by decide +kernel
theorem dX8_votes_44 : decode cX8_votes 44 = .ok (.invokevirtual 111, 3) := by decide +kernel
theorem dX8_votes_47 : decode cX8_votes 47 = .ok (.ireturn, 1) := by decide +kernel
theorem dX8_vote_0 : decode cX8_vote 0 = .ok (.aload_n 0, 1) := by decide +kernel
theorem dX8_vote_1 : decode cX8_vote 1 = .ok (.invokevirtual 66, 3) := by decide +kernel
theorem dX8_vote_4 : decode cX8_vote 4 = .ok (.aload_n 0, 1) := by decide +kernel
theorem dX8_vote_5 : decode cX8_vote 5 = .ok (.aload_n 0, 1) := by decide +kernel
theorem dX8_vote_6 : decode cX8_vote 6 = .ok (.iload_n 1, 1) := by decide +kernel
theorem dX8_vote_7 : decode cX8_vote 7 = .ok (.iload_n 2, 1) := by decide +kernel
theorem dX8_vote_8 : decode cX8_vote 8 = .ok (.ifCond .eq 7, 3) := by decide +kernel
theorem dX8_vote_11 : decode cX8_vote 11 = .ok (.iconst 1, 1) := by decide +kernel
theorem dX8_vote_12 : decode cX8_vote 12 = .ok (.goto 4, 3) := by decide +kernel
theorem dX8_vote_15 : decode cX8_vote 15 = .ok (.iconst 2, 1) := by decide +kernel
theorem dX8_vote_16 : decode cX8_vote 16 = .ok (.invokevirtual 114, 3) := by decide +kernel
theorem dX8_vote_19 : decode cX8_vote 19 = .ok (.invokevirtual 73, 3) := by decide +kernel
theorem dX8_vote_22 : decode cX8_vote 22 = .ok (.ireturn, 1) := by decide +kernel
theorem dX8_votesFor_0 : decode cX8_votesFor 0 = .ok (.aload_n 0, 1) := by decide +kernel
theorem dX8_votesFor_1 : decode cX8_votesFor 1 = .ok (.iconst 0, 1) := by decide +kernel
theorem dX8_votesFor_2 : decode cX8_votesFor 2 = .ok (.putfield 44, 3) := by decide +kernel
theorem dX8_votesFor_5 : decode cX8_votesFor 5 = .ok (.aload_n 0, 1) := by decide +kernel
theorem dX8_votesFor_6 : decode cX8_votesFor 6 = .ok (.bipush 95, 2) := by decide +kernel
theorem dX8_votesFor_8 : decode cX8_votesFor 8 = .ok (.iconst 1, 1) := by decide +kernel
theorem dX8_votesFor_9 : decode cX8_votesFor 9 = .ok (.invokevirtual 111, 3) := by decide +kernel
theorem dX8_votesFor_12 : decode cX8_votesFor 12 = .ok (.ireturn, 1) := by decide +kernel
theorem dX8_hasVoted_0 : decode cX8_hasVoted 0 = .ok (.aload_n 0, 1) := by decide +kernel
theorem dX8_hasVoted_1 : decode cX8_hasVoted 1 = .ok (.iload_n 1, 1) := by decide +kernel
theorem dX8_hasVoted_2 : decode cX8_hasVoted 2 = .ok (.bipush 95, 2) := by decide +kernel
theorem dX8_hasVoted_4 : decode cX8_hasVoted 4 = .ok (.invokevirtual 82, 3) := by decide +kernel
theorem dX8_hasVoted_7 : decode cX8_hasVoted 7 = .ok (.ifCond .le 7, 3) := by decide +kernel
theorem dX8_hasVoted_10 : decode cX8_hasVoted 10 = .ok (.iconst 1, 1) := by decide +kernel
theorem dX8_hasVoted_11 : decode cX8_hasVoted 11 = .ok (.goto 4, 3) := by decide +kernel
theorem dX8_hasVoted_14 : decode cX8_hasVoted 14 = .ok (.iconst 0, 1) := by decide +kernel
theorem dX8_hasVoted_15 : decode cX8_hasVoted 15 = .ok (.ireturn, 1) := by decide +kernel
theorem dX8_starts_0 : decode cX8_starts 0 = .ok (.aload_n 0, 1) := by decide +kernel
theorem dX8_starts_1 : decode cX8_starts 1 = .ok (.getfield 16, 3) := by decide +kernel
theorem dX8_starts_4 : decode cX8_starts 4 = .ok (.iconst 4, 1) := by decide +kernel
theorem dX8_starts_5 : decode cX8_starts 5 = .ok (.iaload, 1) := by decide +kernel
theorem dX8_starts_6 : decode cX8_starts 6 = .ok (.iconst 1, 1) := by decide +kernel
theorem dX8_starts_7 : decode cX8_starts 7 = .ok (.if_icmp .ne 9, 3) := by decide +kernel
theorem dX8_starts_10 : decode cX8_starts 10 = .ok (.aload_n 0, 1) := by decide +kernel
theorem dX8_starts_11 : decode cX8_starts 11 = .ok (.iconst 1, 1) := by decide +kernel
theorem dX8_starts_12 : decode cX8_starts 12 = .ok (.invokevirtual 62, 3) := by decide +kernel
theorem dX8_starts_15 : decode cX8_starts 15 = .ok (.ireturn, 1) := by decide +kernel
theorem dX8_starts_16 : decode cX8_starts 16 = .ok (.iconst 2, 1) := by decide +kernel
theorem dX8_starts_17 : decode cX8_starts 17 = .ok (.aload_n 0, 1) := by decide +kernel
theorem dX8_starts_18 : decode cX8_starts 18 = .ok (.bipush 95, 2) := by decide +kernel
theorem dX8_starts_20 : decode cX8_starts 20 = .ok (.iconst 1, 1) := by decide +kernel
theorem dX8_starts_21 : decode cX8_starts 21 = .ok (.invokevirtual 111, 3) := by decide +kernel
theorem dX8_starts_24 : decode cX8_starts 24 = .ok (.imul, 1) := by decide +kernel
theorem dX8_starts_25 : decode cX8_starts 25 = .ok (.aload_n 0, 1) := by decide +kernel
theorem dX8_starts_26 : decode cX8_starts 26 = .ok (.getfield 16, 3) := by decide +kernel
theorem dX8_starts_29 : decode cX8_starts 29 = .ok (.iconst 0, 1) := by decide +kernel
theorem dX8_starts_30 : decode cX8_starts 30 = .ok (.iaload, 1) := by decide +kernel
theorem dX8_starts_31 : decode cX8_starts 31 = .ok (.if_icmp .gt 9, 3) := by decide +kernel
theorem dX8_starts_34 : decode cX8_starts 34 = .ok (.aload_n 0, 1) := by decide +kernel
theorem dX8_starts_35 : decode cX8_starts 35 = .ok (.iconst 2, 1) := by decide +kernel
theorem dX8_starts_36 : decode cX8_starts 36 = .ok (.invokevirtual 62, 3) := by decide +kernel
theorem dX8_starts_39 : decode cX8_starts 39 = .ok (.ireturn, 1) := by decide +kernel
theorem dX8_starts_40 : decode cX8_starts 40 = .ok (.iconst 0, 1) := by decide +kernel
theorem dX8_starts_41 : decode cX8_starts 41 = .ok (.istore_n 1, 1) := by decide +kernel
theorem dX8_starts_42 : decode cX8_starts 42 = .ok (.iload_n 1, 1) := by decide +kernel
theorem dX8_starts_43 : decode cX8_starts 43 = .ok (.bipush 12, 2) := by decide +kernel
theorem dX8_starts_45 : decode cX8_starts 45 = .ok (.if_icmp .ge 19, 3) := by decide +kernel
theorem dX8_starts_48 : decode cX8_starts 48 = .ok (.aload_n 0, 1) := by decide +kernel
theorem dX8_starts_49 : decode cX8_starts 49 = .ok (.getfield 16, 3) := by decide +kernel
theorem dX8_starts_52 : decode cX8_starts 52 = .ok (.bipush 95, 2) := by decide +kernel
theorem dX8_starts_54 : decode cX8_starts 54 = .ok (.iload_n 1, 1) := by decide +kernel
theorem dX8_starts_55 : decode cX8_starts 55 = .ok (.iadd, 1) := by decide +kernel
theorem dX8_starts_56 : decode cX8_starts 56 = .ok (.iconst 0, 1) := by decide +kernel
theorem dX8_starts_57 : decode cX8_starts 57 = .ok (.iastore, 1) := by decide +kernel
theorem dX8_starts_58 : decode cX8_starts 58 = .ok (.iinc 1 1, 3) := by decide +kernel
theorem dX8_starts_61 : decode cX8_starts 61 = .ok (.goto (-19), 3) := by decide +kernel
theorem dX8_starts_64 : decode cX8_starts 64 = .ok (.aload_n 0, 1) := by decide +kernel
theorem dX8_starts_65 : decode cX8_starts 65 = .ok (.getfield 16, 3) := by decide +kernel
theorem dX8_starts_68 : decode cX8_starts 68 = .ok (.iconst 4, 1) := by decide +kernel
theorem dX8_starts_69 : decode cX8_starts 69 = .ok (.iconst 1, 1) := by decide +kernel
theorem dX8_starts_70 : decode cX8_starts 70 = .ok (.iastore, 1) := by decide +kernel
theorem dX8_starts_71 : decode cX8_starts 71 = .ok (.aload_n 0, 1) := by decide +kernel
theorem dX8_starts_72 : decode cX8_starts 72 = .ok (.getfield 16, 3) := by decide +kernel
theorem dX8_starts_75 : decode cX8_starts 75 = .ok (.bipush 6, 2) := by decide +kernel
theorem dX8_starts_77 : decode cX8_starts 77 = .ok (.iconst 0, 1) := by decide +kernel
theorem dX8_starts_78 : decode cX8_starts 78 = .ok (.iastore, 1) := by decide +kernel
theorem dX8_starts_79 : decode cX8_starts 79 = .ok (.aload_n 0, 1) := by decide +kernel
theorem dX8_starts_80 : decode cX8_starts 80 = .ok (.getfield 16, 3) := by decide +kernel
theorem dX8_starts_83 : decode cX8_starts 83 = .ok (.iconst 5, 1) := by decide +kernel
theorem dX8_starts_84 : decode cX8_starts 84 = .ok (.dup2, 1) := by decide +kernel
theorem dX8_starts_85 : decode cX8_starts 85 = .ok (.iaload, 1) := by decide +kernel
theorem dX8_starts_86 : decode cX8_starts 86 = .ok (.iconst 1, 1) := by decide +kernel
theorem dX8_starts_87 : decode cX8_starts 87 = .ok (.iadd, 1) := by decide +kernel
theorem dX8_starts_88 : decode cX8_starts 88 = .ok (.iastore, 1) := by decide +kernel
theorem dX8_starts_89 : decode cX8_starts 89 = .ok (.aload_n 0, 1) := by decide +kernel
theorem dX8_starts_90 : decode cX8_starts 90 = .ok (.getfield 16, 3) := by decide +kernel
theorem dX8_starts_93 : decode cX8_starts 93 = .ok (.iconst 5, 1) := by decide +kernel
theorem dX8_starts_94 : decode cX8_starts 94 = .ok (.iaload, 1) := by decide +kernel
theorem dX8_starts_95 : decode cX8_starts 95 = .ok (.ireturn, 1) := by decide +kernel
theorem dX8_callStrike_0 : decode cX8_callStrike 0 = .ok (.aload_n 0, 1) := by decide +kernel
theorem dX8_callStrike_1 : decode cX8_callStrike 1 = .ok (.invokevirtual 66, 3) := by decide +kernel
theorem dX8_callStrike_4 : decode cX8_callStrike 4 = .ok (.aload_n 0, 1) := by decide +kernel
theorem dX8_callStrike_5 : decode cX8_callStrike 5 = .ok (.aload_n 0, 1) := by decide +kernel
theorem dX8_callStrike_6 : decode cX8_callStrike 6 = .ok (.invokevirtual 117, 3) := by decide +kernel
theorem dX8_callStrike_9 : decode cX8_callStrike 9 = .ok (.invokevirtual 73, 3) := by decide +kernel
theorem dX8_callStrike_12 : decode cX8_callStrike 12 = .ok (.ireturn, 1) := by decide +kernel
theorem dX8_isOnStrike_0 : decode cX8_isOnStrike 0 = .ok (.aload_n 0, 1) := by decide +kernel
theorem dX8_isOnStrike_1 : decode cX8_isOnStrike 1 = .ok (.iconst 4, 1) := by decide +kernel
theorem dX8_isOnStrike_2 : decode cX8_isOnStrike 2 = .ok (.invokevirtual 79, 3) := by decide +kernel
theorem dX8_isOnStrike_5 : decode cX8_isOnStrike 5 = .ok (.iconst 1, 1) := by decide +kernel
theorem dX8_isOnStrike_6 : decode cX8_isOnStrike 6 = .ok (.if_icmp .ne 7, 3) := by decide +kernel
theorem dX8_isOnStrike_9 : decode cX8_isOnStrike 9 = .ok (.iconst 1, 1) := by decide +kernel
theorem dX8_isOnStrike_10 : decode cX8_isOnStrike 10 = .ok (.goto 4, 3) := by decide +kernel
theorem dX8_isOnStrike_13 : decode cX8_isOnStrike 13 = .ok (.iconst 0, 1) := by decide +kernel
theorem dX8_isOnStrike_14 : decode cX8_isOnStrike 14 = .ok (.ireturn, 1) := by decide +kernel
theorem dX8_strikeShifts_0 : decode cX8_strikeShifts 0 = .ok (.aload_n 0, 1) := by decide +kernel
theorem dX8_strikeShifts_1 : decode cX8_strikeShifts 1 = .ok (.aload_n 0, 1) := by decide +kernel
theorem dX8_strikeShifts_2 : decode cX8_strikeShifts 2 = .ok (.getfield 16, 3) := by decide +kernel
theorem dX8_strikeShifts_5 : decode cX8_strikeShifts 5 = .ok (.iconst 4, 1) := by decide +kernel
theorem dX8_strikeShifts_6 : decode cX8_strikeShifts 6 = .ok (.iaload, 1) := by decide +kernel
theorem dX8_strikeShifts_7 : decode cX8_strikeShifts 7 = .ok (.iconst 1, 1) := by decide +kernel
theorem dX8_strikeShifts_8 : decode cX8_strikeShifts 8 = .ok (.if_icmp .ne 7, 3) := by decide +kernel
theorem dX8_strikeShifts_11 : decode cX8_strikeShifts 11 = .ok (.iconst 0, 1) := by decide +kernel
theorem dX8_strikeShifts_12 : decode cX8_strikeShifts 12 = .ok (.goto 4, 3) := by decide +kernel
theorem dX8_strikeShifts_15 : decode cX8_strikeShifts 15 = .ok (.iconst 1, 1) := by decide +kernel
theorem dX8_strikeShifts_16 : decode cX8_strikeShifts 16 = .ok (.putfield 44, 3) := by decide +kernel
theorem dX8_strikeShifts_19 : decode cX8_strikeShifts 19 = .ok (.aload_n 0, 1) := by decide +kernel
theorem dX8_strikeShifts_20 : decode cX8_strikeShifts 20 = .ok (.getfield 44, 3) := by decide +kernel
theorem dX8_strikeShifts_23 : decode cX8_strikeShifts 23 = .ok (.ifCond .ne 13, 3) := by decide +kernel
theorem dX8_strikeShifts_26 : decode cX8_strikeShifts 26 = .ok (.aload_n 0, 1) := by decide +kernel
theorem dX8_strikeShifts_27 : decode cX8_strikeShifts 27 = .ok (.getfield 16, 3) := by decide +kernel
theorem dX8_strikeShifts_30 : decode cX8_strikeShifts 30 = .ok (.bipush 6, 2) := by decide +kernel
theorem dX8_strikeShifts_32 : decode cX8_strikeShifts 32 = .ok (.iaload, 1) := by decide +kernel
theorem dX8_strikeShifts_33 : decode cX8_strikeShifts 33 = .ok (.goto 4, 3) := by decide +kernel
theorem dX8_strikeShifts_36 : decode cX8_strikeShifts 36 = .ok (.iconst 0, 1) := by decide +kernel
theorem dX8_strikeShifts_37 : decode cX8_strikeShifts 37 = .ok (.ireturn, 1) := by decide +kernel
theorem dX8_pays_0 : decode cX8_pays 0 = .ok (.iload_n 1, 1) := by decide +kernel
theorem dX8_pays_1 : decode cX8_pays 1 = .ok (.iconst 1, 1) := by decide +kernel
theorem dX8_pays_2 : decode cX8_pays 2 = .ok (.sipush 999, 3) := by decide +kernel
theorem dX8_pays_5 : decode cX8_pays 5 = .ok (.invokestatic 54, 3) := by decide +kernel
theorem dX8_pays_8 : decode cX8_pays 8 = .ok (.ifCond .ne 9, 3) := by decide +kernel
theorem dX8_pays_11 : decode cX8_pays 11 = .ok (.aload_n 0, 1) := by decide +kernel
theorem dX8_pays_12 : decode cX8_pays 12 = .ok (.iconst 1, 1) := by decide +kernel
theorem dX8_pays_13 : decode cX8_pays 13 = .ok (.invokevirtual 62, 3) := by decide +kernel
theorem dX8_pays_16 : decode cX8_pays 16 = .ok (.ireturn, 1) := by decide +kernel
theorem dX8_pays_17 : decode cX8_pays 17 = .ok (.aload_n 0, 1) := by decide +kernel
theorem dX8_pays_18 : decode cX8_pays 18 = .ok (.getfield 16, 3) := by decide +kernel
theorem dX8_pays_21 : decode cX8_pays 21 = .ok (.bipush 7, 2) := by decide +kernel
theorem dX8_pays_23 : decode cX8_pays 23 = .ok (.iaload, 1) := by decide +kernel
theorem dX8_pays_24 : decode cX8_pays 24 = .ok (.iload_n 1, 1) := by decide +kernel
theorem dX8_pays_25 : decode cX8_pays 25 = .ok (.iadd, 1) := by decide +kernel
theorem dX8_pays_26 : decode cX8_pays 26 = .ok (.sipush 9999, 3) := by decide +kernel
theorem dX8_pays_29 : decode cX8_pays 29 = .ok (.if_icmp .le 9, 3) := by decide +kernel
theorem dX8_pays_32 : decode cX8_pays 32 = .ok (.aload_n 0, 1) := by decide +kernel
theorem dX8_pays_33 : decode cX8_pays 33 = .ok (.iconst 2, 1) := by decide +kernel
theorem dX8_pays_34 : decode cX8_pays 34 = .ok (.invokevirtual 62, 3) := by decide +kernel
theorem dX8_pays_37 : decode cX8_pays 37 = .ok (.ireturn, 1) := by decide +kernel
theorem dX8_pays_38 : decode cX8_pays 38 = .ok (.aload_n 0, 1) := by decide +kernel
theorem dX8_pays_39 : decode cX8_pays 39 = .ok (.getfield 16, 3) := by decide +kernel
theorem dX8_pays_42 : decode cX8_pays 42 = .ok (.bipush 7, 2) := by decide +kernel
theorem dX8_pays_44 : decode cX8_pays 44 = .ok (.dup2, 1) := by decide +kernel
theorem dX8_pays_45 : decode cX8_pays 45 = .ok (.iaload, 1) := by decide +kernel
theorem dX8_pays_46 : decode cX8_pays 46 = .ok (.iload_n 1, 1) := by decide +kernel
theorem dX8_pays_47 : decode cX8_pays 47 = .ok (.iadd, 1) := by decide +kernel
theorem dX8_pays_48 : decode cX8_pays 48 = .ok (.iastore, 1) := by decide +kernel
theorem dX8_pays_49 : decode cX8_pays 49 = .ok (.aload_n 0, 1) := by decide +kernel
theorem dX8_pays_50 : decode cX8_pays 50 = .ok (.getfield 16, 3) := by decide +kernel
theorem dX8_pays_53 : decode cX8_pays 53 = .ok (.bipush 7, 2) := by decide +kernel
theorem dX8_pays_55 : decode cX8_pays 55 = .ok (.iaload, 1) := by decide +kernel
theorem dX8_pays_56 : decode cX8_pays 56 = .ok (.ireturn, 1) := by decide +kernel
theorem dX8_payIn_0 : decode cX8_payIn 0 = .ok (.aload_n 0, 1) := by decide +kernel
theorem dX8_payIn_1 : decode cX8_payIn 1 = .ok (.invokevirtual 66, 3) := by decide +kernel
theorem dX8_payIn_4 : decode cX8_payIn 4 = .ok (.aload_n 0, 1) := by decide +kernel
theorem dX8_payIn_5 : decode cX8_payIn 5 = .ok (.aload_n 0, 1) := by decide +kernel
theorem dX8_payIn_6 : decode cX8_payIn 6 = .ok (.iload_n 1, 1) := by decide +kernel
theorem dX8_payIn_7 : decode cX8_payIn 7 = .ok (.invokevirtual 121, 3) := by decide +kernel
theorem dX8_payIn_10 : decode cX8_payIn 10 = .ok (.invokevirtual 73, 3) := by decide +kernel
theorem dX8_payIn_13 : decode cX8_payIn 13 = .ok (.ireturn, 1) := by decide +kernel
theorem dX8_fund_0 : decode cX8_fund 0 = .ok (.aload_n 0, 1) := by decide +kernel
theorem dX8_fund_1 : decode cX8_fund 1 = .ok (.bipush 7, 2) := by decide +kernel
theorem dX8_fund_3 : decode cX8_fund 3 = .ok (.invokevirtual 79, 3) := by decide +kernel
theorem dX8_fund_6 : decode cX8_fund 6 = .ok (.ireturn, 1) := by decide +kernel
theorem dX8_fundedShifts_0 : decode cX8_fundedShifts 0 = .ok (.aload_n 0, 1) := by decide +kernel
theorem dX8_fundedShifts_1 : decode cX8_fundedShifts 1 = .ok (.aload_n 0, 1) := by decide +kernel
theorem dX8_fundedShifts_2 : decode cX8_fundedShifts 2 = .ok (.getfield 16, 3) := by decide +kernel
theorem dX8_fundedShifts_5 : decode cX8_fundedShifts 5 = .ok (.iconst 0, 1) := by decide +kernel
theorem dX8_fundedShifts_6 : decode cX8_fundedShifts 6 = .ok (.iaload, 1) := by decide +kernel
theorem dX8_fundedShifts_7 : decode cX8_fundedShifts 7 = .ok (.ifCond .ne 7, 3) := by decide +kernel
theorem dX8_fundedShifts_10 : decode cX8_fundedShifts 10 = .ok (.iconst 1, 1) := by decide +kernel
theorem dX8_fundedShifts_11 : decode cX8_fundedShifts 11 = .ok (.goto 4, 3) := by decide +kernel
theorem dX8_fundedShifts_14 : decode cX8_fundedShifts 14 = .ok (.iconst 0, 1) := by decide +kernel
theorem dX8_fundedShifts_15 : decode cX8_fundedShifts 15 = .ok (.putfield 44, 3) := by decide +kernel
theorem dX8_fundedShifts_18 : decode cX8_fundedShifts 18 = .ok (.aload_n 0, 1) := by decide +kernel
theorem dX8_fundedShifts_19 : decode cX8_fundedShifts 19 = .ok (.getfield 44, 3) := by decide +kernel
theorem dX8_fundedShifts_22 : decode cX8_fundedShifts 22 = .ok (.ifCond .ne 22, 3) := by decide +kernel
theorem dX8_fundedShifts_25 : decode cX8_fundedShifts 25 = .ok (.aload_n 0, 1) := by decide +kernel
theorem dX8_fundedShifts_26 : decode cX8_fundedShifts 26 = .ok (.getfield 16, 3) := by decide +kernel
theorem dX8_fundedShifts_29 : decode cX8_fundedShifts 29 = .ok (.bipush 7, 2) := by decide +kernel
theorem dX8_fundedShifts_31 : decode cX8_fundedShifts 31 = .ok (.iaload, 1) := by decide +kernel
theorem dX8_fundedShifts_32 : decode cX8_fundedShifts 32 = .ok (.iconst 2, 1) := by decide +kernel
theorem dX8_fundedShifts_33 : decode cX8_fundedShifts 33 = .ok (.aload_n 0, 1) := by decide +kernel
theorem dX8_fundedShifts_34 : decode cX8_fundedShifts 34 = .ok (.getfield 16, 3) := by decide +kernel
theorem dX8_fundedShifts_37 : decode cX8_fundedShifts 37 = .ok (.iconst 0, 1) := by decide +kernel
theorem dX8_fundedShifts_38 : decode cX8_fundedShifts 38 = .ok (.iaload, 1) := by decide +kernel
theorem dX8_fundedShifts_39 : decode cX8_fundedShifts 39 = .ok (.imul, 1) := by decide +kernel
theorem dX8_fundedShifts_40 : decode cX8_fundedShifts 40 = .ok (.idiv, 1) := by decide +kernel
theorem dX8_fundedShifts_41 : decode cX8_fundedShifts 41 = .ok (.goto 4, 3) := by decide +kernel
theorem dX8_fundedShifts_44 : decode cX8_fundedShifts 44 = .ok (.iconst 0, 1) := by decide +kernel
theorem dX8_fundedShifts_45 : decode cX8_fundedShifts 45 = .ok (.ireturn, 1) := by decide +kernel
theorem dX8_fundedShiftsByPaying_0 : decode cX8_fundedShiftsByPaying 0 = .ok (.aload_n 0, 1) := by decide +kernel
theorem dX8_fundedShiftsByPaying_1 : decode cX8_fundedShiftsByPaying 1 = .ok (.invokevirtual 124, 3) := by decide +kernel
theorem dX8_fundedShiftsByPaying_4 : decode cX8_fundedShiftsByPaying 4 = .ok (.ireturn, 1) := by decide +kernel
theorem dX8_list_0 : decode cX8_list 0 = .ok (.iconst 0, 1) := by decide +kernel
theorem dX8_list_1 : decode cX8_list 1 = .ok (.istore_n 2, 1) := by decide +kernel
theorem dX8_list_2 : decode cX8_list 2 = .ok (.iload_n 2, 1) := by decide +kernel
theorem dX8_list_3 : decode cX8_list 3 = .ok (.bipush 10, 2) := by decide +kernel
theorem dX8_list_5 : decode cX8_list 5 = .ok (.if_icmp .ge 46, 3) := by decide +kernel
theorem dX8_list_8 : decode cX8_list 8 = .ok (.iconst 0, 1) := by decide +kernel
theorem dX8_list_9 : decode cX8_list 9 = .ok (.istore_n 3, 1) := by decide +kernel
theorem dX8_list_10 : decode cX8_list 10 = .ok (.iload_n 3, 1) := by decide +kernel
theorem dX8_list_11 : decode cX8_list 11 = .ok (.aload_n 0, 1) := by decide +kernel
theorem dX8_list_12 : decode cX8_list 12 = .ok (.getfield 16, 3) := by decide +kernel
theorem dX8_list_15 : decode cX8_list 15 = .ok (.bipush 119, 2) := by decide +kernel
theorem dX8_list_17 : decode cX8_list 17 = .ok (.iload_n 2, 1) := by decide +kernel
theorem dX8_list_18 : decode cX8_list 18 = .ok (.iadd, 1) := by decide +kernel
theorem dX8_list_19 : decode cX8_list 19 = .ok (.iaload, 1) := by decide +kernel
theorem dX8_list_20 : decode cX8_list 20 = .ok (.if_icmp .ge 25, 3) := by decide +kernel
theorem dX8_list_23 : decode cX8_list 23 = .ok (.aload_n 0, 1) := by decide +kernel
theorem dX8_list_24 : decode cX8_list 24 = .ok (.getfield 16, 3) := by decide +kernel
theorem dX8_list_27 : decode cX8_list 27 = .ok (.iload_n 2, 1) := by decide +kernel
theorem dX8_list_28 : decode cX8_list 28 = .ok (.iload_n 3, 1) := by decide +kernel
theorem dX8_list_29 : decode cX8_list 29 = .ok (.invokestatic 95, 3) := by decide +kernel
theorem dX8_list_32 : decode cX8_list 32 = .ok (.iaload, 1) := by decide +kernel
theorem dX8_list_33 : decode cX8_list 33 = .ok (.iload_n 1, 1) := by decide +kernel
theorem dX8_list_34 : decode cX8_list 34 = .ok (.if_icmp .ne 5, 3) := by decide +kernel
theorem dX8_list_37 : decode cX8_list 37 = .ok (.iload_n 2, 1) := by decide +kernel
theorem dX8_list_38 : decode cX8_list 38 = .ok (.ireturn, 1) := by decide +kernel
theorem dX8_list_39 : decode cX8_list 39 = .ok (.iinc 3 1, 3) := by decide +kernel
theorem dX8_list_42 : decode cX8_list 42 = .ok (.goto (-32), 3) := by decide +kernel
theorem dX8_list_45 : decode cX8_list 45 = .ok (.iinc 2 1, 3) := by decide +kernel
theorem dX8_list_48 : decode cX8_list 48 = .ok (.goto (-46), 3) := by decide +kernel
theorem dX8_list_51 : decode cX8_list 51 = .ok (.iconst (-1), 1) := by decide +kernel
theorem dX8_list_52 : decode cX8_list 52 = .ok (.ireturn, 1) := by decide +kernel
theorem dX8_signs_0 : decode cX8_signs 0 = .ok (.iload_n 1, 1) := by decide +kernel
theorem dX8_signs_1 : decode cX8_signs 1 = .ok (.invokestatic 58, 3) := by decide +kernel
theorem dX8_signs_4 : decode cX8_signs 4 = .ok (.ifCond .eq 11, 3) := by decide +kernel
theorem dX8_signs_7 : decode cX8_signs 7 = .ok (.aload_n 0, 1) := by decide +kernel
theorem dX8_signs_8 : decode cX8_signs 8 = .ok (.iload_n 2, 1) := by decide +kernel
theorem dX8_signs_9 : decode cX8_signs 9 = .ok (.invokevirtual 76, 3) := by decide +kernel
theorem dX8_signs_12 : decode cX8_signs 12 = .ok (.ifCond .ne 9, 3) := by decide +kernel
theorem dX8_signs_15 : decode cX8_signs 15 = .ok (.aload_n 0, 1) := by decide +kernel
theorem dX8_signs_16 : decode cX8_signs 16 = .ok (.iconst 1, 1) := by decide +kernel
theorem dX8_signs_17 : decode cX8_signs 17 = .ok (.invokevirtual 62, 3) := by decide +kernel
theorem dX8_signs_20 : decode cX8_signs 20 = .ok (.ireturn, 1) := by decide +kernel
theorem dX8_signs_21 : decode cX8_signs 21 = .ok (.aload_n 0, 1) := by decide +kernel
theorem dX8_signs_22 : decode cX8_signs 22 = .ok (.getfield 16, 3) := by decide +kernel
theorem dX8_signs_25 : decode cX8_signs 25 = .ok (.iconst 4, 1) := by decide +kernel
theorem dX8_signs_26 : decode cX8_signs 26 = .ok (.iaload, 1) := by decide +kernel
theorem dX8_signs_27 : decode cX8_signs 27 = .ok (.ifCond .eq 16, 3) := by decide +kernel
theorem dX8_signs_30 : decode cX8_signs 30 = .ok (.aload_n 0, 1) := by decide +kernel
theorem dX8_signs_31 : decode cX8_signs 31 = .ok (.getfield 16, 3) := by decide +kernel
theorem dX8_signs_34 : decode cX8_signs 34 = .ok (.bipush 119, 2) := by decide +kernel
theorem dX8_signs_36 : decode cX8_signs 36 = .ok (.iload_n 1, 1) := by decide +kernel
theorem dX8_signs_37 : decode cX8_signs 37 = .ok (.iadd, 1) := by decide +kernel
theorem dX8_signs_38 : decode cX8_signs 38 = .ok (.iaload, 1) := by decide +kernel
theorem dX8_signs_39 : decode cX8_signs 39 = .ok (.iconst 4, 1) := by decide +kernel
theorem dX8_signs_40 : decode cX8_signs 40 = .ok (.if_icmp .ne 9, 3) := by decide +kernel
theorem dX8_signs_43 : decode cX8_signs 43 = .ok (.aload_n 0, 1) := by decide +kernel
theorem dX8_signs_44 : decode cX8_signs 44 = .ok (.iconst 2, 1) := by decide +kernel
theorem dX8_signs_45 : decode cX8_signs 45 = .ok (.invokevirtual 62, 3) := by decide +kernel
theorem dX8_signs_48 : decode cX8_signs 48 = .ok (.ireturn, 1) := by decide +kernel
theorem dX8_signs_49 : decode cX8_signs 49 = .ok (.aload_n 0, 1) := by decide +kernel
theorem dX8_signs_50 : decode cX8_signs 50 = .ok (.iload_n 2, 1) := by decide +kernel
theorem dX8_signs_51 : decode cX8_signs 51 = .ok (.invokevirtual 127, 3) := by decide +kernel
theorem dX8_signs_54 : decode cX8_signs 54 = .ok (.ifCond .lt 9, 3) := by decide +kernel
theorem dX8_signs_57 : decode cX8_signs 57 = .ok (.aload_n 0, 1) := by decide +kernel
theorem dX8_signs_58 : decode cX8_signs 58 = .ok (.iconst 3, 1) := by decide +kernel
theorem dX8_signs_59 : decode cX8_signs 59 = .ok (.invokevirtual 62, 3) := by decide +kernel
theorem dX8_signs_62 : decode cX8_signs 62 = .ok (.ireturn, 1) := by decide +kernel
theorem dX8_signs_63 : decode cX8_signs 63 = .ok (.aload_n 0, 1) := by decide +kernel
theorem dX8_signs_64 : decode cX8_signs 64 = .ok (.getfield 16, 3) := by decide +kernel
theorem dX8_signs_67 : decode cX8_signs 67 = .ok (.iload_n 1, 1) := by decide +kernel
theorem dX8_signs_68 : decode cX8_signs 68 = .ok (.aload_n 0, 1) := by decide +kernel
theorem dX8_signs_69 : decode cX8_signs 69 = .ok (.getfield 16, 3) := by decide +kernel
theorem dX8_signs_72 : decode cX8_signs 72 = .ok (.bipush 119, 2) := by decide +kernel
theorem dX8_signs_74 : decode cX8_signs 74 = .ok (.iload_n 1, 1) := by decide +kernel
theorem dX8_signs_75 : decode cX8_signs 75 = .ok (.iadd, 1) := by decide +kernel
theorem dX8_signs_76 : decode cX8_signs 76 = .ok (.iaload, 1) := by decide +kernel
theorem dX8_signs_77 : decode cX8_signs 77 = .ok (.invokestatic 95, 3) := by decide +kernel
theorem dX8_signs_80 : decode cX8_signs 80 = .ok (.iload_n 2, 1) := by decide +kernel
theorem dX8_signs_81 : decode cX8_signs 81 = .ok (.iastore, 1) := by decide +kernel
theorem dX8_signs_82 : decode cX8_signs 82 = .ok (.aload_n 0, 1) := by decide +kernel
theorem dX8_signs_83 : decode cX8_signs 83 = .ok (.getfield 16, 3) := by decide +kernel
theorem dX8_signs_86 : decode cX8_signs 86 = .ok (.bipush 119, 2) := by decide +kernel
theorem dX8_signs_88 : decode cX8_signs 88 = .ok (.iload_n 1, 1) := by decide +kernel
theorem dX8_signs_89 : decode cX8_signs 89 = .ok (.iadd, 1) := by decide +kernel
theorem dX8_signs_90 : decode cX8_signs 90 = .ok (.dup2, 1) := by decide +kernel
theorem dX8_signs_91 : decode cX8_signs 91 = .ok (.iaload, 1) := by decide +kernel
theorem dX8_signs_92 : decode cX8_signs 92 = .ok (.iconst 1, 1) := by decide +kernel
theorem dX8_signs_93 : decode cX8_signs 93 = .ok (.iadd, 1) := by decide +kernel
theorem dX8_signs_94 : decode cX8_signs 94 = .ok (.iastore, 1) := by decide +kernel
theorem dX8_signs_95 : decode cX8_signs 95 = .ok (.aload_n 0, 1) := by decide +kernel
theorem dX8_signs_96 : decode cX8_signs 96 = .ok (.getfield 16, 3) := by decide +kernel
theorem dX8_signs_99 : decode cX8_signs 99 = .ok (.bipush 119, 2) := by decide +kernel
theorem dX8_signs_101 : decode cX8_signs 101 = .ok (.iload_n 1, 1) := by decide +kernel
theorem dX8_signs_102 : decode cX8_signs 102 = .ok (.iadd, 1) := by decide +kernel
theorem dX8_signs_103 : decode cX8_signs 103 = .ok (.iaload, 1) := by decide +kernel
theorem dX8_signs_104 : decode cX8_signs 104 = .ok (.ireturn, 1) := by decide +kernel
theorem dX8_signUp_0 : decode cX8_signUp 0 = .ok (.aload_n 0, 1) := by decide +kernel
theorem dX8_signUp_1 : decode cX8_signUp 1 = .ok (.invokevirtual 66, 3) := by decide +kernel
theorem dX8_signUp_4 : decode cX8_signUp 4 = .ok (.aload_n 0, 1) := by decide +kernel
theorem dX8_signUp_5 : decode cX8_signUp 5 = .ok (.aload_n 0, 1) := by decide +kernel
theorem dX8_signUp_6 : decode cX8_signUp 6 = .ok (.iload_n 1, 1) := by decide +kernel
theorem dX8_signUp_7 : decode cX8_signUp 7 = .ok (.iload_n 2, 1) := by decide +kernel
theorem dX8_signUp_8 : decode cX8_signUp 8 = .ok (.invokevirtual 130, 3) := by decide +kernel
theorem dX8_signUp_11 : decode cX8_signUp 11 = .ok (.invokevirtual 73, 3) := by decide +kernel
theorem dX8_signUp_14 : decode cX8_signUp 14 = .ok (.ireturn, 1) := by decide +kernel
theorem dX8_leaves_0 : decode cX8_leaves 0 = .ok (.aload_n 0, 1) := by decide +kernel
theorem dX8_leaves_1 : decode cX8_leaves 1 = .ok (.iload_n 1, 1) := by decide +kernel
theorem dX8_leaves_2 : decode cX8_leaves 2 = .ok (.invokevirtual 76, 3) := by decide +kernel
theorem dX8_leaves_5 : decode cX8_leaves 5 = .ok (.ifCond .ne 9, 3) := by decide +kernel
theorem dX8_leaves_8 : decode cX8_leaves 8 = .ok (.aload_n 0, 1) := by decide +kernel
theorem dX8_leaves_9 : decode cX8_leaves 9 = .ok (.iconst 1, 1) := by decide +kernel
theorem dX8_leaves_10 : decode cX8_leaves 10 = .ok (.invokevirtual 62, 3) := by decide +kernel
theorem dX8_leaves_13 : decode cX8_leaves 13 = .ok (.ireturn, 1) := by decide +kernel
theorem dX8_leaves_14 : decode cX8_leaves 14 = .ok (.aload_n 0, 1) := by decide +kernel
theorem dX8_leaves_15 : decode cX8_leaves 15 = .ok (.iload_n 1, 1) := by decide +kernel
theorem dX8_leaves_16 : decode cX8_leaves 16 = .ok (.invokevirtual 127, 3) := by decide +kernel
theorem dX8_leaves_19 : decode cX8_leaves 19 = .ok (.istore_n 2, 1) := by decide +kernel
theorem dX8_leaves_20 : decode cX8_leaves 20 = .ok (.iload_n 2, 1) := by decide +kernel
theorem dX8_leaves_21 : decode cX8_leaves 21 = .ok (.ifCond .ge 9, 3) := by decide +kernel
theorem dX8_leaves_24 : decode cX8_leaves 24 = .ok (.aload_n 0, 1) := by decide +kernel
theorem dX8_leaves_25 : decode cX8_leaves 25 = .ok (.iconst 2, 1) := by decide +kernel
theorem dX8_leaves_26 : decode cX8_leaves 26 = .ok (.invokevirtual 62, 3) := by decide +kernel
theorem dX8_leaves_29 : decode cX8_leaves 29 = .ok (.ireturn, 1) := by decide +kernel
theorem dX8_leaves_30 : decode cX8_leaves 30 = .ok (.iconst 0, 1) := by decide +kernel
theorem dX8_leaves_31 : decode cX8_leaves 31 = .ok (.istore_n 3, 1) := by decide +kernel
theorem dX8_leaves_32 : decode cX8_leaves 32 = .ok (.iconst 0, 1) := by decide +kernel
theorem dX8_leaves_33 : decode cX8_leaves 33 = .ok (.istore 4, 2) := by decide +kernel
theorem dX8_leaves_35 : decode cX8_leaves 35 = .ok (.iload 4, 2) := by decide +kernel
theorem dX8_leaves_37 : decode cX8_leaves 37 = .ok (.aload_n 0, 1) := by decide +kernel
theorem dX8_leaves_38 : decode cX8_leaves 38 = .ok (.getfield 16, 3) := by decide +kernel
theorem dX8_leaves_41 : decode cX8_leaves 41 = .ok (.bipush 119, 2) := by decide +kernel
theorem dX8_leaves_43 : decode cX8_leaves 43 = .ok (.iload_n 2, 1) := by decide +kernel
theorem dX8_leaves_44 : decode cX8_leaves 44 = .ok (.iadd, 1) := by decide +kernel
theorem dX8_leaves_45 : decode cX8_leaves 45 = .ok (.iaload, 1) := by decide +kernel
theorem dX8_leaves_46 : decode cX8_leaves 46 = .ok (.if_icmp .ge 46, 3) := by decide +kernel
theorem dX8_leaves_49 : decode cX8_leaves 49 = .ok (.aload_n 0, 1) := by decide +kernel
theorem dX8_leaves_50 : decode cX8_leaves 50 = .ok (.getfield 16, 3) := by decide +kernel
theorem dX8_leaves_53 : decode cX8_leaves 53 = .ok (.iload_n 2, 1) := by decide +kernel
theorem dX8_leaves_54 : decode cX8_leaves 54 = .ok (.iload 4, 2) := by decide +kernel
theorem dX8_leaves_56 : decode cX8_leaves 56 = .ok (.invokestatic 95, 3) := by decide +kernel
theorem dX8_leaves_59 : decode cX8_leaves 59 = .ok (.iaload, 1) := by decide +kernel
theorem dX8_leaves_60 : decode cX8_leaves 60 = .ok (.istore 5, 2) := by decide +kernel
theorem dX8_leaves_62 : decode cX8_leaves 62 = .ok (.iload 5, 2) := by decide +kernel
theorem dX8_leaves_64 : decode cX8_leaves 64 = .ok (.iload_n 1, 1) := by decide +kernel
theorem dX8_leaves_65 : decode cX8_leaves 65 = .ok (.if_icmp .ne 6, 3) := by decide +kernel
theorem dX8_leaves_68 : decode cX8_leaves 68 = .ok (.goto 18, 3) := by decide +kernel
theorem dX8_leaves_71 : decode cX8_leaves 71 = .ok (.aload_n 0, 1) := by decide +kernel
theorem dX8_leaves_72 : decode cX8_leaves 72 = .ok (.getfield 16, 3) := by decide +kernel
theorem dX8_leaves_75 : decode cX8_leaves 75 = .ok (.iload_n 2, 1) := by decide +kernel
theorem dX8_leaves_76 : decode cX8_leaves 76 = .ok (.iload_n 3, 1) := by decide +kernel
theorem dX8_leaves_77 : decode cX8_leaves 77 = .ok (.invokestatic 95, 3) := by decide +kernel
theorem dX8_leaves_80 : decode cX8_leaves 80 = .ok (.iload 5, 2) := by decide +kernel
theorem dX8_leaves_82 : decode cX8_leaves 82 = .ok (.iastore, 1) := by decide +kernel
theorem dX8_leaves_83 : decode cX8_leaves 83 = .ok (.iinc 3 1, 3) := by decide +kernel
theorem dX8_leaves_86 : decode cX8_leaves 86 = .ok (.iinc 4 1, 3) := by decide +kernel
theorem dX8_leaves_89 : decode cX8_leaves 89 = .ok (.goto (-54), 3) := by decide +kernel
theorem dX8_leaves_92 : decode cX8_leaves 92 = .ok (.aload_n 0, 1) := by decide +kernel
theorem dX8_leaves_93 : decode cX8_leaves 93 = .ok (.getfield 16, 3) := by decide +kernel
theorem dX8_leaves_96 : decode cX8_leaves 96 = .ok (.iload_n 2, 1) := by decide +kernel
theorem dX8_leaves_97 : decode cX8_leaves 97 = .ok (.iload_n 3, 1) := by decide +kernel
theorem dX8_leaves_98 : decode cX8_leaves 98 = .ok (.invokestatic 95, 3) := by decide +kernel
theorem dX8_leaves_101 : decode cX8_leaves 101 = .ok (.iconst 0, 1) := by decide +kernel
theorem dX8_leaves_102 : decode cX8_leaves 102 = .ok (.iastore, 1) := by decide +kernel
theorem dX8_leaves_103 : decode cX8_leaves 103 = .ok (.aload_n 0, 1) := by decide +kernel
theorem dX8_leaves_104 : decode cX8_leaves 104 = .ok (.getfield 16, 3) := by decide +kernel
theorem dX8_leaves_107 : decode cX8_leaves 107 = .ok (.bipush 119, 2) := by decide +kernel
theorem dX8_leaves_109 : decode cX8_leaves 109 = .ok (.iload_n 2, 1) := by decide +kernel
theorem dX8_leaves_110 : decode cX8_leaves 110 = .ok (.iadd, 1) := by decide +kernel
theorem dX8_leaves_111 : decode cX8_leaves 111 = .ok (.iload_n 3, 1) := by decide +kernel
theorem dX8_leaves_112 : decode cX8_leaves 112 = .ok (.iastore, 1) := by decide +kernel
theorem dX8_leaves_113 : decode cX8_leaves 113 = .ok (.iload_n 2, 1) := by decide +kernel
theorem dX8_leaves_114 : decode cX8_leaves 114 = .ok (.ireturn, 1) := by decide +kernel
theorem dX8_strikeOff_0 : decode cX8_strikeOff 0 = .ok (.aload_n 0, 1) := by decide +kernel
theorem dX8_strikeOff_1 : decode cX8_strikeOff 1 = .ok (.invokevirtual 66, 3) := by decide +kernel
theorem dX8_strikeOff_4 : decode cX8_strikeOff 4 = .ok (.aload_n 0, 1) := by decide +kernel
theorem dX8_strikeOff_5 : decode cX8_strikeOff 5 = .ok (.aload_n 0, 1) := by decide +kernel
theorem dX8_strikeOff_6 : decode cX8_strikeOff 6 = .ok (.iload_n 1, 1) := by decide +kernel
theorem dX8_strikeOff_7 : decode cX8_strikeOff 7 = .ok (.invokevirtual 133, 3) := by decide +kernel
theorem dX8_strikeOff_10 : decode cX8_strikeOff 10 = .ok (.invokevirtual 73, 3) := by decide +kernel
theorem dX8_strikeOff_13 : decode cX8_strikeOff 13 = .ok (.ireturn, 1) := by decide +kernel
theorem dX8_listLength_0 : decode cX8_listLength 0 = .ok (.aload_n 0, 1) := by decide +kernel
theorem dX8_listLength_1 : decode cX8_listLength 1 = .ok (.iload_n 1, 1) := by decide +kernel
theorem dX8_listLength_2 : decode cX8_listLength 2 = .ok (.invokestatic 58, 3) := by decide +kernel
theorem dX8_listLength_5 : decode cX8_listLength 5 = .ok (.ifCond .eq 7, 3) := by decide +kernel
theorem dX8_listLength_8 : decode cX8_listLength 8 = .ok (.iconst 0, 1) := by decide +kernel
theorem dX8_listLength_9 : decode cX8_listLength 9 = .ok (.goto 4, 3) := by decide +kernel
theorem dX8_listLength_12 : decode cX8_listLength 12 = .ok (.iconst 1, 1) := by decide +kernel
theorem dX8_listLength_13 : decode cX8_listLength 13 = .ok (.putfield 44, 3) := by decide +kernel
theorem dX8_listLength_16 : decode cX8_listLength 16 = .ok (.aload_n 0, 1) := by decide +kernel
theorem dX8_listLength_17 : decode cX8_listLength 17 = .ok (.getfield 44, 3) := by decide +kernel
theorem dX8_listLength_20 : decode cX8_listLength 20 = .ok (.ifCond .ne 15, 3) := by decide +kernel
theorem dX8_listLength_23 : decode cX8_listLength 23 = .ok (.aload_n 0, 1) := by decide +kernel
theorem dX8_listLength_24 : decode cX8_listLength 24 = .ok (.getfield 16, 3) := by decide +kernel
theorem dX8_listLength_27 : decode cX8_listLength 27 = .ok (.bipush 119, 2) := by decide +kernel
theorem dX8_listLength_29 : decode cX8_listLength 29 = .ok (.iload_n 1, 1) := by decide +kernel
theorem dX8_listLength_30 : decode cX8_listLength 30 = .ok (.iadd, 1) := by decide +kernel
theorem dX8_listLength_31 : decode cX8_listLength 31 = .ok (.iaload, 1) := by decide +kernel
theorem dX8_listLength_32 : decode cX8_listLength 32 = .ok (.goto 4, 3) := by decide +kernel
theorem dX8_listLength_35 : decode cX8_listLength 35 = .ok (.iconst 0, 1) := by decide +kernel
theorem dX8_listLength_36 : decode cX8_listLength 36 = .ok (.ireturn, 1) := by decide +kernel
theorem dX8_listedAt_0 : decode cX8_listedAt 0 = .ok (.aload_n 0, 1) := by decide +kernel
theorem dX8_listedAt_1 : decode cX8_listedAt 1 = .ok (.iload_n 1, 1) := by decide +kernel
theorem dX8_listedAt_2 : decode cX8_listedAt 2 = .ok (.invokestatic 58, 3) := by decide +kernel
theorem dX8_listedAt_5 : decode cX8_listedAt 5 = .ok (.ifCond .ne 7, 3) := by decide +kernel
theorem dX8_listedAt_8 : decode cX8_listedAt 8 = .ok (.iconst 1, 1) := by decide +kernel
theorem dX8_listedAt_9 : decode cX8_listedAt 9 = .ok (.goto 27, 3) := by decide +kernel
theorem dX8_listedAt_12 : decode cX8_listedAt 12 = .ok (.iload_n 2, 1) := by decide +kernel
theorem dX8_listedAt_13 : decode cX8_listedAt 13 = .ok (.iconst 0, 1) := by decide +kernel
theorem dX8_listedAt_14 : decode cX8_listedAt 14 = .ok (.aload_n 0, 1) := by decide +kernel
theorem dX8_listedAt_15 : decode cX8_listedAt 15 = .ok (.getfield 16, 3) := by decide +kernel
theorem dX8_listedAt_18 : decode cX8_listedAt 18 = .ok (.bipush 119, 2) := by decide +kernel
theorem dX8_listedAt_20 : decode cX8_listedAt 20 = .ok (.iload_n 1, 1) := by decide +kernel
theorem dX8_listedAt_21 : decode cX8_listedAt 21 = .ok (.iadd, 1) := by decide +kernel
theorem dX8_listedAt_22 : decode cX8_listedAt 22 = .ok (.iaload, 1) := by decide +kernel
theorem dX8_listedAt_23 : decode cX8_listedAt 23 = .ok (.iconst 1, 1) := by decide +kernel
theorem dX8_listedAt_24 : decode cX8_listedAt 24 = .ok (.isub, 1) := by decide +kernel
theorem dX8_listedAt_25 : decode cX8_listedAt 25 = .ok (.invokestatic 54, 3) := by decide +kernel
theorem dX8_listedAt_28 : decode cX8_listedAt 28 = .ok (.ifCond .eq 7, 3) := by decide +kernel
theorem dX8_listedAt_31 : decode cX8_listedAt 31 = .ok (.iconst 0, 1) := by decide +kernel
theorem dX8_listedAt_32 : decode cX8_listedAt 32 = .ok (.goto 4, 3) := by decide +kernel
theorem dX8_listedAt_35 : decode cX8_listedAt 35 = .ok (.iconst 2, 1) := by decide +kernel
theorem dX8_listedAt_36 : decode cX8_listedAt 36 = .ok (.putfield 44, 3) := by decide +kernel
theorem dX8_listedAt_39 : decode cX8_listedAt 39 = .ok (.aload_n 0, 1) := by decide +kernel
theorem dX8_listedAt_40 : decode cX8_listedAt 40 = .ok (.getfield 44, 3) := by decide +kernel
theorem dX8_listedAt_43 : decode cX8_listedAt 43 = .ok (.ifCond .ne 16, 3) := by decide +kernel
theorem dX8_listedAt_46 : decode cX8_listedAt 46 = .ok (.aload_n 0, 1) := by decide +kernel
theorem dX8_listedAt_47 : decode cX8_listedAt 47 = .ok (.getfield 16, 3) := by decide +kernel
theorem dX8_listedAt_50 : decode cX8_listedAt 50 = .ok (.iload_n 1, 1) := by decide +kernel
theorem dX8_listedAt_51 : decode cX8_listedAt 51 = .ok (.iload_n 2, 1) := by decide +kernel
theorem dX8_listedAt_52 : decode cX8_listedAt 52 = .ok (.invokestatic 95, 3) := by decide +kernel
theorem dX8_listedAt_55 : decode cX8_listedAt 55 = .ok (.iaload, 1) := by decide +kernel
theorem dX8_listedAt_56 : decode cX8_listedAt 56 = .ok (.goto 4, 3) := by decide +kernel
theorem dX8_listedAt_59 : decode cX8_listedAt 59 = .ok (.iconst 0, 1) := by decide +kernel
theorem dX8_listedAt_60 : decode cX8_listedAt 60 = .ok (.ireturn, 1) := by decide +kernel
theorem dX8_listOf_0 : decode cX8_listOf 0 = .ok (.aload_n 0, 1) := by decide +kernel
theorem dX8_listOf_1 : decode cX8_listOf 1 = .ok (.aload_n 0, 1) := by decide +kernel
theorem dX8_listOf_2 : decode cX8_listOf 2 = .ok (.iload_n 1, 1) := by decide +kernel
theorem dX8_listOf_3 : decode cX8_listOf 3 = .ok (.invokevirtual 76, 3) := by decide +kernel
theorem dX8_listOf_6 : decode cX8_listOf 6 = .ok (.ifCond .ne 7, 3) := by decide +kernel
theorem dX8_listOf_9 : decode cX8_listOf 9 = .ok (.iconst 1, 1) := by decide +kernel
theorem dX8_listOf_10 : decode cX8_listOf 10 = .ok (.goto 16, 3) := by decide +kernel
theorem dX8_listOf_13 : decode cX8_listOf 13 = .ok (.aload_n 0, 1) := by decide +kernel
theorem dX8_listOf_14 : decode cX8_listOf 14 = .ok (.iload_n 1, 1) := by decide +kernel
theorem dX8_listOf_15 : decode cX8_listOf 15 = .ok (.invokevirtual 127, 3) := by decide +kernel
theorem dX8_listOf_18 : decode cX8_listOf 18 = .ok (.ifCond .ge 7, 3) := by decide +kernel
theorem dX8_listOf_21 : decode cX8_listOf 21 = .ok (.iconst 2, 1) := by decide +kernel
theorem dX8_listOf_22 : decode cX8_listOf 22 = .ok (.goto 4, 3) := by decide +kernel
theorem dX8_listOf_25 : decode cX8_listOf 25 = .ok (.iconst 0, 1) := by decide +kernel
theorem dX8_listOf_26 : decode cX8_listOf 26 = .ok (.putfield 44, 3) := by decide +kernel
theorem dX8_listOf_29 : decode cX8_listOf 29 = .ok (.aload_n 0, 1) := by decide +kernel
theorem dX8_listOf_30 : decode cX8_listOf 30 = .ok (.getfield 44, 3) := by decide +kernel
theorem dX8_listOf_33 : decode cX8_listOf 33 = .ok (.ifCond .ne 11, 3) := by decide +kernel
theorem dX8_listOf_36 : decode cX8_listOf 36 = .ok (.aload_n 0, 1) := by decide +kernel
theorem dX8_listOf_37 : decode cX8_listOf 37 = .ok (.iload_n 1, 1) := by decide +kernel
theorem dX8_listOf_38 : decode cX8_listOf 38 = .ok (.invokevirtual 127, 3) := by decide +kernel
theorem dX8_listOf_41 : decode cX8_listOf 41 = .ok (.goto 4, 3) := by decide +kernel
theorem dX8_listOf_44 : decode cX8_listOf 44 = .ok (.iconst 0, 1) := by decide +kernel
theorem dX8_listOf_45 : decode cX8_listOf 45 = .ok (.ireturn, 1) := by decide +kernel
theorem dX8_offers_0 : decode cX8_offers 0 = .ok (.iload_n 1, 1) := by decide +kernel
theorem dX8_offers_1 : decode cX8_offers 1 = .ok (.iconst 1, 1) := by decide +kernel
theorem dX8_offers_2 : decode cX8_offers 2 = .ok (.bipush 50, 2) := by decide +kernel
theorem dX8_offers_4 : decode cX8_offers 4 = .ok (.invokestatic 54, 3) := by decide +kernel
theorem dX8_offers_7 : decode cX8_offers 7 = .ok (.ifCond .ne 9, 3) := by decide +kernel
theorem dX8_offers_10 : decode cX8_offers 10 = .ok (.aload_n 0, 1) := by decide +kernel
theorem dX8_offers_11 : decode cX8_offers 11 = .ok (.iconst 1, 1) := by decide +kernel
theorem dX8_offers_12 : decode cX8_offers 12 = .ok (.invokevirtual 62, 3) := by decide +kernel
theorem dX8_offers_15 : decode cX8_offers 15 = .ok (.ireturn, 1) := by decide +kernel
theorem dX8_offers_16 : decode cX8_offers 16 = .ok (.aload_n 0, 1) := by decide +kernel
theorem dX8_offers_17 : decode cX8_offers 17 = .ok (.getfield 16, 3) := by decide +kernel
theorem dX8_offers_20 : decode cX8_offers 20 = .ok (.iconst 4, 1) := by decide +kernel
theorem dX8_offers_21 : decode cX8_offers 21 = .ok (.iaload, 1) := by decide +kernel
theorem dX8_offers_22 : decode cX8_offers 22 = .ok (.ifCond .ne 9, 3) := by decide +kernel
theorem dX8_offers_25 : decode cX8_offers 25 = .ok (.aload_n 0, 1) := by decide +kernel
theorem dX8_offers_26 : decode cX8_offers 26 = .ok (.iconst 2, 1) := by decide +kernel
theorem dX8_offers_27 : decode cX8_offers 27 = .ok (.invokevirtual 62, 3) := by decide +kernel
theorem dX8_offers_30 : decode cX8_offers 30 = .ok (.ireturn, 1) := by decide +kernel
theorem dX8_offers_31 : decode cX8_offers 31 = .ok (.aload_n 0, 1) := by decide +kernel
theorem dX8_offers_32 : decode cX8_offers 32 = .ok (.bipush 107, 2) := by decide +kernel
theorem dX8_offers_34 : decode cX8_offers 34 = .ok (.iconst 1, 1) := by decide +kernel
theorem dX8_offers_35 : decode cX8_offers 35 = .ok (.invokevirtual 111, 3) := by decide +kernel
theorem dX8_offers_38 : decode cX8_offers 38 = .ok (.istore_n 2, 1) := by decide +kernel
theorem dX8_offers_39 : decode cX8_offers 39 = .ok (.iconst 0, 1) := by decide +kernel
theorem dX8_offers_40 : decode cX8_offers 40 = .ok (.istore_n 3, 1) := by decide +kernel
theorem dX8_offers_41 : decode cX8_offers 41 = .ok (.iload_n 3, 1) := by decide +kernel
theorem dX8_offers_42 : decode cX8_offers 42 = .ok (.bipush 12, 2) := by decide +kernel
theorem dX8_offers_44 : decode cX8_offers 44 = .ok (.if_icmp .ge 19, 3) := by decide +kernel
theorem dX8_offers_47 : decode cX8_offers 47 = .ok (.aload_n 0, 1) := by decide +kernel
theorem dX8_offers_48 : decode cX8_offers 48 = .ok (.getfield 16, 3) := by decide +kernel
theorem dX8_offers_51 : decode cX8_offers 51 = .ok (.bipush 107, 2) := by decide +kernel
theorem dX8_offers_53 : decode cX8_offers 53 = .ok (.iload_n 3, 1) := by decide +kernel
theorem dX8_offers_54 : decode cX8_offers 54 = .ok (.iadd, 1) := by decide +kernel
theorem dX8_offers_55 : decode cX8_offers 55 = .ok (.iconst 0, 1) := by decide +kernel
theorem dX8_offers_56 : decode cX8_offers 56 = .ok (.iastore, 1) := by decide +kernel
theorem dX8_offers_57 : decode cX8_offers 57 = .ok (.iinc 3 1, 3) := by decide +kernel
theorem dX8_offers_60 : decode cX8_offers 60 = .ok (.goto (-19), 3) := by decide +kernel
theorem dX8_offers_63 : decode cX8_offers 63 = .ok (.aload_n 0, 1) := by decide +kernel
theorem dX8_offers_64 : decode cX8_offers 64 = .ok (.getfield 16, 3) := by decide +kernel
theorem dX8_offers_67 : decode cX8_offers 67 = .ok (.bipush 8, 2) := by decide +kernel
theorem dX8_offers_69 : decode cX8_offers 69 = .ok (.iload_n 1, 1) := by decide +kernel
theorem dX8_offers_70 : decode cX8_offers 70 = .ok (.iastore, 1) := by decide +kernel
theorem dX8_offers_71 : decode cX8_offers 71 = .ok (.iload_n 2, 1) := by decide +kernel
theorem dX8_offers_72 : decode cX8_offers 72 = .ok (.ireturn, 1) := by decide +kernel
theorem dX8_makeOffer_0 : decode cX8_makeOffer 0 = .ok (.aload_n 0, 1) := by decide +kernel
theorem dX8_makeOffer_1 : decode cX8_makeOffer 1 = .ok (.invokevirtual 66, 3) := by decide +kernel
theorem dX8_makeOffer_4 : decode cX8_makeOffer 4 = .ok (.aload_n 0, 1) := by decide +kernel
theorem dX8_makeOffer_5 : decode cX8_makeOffer 5 = .ok (.aload_n 0, 1) := by decide +kernel
theorem dX8_makeOffer_6 : decode cX8_makeOffer 6 = .ok (.iload_n 1, 1) := by decide +kernel
theorem dX8_makeOffer_7 : decode cX8_makeOffer 7 = .ok (.invokevirtual 136, 3) := by decide +kernel
theorem dX8_makeOffer_10 : decode cX8_makeOffer 10 = .ok (.invokevirtual 73, 3) := by decide +kernel
theorem dX8_makeOffer_13 : decode cX8_makeOffer 13 = .ok (.ireturn, 1) := by decide +kernel
theorem dX8_grown_0 : decode cX8_grown 0 = .ok (.aload_n 0, 1) := by decide +kernel
theorem dX8_grown_1 : decode cX8_grown 1 = .ok (.getfield 16, 3) := by decide +kernel
theorem dX8_grown_4 : decode cX8_grown 4 = .ok (.bipush 23, 2) := by decide +kernel
theorem dX8_grown_6 : decode cX8_grown 6 = .ok (.iload_n 1, 1) := by decide +kernel
theorem dX8_grown_7 : decode cX8_grown 7 = .ok (.iadd, 1) := by decide +kernel
theorem dX8_grown_8 : decode cX8_grown 8 = .ok (.iaload, 1) := by decide +kernel
theorem dX8_grown_9 : decode cX8_grown 9 = .ok (.bipush 100, 2) := by decide +kernel
theorem dX8_grown_11 : decode cX8_grown 11 = .ok (.aload_n 0, 1) := by decide +kernel
theorem dX8_grown_12 : decode cX8_grown 12 = .ok (.getfield 16, 3) := by decide +kernel
theorem dX8_grown_15 : decode cX8_grown 15 = .ok (.bipush 8, 2) := by decide +kernel
theorem dX8_grown_17 : decode cX8_grown 17 = .ok (.iaload, 1) := by decide +kernel
theorem dX8_grown_18 : decode cX8_grown 18 = .ok (.iadd, 1) := by decide +kernel
theorem dX8_grown_19 : decode cX8_grown 19 = .ok (.imul, 1) := by decide +kernel
theorem dX8_grown_20 : decode cX8_grown 20 = .ok (.bipush 99, 2) := by decide +kernel
theorem dX8_grown_22 : decode cX8_grown 22 = .ok (.iadd, 1) := by decide +kernel
theorem dX8_grown_23 : decode cX8_grown 23 = .ok (.bipush 100, 2) := by decide +kernel
theorem dX8_grown_25 : decode cX8_grown 25 = .ok (.idiv, 1) := by decide +kernel
theorem dX8_grown_26 : decode cX8_grown 26 = .ok (.istore_n 2, 1) := by decide +kernel
theorem dX8_grown_27 : decode cX8_grown 27 = .ok (.iload_n 2, 1) := by decide +kernel
theorem dX8_grown_28 : decode cX8_grown 28 = .ok (.bipush 99, 2) := by decide +kernel
theorem dX8_grown_30 : decode cX8_grown 30 = .ok (.if_icmp .ge 7, 3) := by decide +kernel
theorem dX8_grown_33 : decode cX8_grown 33 = .ok (.iload_n 2, 1) := by decide +kernel
theorem dX8_grown_34 : decode cX8_grown 34 = .ok (.goto 5, 3) := by decide +kernel
theorem dX8_grown_37 : decode cX8_grown 37 = .ok (.bipush 99, 2) := by decide +kernel
theorem dX8_grown_39 : decode cX8_grown 39 = .ok (.ireturn, 1) := by decide +kernel
theorem dX8_settles_0 : decode cX8_settles 0 = .ok (.iconst 0, 1) := by decide +kernel
theorem dX8_settles_1 : decode cX8_settles 1 = .ok (.istore_n 1, 1) := by decide +kernel
theorem dX8_settles_2 : decode cX8_settles 2 = .ok (.iload_n 1, 1) := by decide +kernel
theorem dX8_settles_3 : decode cX8_settles 3 = .ok (.aload_n 0, 1) := by decide +kernel
theorem dX8_settles_4 : decode cX8_settles 4 = .ok (.getfield 16, 3) := by decide +kernel
theorem dX8_settles_7 : decode cX8_settles 7 = .ok (.iconst 0, 1) := by decide +kernel
theorem dX8_settles_8 : decode cX8_settles 8 = .ok (.iaload, 1) := by decide +kernel
theorem dX8_settles_9 : decode cX8_settles 9 = .ok (.if_icmp .ge 23, 3) := by decide +kernel
theorem dX8_settles_12 : decode cX8_settles 12 = .ok (.aload_n 0, 1) := by decide +kernel
theorem dX8_settles_13 : decode cX8_settles 13 = .ok (.getfield 16, 3) := by decide +kernel
theorem dX8_settles_16 : decode cX8_settles 16 = .ok (.bipush 23, 2) := by decide +kernel
theorem dX8_settles_18 : decode cX8_settles 18 = .ok (.iload_n 1, 1) := by decide +kernel
theorem dX8_settles_19 : decode cX8_settles 19 = .ok (.iadd, 1) := by decide +kernel
theorem dX8_settles_20 : decode cX8_settles 20 = .ok (.aload_n 0, 1) := by decide +kernel
theorem dX8_settles_21 : decode cX8_settles 21 = .ok (.iload_n 1, 1) := by decide +kernel
theorem dX8_settles_22 : decode cX8_settles 22 = .ok (.invokevirtual 139, 3) := by decide +kernel
theorem dX8_settles_25 : decode cX8_settles 25 = .ok (.iastore, 1) := by decide +kernel
theorem dX8_settles_26 : decode cX8_settles 26 = .ok (.iinc 1 1, 3) := by decide +kernel
theorem dX8_settles_29 : decode cX8_settles 29 = .ok (.goto (-27), 3) := by decide +kernel
theorem dX8_settles_32 : decode cX8_settles 32 = .ok (.aload_n 0, 1) := by decide +kernel
theorem dX8_settles_33 : decode cX8_settles 33 = .ok (.getfield 16, 3) := by decide +kernel
theorem dX8_settles_36 : decode cX8_settles 36 = .ok (.iconst 4, 1) := by decide +kernel
theorem dX8_settles_37 : decode cX8_settles 37 = .ok (.iconst 0, 1) := by decide +kernel
theorem dX8_settles_38 : decode cX8_settles 38 = .ok (.iastore, 1) := by decide +kernel
theorem dX8_settles_39 : decode cX8_settles 39 = .ok (.aload_n 0, 1) := by decide +kernel
theorem dX8_settles_40 : decode cX8_settles 40 = .ok (.getfield 16, 3) := by decide +kernel
theorem dX8_settles_43 : decode cX8_settles 43 = .ok (.bipush 6, 2) := by decide +kernel
theorem dX8_settles_45 : decode cX8_settles 45 = .ok (.iconst 0, 1) := by decide +kernel
theorem dX8_settles_46 : decode cX8_settles 46 = .ok (.iastore, 1) := by decide +kernel
theorem dX8_settles_47 : decode cX8_settles 47 = .ok (.aload_n 0, 1) := by decide +kernel
theorem dX8_settles_48 : decode cX8_settles 48 = .ok (.getfield 16, 3) := by decide +kernel
theorem dX8_settles_51 : decode cX8_settles 51 = .ok (.bipush 8, 2) := by decide +kernel
theorem dX8_settles_53 : decode cX8_settles 53 = .ok (.iconst 0, 1) := by decide +kernel
theorem dX8_settles_54 : decode cX8_settles 54 = .ok (.iastore, 1) := by decide +kernel
theorem dX8_settles_55 : decode cX8_settles 55 = .ok (.aload_n 0, 1) := by decide +kernel
theorem dX8_settles_56 : decode cX8_settles 56 = .ok (.getfield 16, 3) := by decide +kernel
theorem dX8_settles_59 : decode cX8_settles 59 = .ok (.bipush 10, 2) := by decide +kernel
theorem dX8_settles_61 : decode cX8_settles 61 = .ok (.dup2, 1) := by decide +kernel
theorem dX8_settles_62 : decode cX8_settles 62 = .ok (.iaload, 1) := by decide +kernel
theorem dX8_settles_63 : decode cX8_settles 63 = .ok (.iconst 1, 1) := by decide +kernel
theorem dX8_settles_64 : decode cX8_settles 64 = .ok (.iadd, 1) := by decide +kernel
theorem dX8_settles_65 : decode cX8_settles 65 = .ok (.iastore, 1) := by decide +kernel
theorem dX8_settles_66 : decode cX8_settles 66 = .ok (.iconst 0, 1) := by decide +kernel
theorem dX8_settles_67 : decode cX8_settles 67 = .ok (.istore_n 1, 1) := by decide +kernel
theorem dX8_settles_68 : decode cX8_settles 68 = .ok (.iload_n 1, 1) := by decide +kernel
theorem dX8_settles_69 : decode cX8_settles 69 = .ok (.bipush 12, 2) := by decide +kernel
theorem dX8_settles_71 : decode cX8_settles 71 = .ok (.if_icmp .ge 19, 3) := by decide +kernel
theorem dX8_settles_74 : decode cX8_settles 74 = .ok (.aload_n 0, 1) := by decide +kernel
theorem dX8_settles_75 : decode cX8_settles 75 = .ok (.getfield 16, 3) := by decide +kernel
theorem dX8_settles_78 : decode cX8_settles 78 = .ok (.bipush 107, 2) := by decide +kernel
theorem dX8_settles_80 : decode cX8_settles 80 = .ok (.iload_n 1, 1) := by decide +kernel
theorem dX8_settles_81 : decode cX8_settles 81 = .ok (.iadd, 1) := by decide +kernel
theorem dX8_settles_82 : decode cX8_settles 82 = .ok (.iconst 0, 1) := by decide +kernel
theorem dX8_settles_83 : decode cX8_settles 83 = .ok (.iastore, 1) := by decide +kernel
theorem dX8_settles_84 : decode cX8_settles 84 = .ok (.iinc 1 1, 3) := by decide +kernel
theorem dX8_settles_87 : decode cX8_settles 87 = .ok (.goto (-19), 3) := by decide +kernel
theorem dX8_settles_90 : decode cX8_settles 90 = .ok (.bipush 119, 2) := by decide +kernel
theorem dX8_settles_92 : decode cX8_settles 92 = .ok (.istore_n 1, 1) := by decide +kernel
theorem dX8_settles_93 : decode cX8_settles 93 = .ok (.iload_n 1, 1) := by decide +kernel
theorem dX8_settles_94 : decode cX8_settles 94 = .ok (.sipush 169, 3) := by decide +kernel
theorem dX8_settles_97 : decode cX8_settles 97 = .ok (.if_icmp .ge 16, 3) := by decide +kernel
theorem dX8_settles_100 : decode cX8_settles 100 = .ok (.aload_n 0, 1) := by decide +kernel
theorem dX8_settles_101 : decode cX8_settles 101 = .ok (.getfield 16, 3) := by decide +kernel
theorem dX8_settles_104 : decode cX8_settles 104 = .ok (.iload_n 1, 1) := by decide +kernel
theorem dX8_settles_105 : decode cX8_settles 105 = .ok (.iconst 0, 1) := by decide +kernel
theorem dX8_settles_106 : decode cX8_settles 106 = .ok (.iastore, 1) := by decide +kernel
theorem dX8_settles_107 : decode cX8_settles 107 = .ok (.iinc 1 1, 3) := by decide +kernel
theorem dX8_settles_110 : decode cX8_settles 110 = .ok (.goto (-17), 3) := by decide +kernel
theorem dX8_settles_113 : decode cX8_settles 113 = .ok (.return_, 1) := by decide +kernel
theorem dX8_accepts_0 : decode cX8_accepts 0 = .ok (.aload_n 0, 1) := by decide +kernel
theorem dX8_accepts_1 : decode cX8_accepts 1 = .ok (.iload_n 1, 1) := by decide +kernel
theorem dX8_accepts_2 : decode cX8_accepts 2 = .ok (.invokevirtual 76, 3) := by decide +kernel
theorem dX8_accepts_5 : decode cX8_accepts 5 = .ok (.ifCond .ne 9, 3) := by decide +kernel
theorem dX8_accepts_8 : decode cX8_accepts 8 = .ok (.aload_n 0, 1) := by decide +kernel
theorem dX8_accepts_9 : decode cX8_accepts 9 = .ok (.iconst 1, 1) := by decide +kernel
theorem dX8_accepts_10 : decode cX8_accepts 10 = .ok (.invokevirtual 62, 3) := by decide +kernel
theorem dX8_accepts_13 : decode cX8_accepts 13 = .ok (.ireturn, 1) := by decide +kernel
theorem dX8_accepts_14 : decode cX8_accepts 14 = .ok (.aload_n 0, 1) := by decide +kernel
theorem dX8_accepts_15 : decode cX8_accepts 15 = .ok (.getfield 16, 3) := by decide +kernel
theorem dX8_accepts_18 : decode cX8_accepts 18 = .ok (.bipush 8, 2) := by decide +kernel
theorem dX8_accepts_20 : decode cX8_accepts 20 = .ok (.iaload, 1) := by decide +kernel
theorem dX8_accepts_21 : decode cX8_accepts 21 = .ok (.ifCond .ne 9, 3) := by decide +kernel
theorem dX8_accepts_24 : decode cX8_accepts 24 = .ok (.aload_n 0, 1) := by decide +kernel
theorem dX8_accepts_25 : decode cX8_accepts 25 = .ok (.iconst 2, 1) := by decide +kernel
theorem dX8_accepts_26 : decode cX8_accepts 26 = .ok (.invokevirtual 62, 3) := by decide +kernel
theorem dX8_accepts_29 : decode cX8_accepts 29 = .ok (.ireturn, 1) := by decide +kernel
theorem dX8_accepts_30 : decode cX8_accepts 30 = .ok (.aload_n 0, 1) := by decide +kernel
theorem dX8_accepts_31 : decode cX8_accepts 31 = .ok (.getfield 16, 3) := by decide +kernel
theorem dX8_accepts_34 : decode cX8_accepts 34 = .ok (.bipush 107, 2) := by decide +kernel
theorem dX8_accepts_36 : decode cX8_accepts 36 = .ok (.iload_n 1, 1) := by decide +kernel
theorem dX8_accepts_37 : decode cX8_accepts 37 = .ok (.iadd, 1) := by decide +kernel
theorem dX8_accepts_38 : decode cX8_accepts 38 = .ok (.iaload, 1) := by decide +kernel
theorem dX8_accepts_39 : decode cX8_accepts 39 = .ok (.iconst 1, 1) := by decide +kernel
theorem dX8_accepts_40 : decode cX8_accepts 40 = .ok (.if_icmp .ne 9, 3) := by decide +kernel
theorem dX8_accepts_43 : decode cX8_accepts 43 = .ok (.aload_n 0, 1) := by decide +kernel
theorem dX8_accepts_44 : decode cX8_accepts 44 = .ok (.iconst 3, 1) := by decide +kernel
theorem dX8_accepts_45 : decode cX8_accepts 45 = .ok (.invokevirtual 62, 3) := by decide +kernel
theorem dX8_accepts_48 : decode cX8_accepts 48 = .ok (.ireturn, 1) := by decide +kernel
theorem dX8_accepts_49 : decode cX8_accepts 49 = .ok (.aload_n 0, 1) := by decide +kernel
theorem dX8_accepts_50 : decode cX8_accepts 50 = .ok (.getfield 16, 3) := by decide +kernel
theorem dX8_accepts_53 : decode cX8_accepts 53 = .ok (.bipush 107, 2) := by decide +kernel
theorem dX8_accepts_55 : decode cX8_accepts 55 = .ok (.iload_n 1, 1) := by decide +kernel
theorem dX8_accepts_56 : decode cX8_accepts 56 = .ok (.iadd, 1) := by decide +kernel
theorem dX8_accepts_57 : decode cX8_accepts 57 = .ok (.iconst 1, 1) := by decide +kernel
theorem dX8_accepts_58 : decode cX8_accepts 58 = .ok (.iastore, 1) := by decide +kernel
theorem dX8_accepts_59 : decode cX8_accepts 59 = .ok (.iconst 2, 1) := by decide +kernel
theorem dX8_accepts_60 : decode cX8_accepts 60 = .ok (.aload_n 0, 1) := by decide +kernel
theorem dX8_accepts_61 : decode cX8_accepts 61 = .ok (.bipush 107, 2) := by decide +kernel
theorem dX8_accepts_63 : decode cX8_accepts 63 = .ok (.iconst 1, 1) := by decide +kernel
theorem dX8_accepts_64 : decode cX8_accepts 64 = .ok (.invokevirtual 111, 3) := by decide +kernel
theorem dX8_accepts_67 : decode cX8_accepts 67 = .ok (.imul, 1) := by decide +kernel
theorem dX8_accepts_68 : decode cX8_accepts 68 = .ok (.aload_n 0, 1) := by decide +kernel
theorem dX8_accepts_69 : decode cX8_accepts 69 = .ok (.getfield 16, 3) := by decide +kernel
theorem dX8_accepts_72 : decode cX8_accepts 72 = .ok (.iconst 0, 1) := by decide +kernel
theorem dX8_accepts_73 : decode cX8_accepts 73 = .ok (.iaload, 1) := by decide +kernel
theorem dX8_accepts_74 : decode cX8_accepts 74 = .ok (.if_icmp .gt 5, 3) := by decide +kernel
theorem dX8_accepts_77 : decode cX8_accepts 77 = .ok (.iconst 0, 1) := by decide +kernel
theorem dX8_accepts_78 : decode cX8_accepts 78 = .ok (.ireturn, 1) := by decide +kernel
theorem dX8_accepts_79 : decode cX8_accepts 79 = .ok (.aload_n 0, 1) := by decide +kernel
theorem dX8_accepts_80 : decode cX8_accepts 80 = .ok (.invokevirtual 142, 3) := by decide +kernel
theorem dX8_accepts_83 : decode cX8_accepts 83 = .ok (.iconst 1, 1) := by decide +kernel
theorem dX8_accepts_84 : decode cX8_accepts 84 = .ok (.ireturn, 1) := by decide +kernel
theorem dX8_accept_0 : decode cX8_accept 0 = .ok (.aload_n 0, 1) := by decide +kernel
theorem dX8_accept_1 : decode cX8_accept 1 = .ok (.invokevirtual 66, 3) := by decide +kernel
theorem dX8_accept_4 : decode cX8_accept 4 = .ok (.aload_n 0, 1) := by decide +kernel
theorem dX8_accept_5 : decode cX8_accept 5 = .ok (.aload_n 0, 1) := by decide +kernel
theorem dX8_accept_6 : decode cX8_accept 6 = .ok (.iload_n 1, 1) := by decide +kernel
theorem dX8_accept_7 : decode cX8_accept 7 = .ok (.invokevirtual 145, 3) := by decide +kernel
theorem dX8_accept_10 : decode cX8_accept 10 = .ok (.invokevirtual 73, 3) := by decide +kernel
theorem dX8_accept_13 : decode cX8_accept 13 = .ok (.iconst 1, 1) := by decide +kernel
theorem dX8_accept_14 : decode cX8_accept 14 = .ok (.if_icmp .ne 7, 3) := by decide +kernel
theorem dX8_accept_17 : decode cX8_accept 17 = .ok (.iconst 1, 1) := by decide +kernel
theorem dX8_accept_18 : decode cX8_accept 18 = .ok (.goto 4, 3) := by decide +kernel
theorem dX8_accept_21 : decode cX8_accept 21 = .ok (.iconst 0, 1) := by decide +kernel
theorem dX8_accept_22 : decode cX8_accept 22 = .ok (.ireturn, 1) := by decide +kernel
theorem dX8_offerPercent_0 : decode cX8_offerPercent 0 = .ok (.aload_n 0, 1) := by decide +kernel
theorem dX8_offerPercent_1 : decode cX8_offerPercent 1 = .ok (.aload_n 0, 1) := by decide +kernel
theorem dX8_offerPercent_2 : decode cX8_offerPercent 2 = .ok (.getfield 16, 3) := by decide +kernel
theorem dX8_offerPercent_5 : decode cX8_offerPercent 5 = .ok (.bipush 8, 2) := by decide +kernel
theorem dX8_offerPercent_7 : decode cX8_offerPercent 7 = .ok (.iaload, 1) := by decide +kernel
theorem dX8_offerPercent_8 : decode cX8_offerPercent 8 = .ok (.ifCond .ne 7, 3) := by decide +kernel
theorem dX8_offerPercent_11 : decode cX8_offerPercent 11 = .ok (.iconst 1, 1) := by decide +kernel
theorem dX8_offerPercent_12 : decode cX8_offerPercent 12 = .ok (.goto 4, 3) := by decide +kernel
theorem dX8_offerPercent_15 : decode cX8_offerPercent 15 = .ok (.iconst 0, 1) := by decide +kernel
theorem dX8_offerPercent_16 : decode cX8_offerPercent 16 = .ok (.putfield 44, 3) := by decide +kernel
theorem dX8_offerPercent_19 : decode cX8_offerPercent 19 = .ok (.aload_n 0, 1) := by decide +kernel
theorem dX8_offerPercent_20 : decode cX8_offerPercent 20 = .ok (.getfield 16, 3) := by decide +kernel
theorem dX8_offerPercent_23 : decode cX8_offerPercent 23 = .ok (.bipush 8, 2) := by decide +kernel
theorem dX8_offerPercent_25 : decode cX8_offerPercent 25 = .ok (.iaload, 1) := by decide +kernel
theorem dX8_offerPercent_26 : decode cX8_offerPercent 26 = .ok (.ireturn, 1) := by decide +kernel
theorem dX8_acceptances_0 : decode cX8_acceptances 0 = .ok (.aload_n 0, 1) := by decide +kernel
theorem dX8_acceptances_1 : decode cX8_acceptances 1 = .ok (.aload_n 0, 1) := by decide +kernel
theorem dX8_acceptances_2 : decode cX8_acceptances 2 = .ok (.getfield 16, 3) := by decide +kernel
theorem dX8_acceptances_5 : decode cX8_acceptances 5 = .ok (.bipush 8, 2) := by decide +kernel
theorem dX8_acceptances_7 : decode cX8_acceptances 7 = .ok (.iaload, 1) := by decide +kernel
theorem dX8_acceptances_8 : decode cX8_acceptances 8 = .ok (.ifCond .ne 7, 3) := by decide +kernel
theorem dX8_acceptances_11 : decode cX8_acceptances 11 = .ok (.iconst 1, 1) := by decide +kernel
theorem dX8_acceptances_12 : decode cX8_acceptances 12 = .ok (.goto 4, 3) := by decide +kernel
theorem dX8_acceptances_15 : decode cX8_acceptances 15 = .ok (.iconst 0, 1) := by decide +kernel
theorem dX8_acceptances_16 : decode cX8_acceptances 16 = .ok (.putfield 44, 3) := by decide +kernel
theorem dX8_acceptances_19 : decode cX8_acceptances 19 = .ok (.aload_n 0, 1) := by decide +kernel
theorem dX8_acceptances_20 : decode cX8_acceptances 20 = .ok (.getfield 44, 3) := by decide +kernel
theorem dX8_acceptances_23 : decode cX8_acceptances 23 = .ok (.ifCond .ne 13, 3) := by decide +kernel
theorem dX8_acceptances_26 : decode cX8_acceptances 26 = .ok (.aload_n 0, 1) := by decide +kernel
theorem dX8_acceptances_27 : decode cX8_acceptances 27 = .ok (.bipush 107, 2) := by decide +kernel
theorem dX8_acceptances_29 : decode cX8_acceptances 29 = .ok (.iconst 1, 1) := by decide +kernel
theorem dX8_acceptances_30 : decode cX8_acceptances 30 = .ok (.invokevirtual 111, 3) := by decide +kernel
theorem dX8_acceptances_33 : decode cX8_acceptances 33 = .ok (.goto 4, 3) := by decide +kernel
theorem dX8_acceptances_36 : decode cX8_acceptances 36 = .ok (.iconst 0, 1) := by decide +kernel
theorem dX8_acceptances_37 : decode cX8_acceptances 37 = .ok (.ireturn, 1) := by decide +kernel
theorem dX8_offeredRate_0 : decode cX8_offeredRate 0 = .ok (.aload_n 0, 1) := by decide +kernel
theorem dX8_offeredRate_1 : decode cX8_offeredRate 1 = .ok (.aload_n 0, 1) := by decide +kernel
theorem dX8_offeredRate_2 : decode cX8_offeredRate 2 = .ok (.iload_n 1, 1) := by decide +kernel
theorem dX8_offeredRate_3 : decode cX8_offeredRate 3 = .ok (.invokevirtual 76, 3) := by decide +kernel
theorem dX8_offeredRate_6 : decode cX8_offeredRate 6 = .ok (.ifCond .ne 7, 3) := by decide +kernel
theorem dX8_offeredRate_9 : decode cX8_offeredRate 9 = .ok (.iconst 1, 1) := by decide +kernel
theorem dX8_offeredRate_10 : decode cX8_offeredRate 10 = .ok (.goto 18, 3) := by decide +kernel
theorem dX8_offeredRate_13 : decode cX8_offeredRate 13 = .ok (.aload_n 0, 1) := by decide +kernel
theorem dX8_offeredRate_14 : decode cX8_offeredRate 14 = .ok (.getfield 16, 3) := by decide +kernel
theorem dX8_offeredRate_17 : decode cX8_offeredRate 17 = .ok (.bipush 8, 2) := by decide +kernel
theorem dX8_offeredRate_19 : decode cX8_offeredRate 19 = .ok (.iaload, 1) := by decide +kernel
theorem dX8_offeredRate_20 : decode cX8_offeredRate 20 = .ok (.ifCond .ne 7, 3) := by decide +kernel
theorem dX8_offeredRate_23 : decode cX8_offeredRate 23 = .ok (.iconst 2, 1) := by decide +kernel
theorem dX8_offeredRate_24 : decode cX8_offeredRate 24 = .ok (.goto 4, 3) := by decide +kernel
theorem dX8_offeredRate_27 : decode cX8_offeredRate 27 = .ok (.iconst 0, 1) := by decide +kernel
theorem dX8_offeredRate_28 : decode cX8_offeredRate 28 = .ok (.putfield 44, 3) := by decide +kernel
theorem dX8_offeredRate_31 : decode cX8_offeredRate 31 = .ok (.aload_n 0, 1) := by decide +kernel
theorem dX8_offeredRate_32 : decode cX8_offeredRate 32 = .ok (.getfield 44, 3) := by decide +kernel
theorem dX8_offeredRate_35 : decode cX8_offeredRate 35 = .ok (.ifCond .ne 11, 3) := by decide +kernel
theorem dX8_offeredRate_38 : decode cX8_offeredRate 38 = .ok (.aload_n 0, 1) := by decide +kernel
theorem dX8_offeredRate_39 : decode cX8_offeredRate 39 = .ok (.iload_n 1, 1) := by decide +kernel
theorem dX8_offeredRate_40 : decode cX8_offeredRate 40 = .ok (.invokevirtual 139, 3) := by decide +kernel
theorem dX8_offeredRate_43 : decode cX8_offeredRate 43 = .ok (.goto 4, 3) := by decide +kernel
theorem dX8_offeredRate_46 : decode cX8_offeredRate 46 = .ok (.iconst 0, 1) := by decide +kernel
theorem dX8_offeredRate_47 : decode cX8_offeredRate 47 = .ok (.ireturn, 1) := by decide +kernel
theorem dX8_wageTotal_0 : decode cX8_wageTotal 0 = .ok (.aload_n 0, 1) := by decide +kernel
theorem dX8_wageTotal_1 : decode cX8_wageTotal 1 = .ok (.iconst 0, 1) := by decide +kernel
theorem dX8_wageTotal_2 : decode cX8_wageTotal 2 = .ok (.putfield 44, 3) := by decide +kernel
theorem dX8_wageTotal_5 : decode cX8_wageTotal 5 = .ok (.lconst 0, 1) := by decide +kernel
theorem dX8_wageTotal_6 : decode cX8_wageTotal 6 = .ok (.lstore_n 1, 1) := by decide +kernel
theorem dX8_wageTotal_7 : decode cX8_wageTotal 7 = .ok (.iconst 0, 1) := by decide +kernel
theorem dX8_wageTotal_8 : decode cX8_wageTotal 8 = .ok (.istore_n 3, 1) := by decide +kernel
theorem dX8_wageTotal_9 : decode cX8_wageTotal 9 = .ok (.iload_n 3, 1) := by decide +kernel
theorem dX8_wageTotal_10 : decode cX8_wageTotal 10 = .ok (.aload_n 0, 1) := by decide +kernel
theorem dX8_wageTotal_11 : decode cX8_wageTotal 11 = .ok (.getfield 16, 3) := by decide +kernel
theorem dX8_wageTotal_14 : decode cX8_wageTotal 14 = .ok (.iconst 0, 1) := by decide +kernel
theorem dX8_wageTotal_15 : decode cX8_wageTotal 15 = .ok (.iaload, 1) := by decide +kernel
theorem dX8_wageTotal_16 : decode cX8_wageTotal 16 = .ok (.if_icmp .ge 22, 3) := by decide +kernel
theorem dX8_wageTotal_19 : decode cX8_wageTotal 19 = .ok (.lload_n 1, 1) := by decide +kernel
theorem dX8_wageTotal_20 : decode cX8_wageTotal 20 = .ok (.aload_n 0, 1) := by decide +kernel
theorem dX8_wageTotal_21 : decode cX8_wageTotal 21 = .ok (.getfield 16, 3) := by decide +kernel
theorem dX8_wageTotal_24 : decode cX8_wageTotal 24 = .ok (.bipush 47, 2) := by decide +kernel
theorem dX8_wageTotal_26 : decode cX8_wageTotal 26 = .ok (.iload_n 3, 1) := by decide +kernel
theorem dX8_wageTotal_27 : decode cX8_wageTotal 27 = .ok (.iadd, 1) := by decide +kernel
theorem dX8_wageTotal_28 : decode cX8_wageTotal 28 = .ok (.iaload, 1) := by decide +kernel
theorem dX8_wageTotal_29 : decode cX8_wageTotal 29 = .ok (.i2l, 1) := by decide +kernel
theorem dX8_wageTotal_30 : decode cX8_wageTotal 30 = .ok (.ladd, 1) := by decide +kernel
theorem dX8_wageTotal_31 : decode cX8_wageTotal 31 = .ok (.lstore_n 1, 1) := by decide +kernel
theorem dX8_wageTotal_32 : decode cX8_wageTotal 32 = .ok (.iinc 3 1, 3) := by decide +kernel
theorem dX8_wageTotal_35 : decode cX8_wageTotal 35 = .ok (.goto (-26), 3) := by decide +kernel
theorem dX8_wageTotal_38 : decode cX8_wageTotal 38 = .ok (.lload_n 1, 1) := by decide +kernel
theorem dX8_wageTotal_39 : decode cX8_wageTotal 39 = .ok (.lreturn, 1) := by decide +kernel
theorem dX8_lost_0 : decode cX8_lost 0 = .ok (.iconst 0, 1) := by decide +kernel
theorem dX8_lost_1 : decode cX8_lost 1 = .ok (.istore_n 1, 1) := by decide +kernel
theorem dX8_lost_2 : decode cX8_lost 2 = .ok (.iconst 0, 1) := by decide +kernel
theorem dX8_lost_3 : decode cX8_lost 3 = .ok (.istore_n 2, 1) := by decide +kernel
theorem dX8_lost_4 : decode cX8_lost 4 = .ok (.iload_n 2, 1) := by decide +kernel
theorem dX8_lost_5 : decode cX8_lost 5 = .ok (.aload_n 0, 1) := by decide +kernel
theorem dX8_lost_6 : decode cX8_lost 6 = .ok (.getfield 16, 3) := by decide +kernel
theorem dX8_lost_9 : decode cX8_lost 9 = .ok (.iconst 0, 1) := by decide +kernel
theorem dX8_lost_10 : decode cX8_lost 10 = .ok (.iaload, 1) := by decide +kernel
theorem dX8_lost_11 : decode cX8_lost 11 = .ok (.if_icmp .ge 21, 3) := by decide +kernel
theorem dX8_lost_14 : decode cX8_lost 14 = .ok (.iload_n 1, 1) := by decide +kernel
theorem dX8_lost_15 : decode cX8_lost 15 = .ok (.aload_n 0, 1) := by decide +kernel
theorem dX8_lost_16 : decode cX8_lost 16 = .ok (.getfield 16, 3) := by decide +kernel
theorem dX8_lost_19 : decode cX8_lost 19 = .ok (.bipush 71, 2) := by decide +kernel
theorem dX8_lost_21 : decode cX8_lost 21 = .ok (.iload_n 2, 1) := by decide +kernel
theorem dX8_lost_22 : decode cX8_lost 22 = .ok (.iadd, 1) := by decide +kernel
theorem dX8_lost_23 : decode cX8_lost 23 = .ok (.iaload, 1) := by decide +kernel
theorem dX8_lost_24 : decode cX8_lost 24 = .ok (.iadd, 1) := by decide +kernel
theorem dX8_lost_25 : decode cX8_lost 25 = .ok (.istore_n 1, 1) := by decide +kernel
theorem dX8_lost_26 : decode cX8_lost 26 = .ok (.iinc 2 1, 3) := by decide +kernel
theorem dX8_lost_29 : decode cX8_lost 29 = .ok (.goto (-25), 3) := by decide +kernel
theorem dX8_lost_32 : decode cX8_lost 32 = .ok (.iload_n 1, 1) := by decide +kernel
theorem dX8_lost_33 : decode cX8_lost 33 = .ok (.ireturn, 1) := by decide +kernel
theorem dX8_lostTotal_0 : decode cX8_lostTotal 0 = .ok (.aload_n 0, 1) := by decide +kernel
theorem dX8_lostTotal_1 : decode cX8_lostTotal 1 = .ok (.iconst 0, 1) := by decide +kernel
theorem dX8_lostTotal_2 : decode cX8_lostTotal 2 = .ok (.putfield 44, 3) := by decide +kernel
theorem dX8_lostTotal_5 : decode cX8_lostTotal 5 = .ok (.aload_n 0, 1) := by decide +kernel
theorem dX8_lostTotal_6 : decode cX8_lostTotal 6 = .ok (.invokevirtual 148, 3) := by decide +kernel
theorem dX8_lostTotal_9 : decode cX8_lostTotal 9 = .ok (.ireturn, 1) := by decide +kernel
theorem dX8_lostTotalByRoofs_0 : decode cX8_lostTotalByRoofs 0 = .ok (.aload_n 0, 1) := by decide +kernel
theorem dX8_lostTotalByRoofs_1 : decode cX8_lostTotalByRoofs 1 = .ok (.iconst 0, 1) := by decide +kernel
theorem dX8_lostTotalByRoofs_2 : decode cX8_lostTotalByRoofs 2 = .ok (.putfield 44, 3) := by decide +kernel
theorem dX8_lostTotalByRoofs_5 : decode cX8_lostTotalByRoofs 5 = .ok (.aload_n 0, 1) := by decide +kernel
theorem dX8_lostTotalByRoofs_6 : decode cX8_lostTotalByRoofs 6 = .ok (.invokevirtual 148, 3) := by decide +kernel
theorem dX8_lostTotalByRoofs_9 : decode cX8_lostTotalByRoofs 9 = .ok (.ireturn, 1) := by decide +kernel
theorem dX8_stepTotal_0 : decode cX8_stepTotal 0 = .ok (.aload_n 0, 1) := by decide +kernel
theorem dX8_stepTotal_1 : decode cX8_stepTotal 1 = .ok (.bipush 9, 2) := by decide +kernel
theorem dX8_stepTotal_3 : decode cX8_stepTotal 3 = .ok (.invokevirtual 79, 3) := by decide +kernel
theorem dX8_stepTotal_6 : decode cX8_stepTotal 6 = .ok (.ireturn, 1) := by decide +kernel
theorem dX8_settlementCount_0 : decode cX8_settlementCount 0 = .ok (.aload_n 0, 1) := by decide +kernel
theorem dX8_settlementCount_1 : decode cX8_settlementCount 1 = .ok (.bipush 10, 2) := by decide +kernel
theorem dX8_settlementCount_3 : decode cX8_settlementCount 3 = .ok (.invokevirtual 79, 3) := by decide +kernel
theorem dX8_settlementCount_6 : decode cX8_settlementCount 6 = .ok (.ireturn, 1) := by decide +kernel
theorem dX8_append_0 : decode cX8_append 0 = .ok (.aload_n 0, 1) := by decide +kernel
theorem dX8_append_1 : decode cX8_append 1 = .ok (.iload_n 1, 1) := by decide +kernel
theorem dX8_append_2 : decode cX8_append 2 = .ok (.bipush 32, 2) := by decide +kernel
theorem dX8_append_4 : decode cX8_append 4 = .ok (.bipush 126, 2) := by decide +kernel
theorem dX8_append_6 : decode cX8_append 6 = .ok (.invokestatic 54, 3) := by decide +kernel
theorem dX8_append_9 : decode cX8_append 9 = .ok (.ifCond .ne 7, 3) := by decide +kernel
theorem dX8_append_12 : decode cX8_append 12 = .ok (.iconst 1, 1) := by decide +kernel
theorem dX8_append_13 : decode cX8_append 13 = .ok (.goto 17, 3) := by decide +kernel
theorem dX8_append_16 : decode cX8_append 16 = .ok (.aload_n 0, 1) := by decide +kernel
theorem dX8_append_17 : decode cX8_append 17 = .ok (.getfield 151, 3) := by decide +kernel
theorem dX8_append_20 : decode cX8_append 20 = .ok (.bipush 60, 2) := by decide +kernel
theorem dX8_append_22 : decode cX8_append 22 = .ok (.if_icmp .ne 7, 3) := by decide +kernel
theorem dX8_append_25 : decode cX8_append 25 = .ok (.iconst 2, 1) := by decide +kernel
theorem dX8_append_26 : decode cX8_append 26 = .ok (.goto 4, 3) := by decide +kernel
theorem dX8_append_29 : decode cX8_append 29 = .ok (.iconst 0, 1) := by decide +kernel
theorem dX8_append_30 : decode cX8_append 30 = .ok (.putfield 44, 3) := by decide +kernel
theorem dX8_append_33 : decode cX8_append 33 = .ok (.aload_n 0, 1) := by decide +kernel
theorem dX8_append_34 : decode cX8_append 34 = .ok (.getfield 44, 3) := by decide +kernel
theorem dX8_append_37 : decode cX8_append 37 = .ok (.ifCond .eq 5, 3) := by decide +kernel
theorem dX8_append_40 : decode cX8_append 40 = .ok (.iconst 0, 1) := by decide +kernel
theorem dX8_append_41 : decode cX8_append 41 = .ok (.ireturn, 1) := by decide +kernel
theorem dX8_append_42 : decode cX8_append 42 = .ok (.aload_n 0, 1) := by decide +kernel
theorem dX8_append_43 : decode cX8_append 43 = .ok (.getfield 29, 3) := by decide +kernel
theorem dX8_append_46 : decode cX8_append 46 = .ok (.aload_n 0, 1) := by decide +kernel
theorem dX8_append_47 : decode cX8_append 47 = .ok (.getfield 151, 3) := by decide +kernel
theorem dX8_append_50 : decode cX8_append 50 = .ok (.iload_n 1, 1) := by decide +kernel
theorem dX8_append_51 : decode cX8_append 51 = .ok (.iastore, 1) := by decide +kernel
theorem dX8_append_52 : decode cX8_append 52 = .ok (.aload_n 0, 1) := by decide +kernel
theorem dX8_append_53 : decode cX8_append 53 = .ok (.dup, 1) := by decide +kernel
theorem dX8_append_54 : decode cX8_append 54 = .ok (.getfield 151, 3) := by decide +kernel
theorem dX8_append_57 : decode cX8_append 57 = .ok (.iconst 1, 1) := by decide +kernel
theorem dX8_append_58 : decode cX8_append 58 = .ok (.iadd, 1) := by decide +kernel
theorem dX8_append_59 : decode cX8_append 59 = .ok (.putfield 151, 3) := by decide +kernel
theorem dX8_append_62 : decode cX8_append 62 = .ok (.aload_n 0, 1) := by decide +kernel
theorem dX8_append_63 : decode cX8_append 63 = .ok (.getfield 151, 3) := by decide +kernel
theorem dX8_append_66 : decode cX8_append 66 = .ok (.ireturn, 1) := by decide +kernel
theorem dX8_sign_0 : decode cX8_sign 0 = .ok (.aload_n 0, 1) := by decide +kernel
theorem dX8_sign_1 : decode cX8_sign 1 = .ok (.getfield 154, 3) := by decide +kernel
theorem dX8_sign_4 : decode cX8_sign 4 = .ok (.aload_n 0, 1) := by decide +kernel
theorem dX8_sign_5 : decode cX8_sign 5 = .ok (.getfield 157, 3) := by decide +kernel
theorem dX8_sign_8 : decode cX8_sign 8 = .ok (.if_icmp .ge 15, 3) := by decide +kernel
theorem dX8_sign_11 : decode cX8_sign 11 = .ok (.aload_n 0, 1) := by decide +kernel
theorem dX8_sign_12 : decode cX8_sign 12 = .ok (.getfield 29, 3) := by decide +kernel
theorem dX8_sign_15 : decode cX8_sign 15 = .ok (.aload_n 0, 1) := by decide +kernel
theorem dX8_sign_16 : decode cX8_sign 16 = .ok (.getfield 154, 3) := by decide +kernel
theorem dX8_sign_19 : decode cX8_sign 19 = .ok (.iaload, 1) := by decide +kernel
theorem dX8_sign_20 : decode cX8_sign 20 = .ok (.goto 4, 3) := by decide +kernel
theorem dX8_sign_23 : decode cX8_sign 23 = .ok (.iconst (-1), 1) := by decide +kernel
theorem dX8_sign_24 : decode cX8_sign 24 = .ok (.ireturn, 1) := by decide +kernel
theorem dX8_mark_0 : decode cX8_mark 0 = .ok (.aload_n 0, 1) := by decide +kernel
theorem dX8_mark_1 : decode cX8_mark 1 = .ok (.getfield 160, 3) := by decide +kernel
theorem dX8_mark_4 : decode cX8_mark 4 = .ok (.ifCond .eq 4, 3) := by decide +kernel
theorem dX8_mark_7 : decode cX8_mark 7 = .ok (.return_, 1) := by decide +kernel
theorem dX8_mark_8 : decode cX8_mark 8 = .ok (.aload_n 0, 1) := by decide +kernel
theorem dX8_mark_9 : decode cX8_mark 9 = .ok (.aload_n 0, 1) := by decide +kernel
theorem dX8_mark_10 : decode cX8_mark 10 = .ok (.invokevirtual 164, 3) := by decide +kernel
theorem dX8_mark_13 : decode cX8_mark 13 = .ok (.iload_n 1, 1) := by decide +kernel
theorem dX8_mark_14 : decode cX8_mark 14 = .ok (.if_icmp .eq 7, 3) := by decide +kernel
theorem dX8_mark_17 : decode cX8_mark 17 = .ok (.iconst 1, 1) := by decide +kernel
theorem dX8_mark_18 : decode cX8_mark 18 = .ok (.goto 4, 3) := by decide +kernel
theorem dX8_mark_21 : decode cX8_mark 21 = .ok (.iconst 0, 1) := by decide +kernel
theorem dX8_mark_22 : decode cX8_mark 22 = .ok (.putfield 160, 3) := by decide +kernel
theorem dX8_mark_25 : decode cX8_mark 25 = .ok (.aload_n 0, 1) := by decide +kernel
theorem dX8_mark_26 : decode cX8_mark 26 = .ok (.dup, 1) := by decide +kernel
theorem dX8_mark_27 : decode cX8_mark 27 = .ok (.getfield 154, 3) := by decide +kernel
theorem dX8_mark_30 : decode cX8_mark 30 = .ok (.aload_n 0, 1) := by decide +kernel
theorem dX8_mark_31 : decode cX8_mark 31 = .ok (.getfield 160, 3) := by decide +kernel
theorem dX8_mark_34 : decode cX8_mark 34 = .ok (.ifCond .eq 7, 3) := by decide +kernel
theorem dX8_mark_37 : decode cX8_mark 37 = .ok (.iconst 0, 1) := by decide +kernel
theorem dX8_mark_38 : decode cX8_mark 38 = .ok (.goto 4, 3) := by decide +kernel
theorem dX8_mark_41 : decode cX8_mark 41 = .ok (.iconst 1, 1) := by decide +kernel
theorem dX8_mark_42 : decode cX8_mark 42 = .ok (.iadd, 1) := by decide +kernel
theorem dX8_mark_43 : decode cX8_mark 43 = .ok (.putfield 154, 3) := by decide +kernel
theorem dX8_mark_46 : decode cX8_mark 46 = .ok (.return_, 1) := by decide +kernel
theorem dX8_digits_0 : decode cX8_digits 0 = .ok (.iconst 0, 1) := by decide +kernel
theorem dX8_digits_1 : decode cX8_digits 1 = .ok (.istore_n 2, 1) := by decide +kernel
theorem dX8_digits_2 : decode cX8_digits 2 = .ok (.iconst 0, 1) := by decide +kernel
theorem dX8_digits_3 : decode cX8_digits 3 = .ok (.istore_n 3, 1) := by decide +kernel
theorem dX8_digits_4 : decode cX8_digits 4 = .ok (.aload_n 0, 1) := by decide +kernel
theorem dX8_digits_5 : decode cX8_digits 5 = .ok (.getfield 160, 3) := by decide +kernel
theorem dX8_digits_8 : decode cX8_digits 8 = .ok (.ifCond .ne 51, 3) := by decide +kernel
theorem dX8_digits_11 : decode cX8_digits 11 = .ok (.iload_n 3, 1) := by decide +kernel
theorem dX8_digits_12 : decode cX8_digits 12 = .ok (.iload_n 1, 1) := by decide +kernel
theorem dX8_digits_13 : decode cX8_digits 13 = .ok (.if_icmp .ge 46, 3) := by decide +kernel
theorem dX8_digits_16 : decode cX8_digits 16 = .ok (.aload_n 0, 1) := by decide +kernel
theorem dX8_digits_17 : decode cX8_digits 17 = .ok (.invokevirtual 164, 3) := by decide +kernel
theorem dX8_digits_20 : decode cX8_digits 20 = .ok (.bipush 48, 2) := by decide +kernel
theorem dX8_digits_22 : decode cX8_digits 22 = .ok (.bipush 57, 2) := by decide +kernel
theorem dX8_digits_24 : decode cX8_digits 24 = .ok (.invokestatic 54, 3) := by decide +kernel
theorem dX8_digits_27 : decode cX8_digits 27 = .ok (.ifCond .eq 32, 3) := by decide +kernel
theorem dX8_digits_30 : decode cX8_digits 30 = .ok (.bipush 10, 2) := by decide +kernel
theorem dX8_digits_32 : decode cX8_digits 32 = .ok (.iload_n 2, 1) := by decide +kernel
theorem dX8_digits_33 : decode cX8_digits 33 = .ok (.imul, 1) := by decide +kernel
theorem dX8_digits_34 : decode cX8_digits 34 = .ok (.aload_n 0, 1) := by decide +kernel
theorem dX8_digits_35 : decode cX8_digits 35 = .ok (.invokevirtual 164, 3) := by decide +kernel
theorem dX8_digits_38 : decode cX8_digits 38 = .ok (.iadd, 1) := by decide +kernel
theorem dX8_digits_39 : decode cX8_digits 39 = .ok (.bipush 48, 2) := by decide +kernel
theorem dX8_digits_41 : decode cX8_digits 41 = .ok (.isub, 1) := by decide +kernel
theorem dX8_digits_42 : decode cX8_digits 42 = .ok (.istore_n 2, 1) := by decide +kernel
theorem dX8_digits_43 : decode cX8_digits 43 = .ok (.aload_n 0, 1) := by decide +kernel
theorem dX8_digits_44 : decode cX8_digits 44 = .ok (.dup, 1) := by decide +kernel
theorem dX8_digits_45 : decode cX8_digits 45 = .ok (.getfield 154, 3) := by decide +kernel
theorem dX8_digits_48 : decode cX8_digits 48 = .ok (.iconst 1, 1) := by decide +kernel
theorem dX8_digits_49 : decode cX8_digits 49 = .ok (.iadd, 1) := by decide +kernel
theorem dX8_digits_50 : decode cX8_digits 50 = .ok (.putfield 154, 3) := by decide +kernel
theorem dX8_digits_53 : decode cX8_digits 53 = .ok (.iinc 3 1, 3) := by decide +kernel
theorem dX8_digits_56 : decode cX8_digits 56 = .ok (.goto (-52), 3) := by decide +kernel
theorem dX8_digits_59 : decode cX8_digits 59 = .ok (.aload_n 0, 1) := by decide +kernel
theorem dX8_digits_60 : decode cX8_digits 60 = .ok (.dup, 1) := by decide +kernel
theorem dX8_digits_61 : decode cX8_digits 61 = .ok (.getfield 160, 3) := by decide +kernel
theorem dX8_digits_64 : decode cX8_digits 64 = .ok (.iload_n 3, 1) := by decide +kernel
theorem dX8_digits_65 : decode cX8_digits 65 = .ok (.ifCond .ne 7, 3) := by decide +kernel
theorem dX8_digits_68 : decode cX8_digits 68 = .ok (.iconst 1, 1) := by decide +kernel
theorem dX8_digits_69 : decode cX8_digits 69 = .ok (.goto 4, 3) := by decide +kernel
theorem dX8_digits_72 : decode cX8_digits 72 = .ok (.iconst 0, 1) := by decide +kernel
theorem dX8_digits_73 : decode cX8_digits 73 = .ok (.ior, 1) := by decide +kernel
theorem dX8_digits_74 : decode cX8_digits 74 = .ok (.putfield 160, 3) := by decide +kernel
theorem dX8_digits_77 : decode cX8_digits 77 = .ok (.iload_n 2, 1) := by decide +kernel
theorem dX8_digits_78 : decode cX8_digits 78 = .ok (.ireturn, 1) := by decide +kernel
theorem dX8_behind_0 : decode cX8_behind 0 = .ok (.aload_n 0, 1) := by decide +kernel
theorem dX8_behind_1 : decode cX8_behind 1 = .ok (.bipush 32, 2) := by decide +kernel
theorem dX8_behind_3 : decode cX8_behind 3 = .ok (.invokevirtual 167, 3) := by decide +kernel
theorem dX8_behind_6 : decode cX8_behind 6 = .ok (.aload_n 0, 1) := by decide +kernel
theorem dX8_behind_7 : decode cX8_behind 7 = .ok (.getfield 160, 3) := by decide +kernel
theorem dX8_behind_10 : decode cX8_behind 10 = .ok (.ifCond .eq 7, 3) := by decide +kernel
theorem dX8_behind_13 : decode cX8_behind 13 = .ok (.iconst 0, 1) := by decide +kernel
theorem dX8_behind_14 : decode cX8_behind 14 = .ok (.goto 8, 3) := by decide +kernel
theorem dX8_behind_17 : decode cX8_behind 17 = .ok (.aload_n 0, 1) := by decide +kernel
theorem dX8_behind_18 : decode cX8_behind 18 = .ok (.iload_n 1, 1) := by decide +kernel
theorem dX8_behind_19 : decode cX8_behind 19 = .ok (.invokevirtual 170, 3) := by decide +kernel
theorem dX8_behind_22 : decode cX8_behind 22 = .ok (.ireturn, 1) := by decide +kernel
theorem dX8_plus_0 : decode cX8_plus 0 = .ok (.aload_n 0, 1) := by decide +kernel
theorem dX8_plus_1 : decode cX8_plus 1 = .ok (.getfield 160, 3) := by decide +kernel
theorem dX8_plus_4 : decode cX8_plus 4 = .ok (.ifCond .eq 5, 3) := by decide +kernel
theorem dX8_plus_7 : decode cX8_plus 7 = .ok (.iconst 0, 1) := by decide +kernel
theorem dX8_plus_8 : decode cX8_plus 8 = .ok (.ireturn, 1) := by decide +kernel
theorem dX8_plus_9 : decode cX8_plus 9 = .ok (.aload_n 0, 1) := by decide +kernel
theorem dX8_plus_10 : decode cX8_plus 10 = .ok (.invokevirtual 164, 3) := by decide +kernel
theorem dX8_plus_13 : decode cX8_plus 13 = .ok (.istore_n 1, 1) := by decide +kernel
theorem dX8_plus_14 : decode cX8_plus 14 = .ok (.aload_n 0, 1) := by decide +kernel
theorem dX8_plus_15 : decode cX8_plus 15 = .ok (.iload_n 1, 1) := by decide +kernel
theorem dX8_plus_16 : decode cX8_plus 16 = .ok (.bipush 43, 2) := by decide +kernel
theorem dX8_plus_18 : decode cX8_plus 18 = .ok (.if_icmp .eq 13, 3) := by decide +kernel
theorem dX8_plus_21 : decode cX8_plus 21 = .ok (.iload_n 1, 1) := by decide +kernel
theorem dX8_plus_22 : decode cX8_plus 22 = .ok (.bipush 45, 2) := by decide +kernel
theorem dX8_plus_24 : decode cX8_plus 24 = .ok (.if_icmp .eq 7, 3) := by decide +kernel
theorem dX8_plus_27 : decode cX8_plus 27 = .ok (.iconst 1, 1) := by decide +kernel
theorem dX8_plus_28 : decode cX8_plus 28 = .ok (.goto 4, 3) := by decide +kernel
theorem dX8_plus_31 : decode cX8_plus 31 = .ok (.iconst 0, 1) := by decide +kernel
theorem dX8_plus_32 : decode cX8_plus 32 = .ok (.putfield 160, 3) := by decide +kernel
theorem dX8_plus_35 : decode cX8_plus 35 = .ok (.aload_n 0, 1) := by decide +kernel
theorem dX8_plus_36 : decode cX8_plus 36 = .ok (.dup, 1) := by decide +kernel
theorem dX8_plus_37 : decode cX8_plus 37 = .ok (.getfield 154, 3) := by decide +kernel
theorem dX8_plus_40 : decode cX8_plus 40 = .ok (.aload_n 0, 1) := by decide +kernel
theorem dX8_plus_41 : decode cX8_plus 41 = .ok (.getfield 160, 3) := by decide +kernel
theorem dX8_plus_44 : decode cX8_plus 44 = .ok (.ifCond .eq 7, 3) := by decide +kernel
theorem dX8_plus_47 : decode cX8_plus 47 = .ok (.iconst 0, 1) := by decide +kernel
theorem dX8_plus_48 : decode cX8_plus 48 = .ok (.goto 4, 3) := by decide +kernel
theorem dX8_plus_51 : decode cX8_plus 51 = .ok (.iconst 1, 1) := by decide +kernel
theorem dX8_plus_52 : decode cX8_plus 52 = .ok (.iadd, 1) := by decide +kernel
theorem dX8_plus_53 : decode cX8_plus 53 = .ok (.putfield 154, 3) := by decide +kernel
theorem dX8_plus_56 : decode cX8_plus 56 = .ok (.iload_n 1, 1) := by decide +kernel
theorem dX8_plus_57 : decode cX8_plus 57 = .ok (.bipush 43, 2) := by decide +kernel
theorem dX8_plus_59 : decode cX8_plus 59 = .ok (.if_icmp .ne 7, 3) := by decide +kernel
theorem dX8_plus_62 : decode cX8_plus 62 = .ok (.iconst 1, 1) := by decide +kernel
theorem dX8_plus_63 : decode cX8_plus 63 = .ok (.goto 4, 3) := by decide +kernel
theorem dX8_plus_66 : decode cX8_plus 66 = .ok (.iconst 2, 1) := by decide +kernel
theorem dX8_plus_67 : decode cX8_plus 67 = .ok (.ireturn, 1) := by decide +kernel
theorem dX8_word_0 : decode cX8_word 0 = .ok (.iconst 0, 1) := by decide +kernel
theorem dX8_word_1 : decode cX8_word 1 = .ok (.istore_n 1, 1) := by decide +kernel
theorem dX8_word_2 : decode cX8_word 2 = .ok (.iload_n 1, 1) := by decide +kernel
theorem dX8_word_3 : decode cX8_word 3 = .ok (.bipush 10, 2) := by decide +kernel
theorem dX8_word_5 : decode cX8_word 5 = .ok (.if_icmp .ge 16, 3) := by decide +kernel
theorem dX8_word_8 : decode cX8_word 8 = .ok (.aload_n 0, 1) := by decide +kernel
theorem dX8_word_9 : decode cX8_word 9 = .ok (.getfield 35, 3) := by decide +kernel
theorem dX8_word_12 : decode cX8_word 12 = .ok (.iload_n 1, 1) := by decide +kernel
theorem dX8_word_13 : decode cX8_word 13 = .ok (.iconst 1, 1) := by decide +kernel
theorem dX8_word_14 : decode cX8_word 14 = .ok (.iastore, 1) := by decide +kernel
theorem dX8_word_15 : decode cX8_word 15 = .ok (.iinc 1 1, 3) := by decide +kernel
theorem dX8_word_18 : decode cX8_word 18 = .ok (.goto (-16), 3) := by decide +kernel
theorem dX8_word_21 : decode cX8_word 21 = .ok (.iconst 0, 1) := by decide +kernel
theorem dX8_word_22 : decode cX8_word 22 = .ok (.istore_n 1, 1) := by decide +kernel
theorem dX8_word_23 : decode cX8_word 23 = .ok (.iconst (-1), 1) := by decide +kernel
theorem dX8_word_24 : decode cX8_word 24 = .ok (.istore_n 2, 1) := by decide +kernel
theorem dX8_word_25 : decode cX8_word 25 = .ok (.iload_n 2, 1) := by decide +kernel
theorem dX8_word_26 : decode cX8_word 26 = .ok (.ifCond .ge 196, 3) := by decide +kernel
theorem dX8_word_29 : decode cX8_word 29 = .ok (.aload_n 0, 1) := by decide +kernel
theorem dX8_word_30 : decode cX8_word 30 = .ok (.getfield 160, 3) := by decide +kernel
theorem dX8_word_33 : decode cX8_word 33 = .ok (.ifCond .ne 189, 3) := by decide +kernel
theorem dX8_word_36 : decode cX8_word 36 = .ok (.iconst 0, 1) := by decide +kernel
theorem dX8_word_37 : decode cX8_word 37 = .ok (.istore_n 3, 1) := by decide +kernel
theorem dX8_word_38 : decode cX8_word 38 = .ok (.iconst 0, 1) := by decide +kernel
theorem dX8_word_39 : decode cX8_word 39 = .ok (.istore 4, 2) := by decide +kernel
theorem dX8_word_41 : decode cX8_word 41 = .ok (.iload 4, 2) := by decide +kernel
theorem dX8_word_43 : decode cX8_word 43 = .ok (.bipush 10, 2) := by decide +kernel
theorem dX8_word_45 : decode cX8_word 45 = .ok (.if_icmp .ge 85, 3) := by decide +kernel
theorem dX8_word_48 : decode cX8_word 48 = .ok (.aload_n 0, 1) := by decide +kernel
theorem dX8_word_49 : decode cX8_word 49 = .ok (.getfield 35, 3) := by decide +kernel
theorem dX8_word_52 : decode cX8_word 52 = .ok (.iload 4, 2) := by decide +kernel
theorem dX8_word_54 : decode cX8_word 54 = .ok (.dup2, 1) := by decide +kernel
theorem dX8_word_55 : decode cX8_word 55 = .ok (.iaload, 1) := by decide +kernel
theorem dX8_word_56 : decode cX8_word 56 = .ok (.aload_n 0, 1) := by decide +kernel
theorem dX8_word_57 : decode cX8_word 57 = .ok (.getfield 41, 3) := by decide +kernel
theorem dX8_word_60 : decode cX8_word 60 = .ok (.iload 4, 2) := by decide +kernel
theorem dX8_word_62 : decode cX8_word 62 = .ok (.iaload, 1) := by decide +kernel
theorem dX8_word_63 : decode cX8_word 63 = .ok (.iload_n 1, 1) := by decide +kernel
theorem dX8_word_64 : decode cX8_word 64 = .ok (.iadd, 1) := by decide +kernel
theorem dX8_word_65 : decode cX8_word 65 = .ok (.aload_n 0, 1) := by decide +kernel
theorem dX8_word_66 : decode cX8_word 66 = .ok (.getfield 41, 3) := by decide +kernel
theorem dX8_word_69 : decode cX8_word 69 = .ok (.iload 4, 2) := by decide +kernel
theorem dX8_word_71 : decode cX8_word 71 = .ok (.iconst 1, 1) := by decide +kernel
theorem dX8_word_72 : decode cX8_word 72 = .ok (.iadd, 1) := by decide +kernel
theorem dX8_word_73 : decode cX8_word 73 = .ok (.iaload, 1) := by decide +kernel
theorem dX8_word_74 : decode cX8_word 74 = .ok (.if_icmp .ge 28, 3) := by decide +kernel
theorem dX8_word_77 : decode cX8_word 77 = .ok (.aload_n 0, 1) := by decide +kernel
theorem dX8_word_78 : decode cX8_word 78 = .ok (.getfield 38, 3) := by decide +kernel
theorem dX8_word_81 : decode cX8_word 81 = .ok (.aload_n 0, 1) := by decide +kernel
theorem dX8_word_82 : decode cX8_word 82 = .ok (.getfield 41, 3) := by decide +kernel
theorem dX8_word_85 : decode cX8_word 85 = .ok (.iload 4, 2) := by decide +kernel
theorem dX8_word_87 : decode cX8_word 87 = .ok (.iaload, 1) := by decide +kernel
theorem dX8_word_88 : decode cX8_word 88 = .ok (.iload_n 1, 1) := by decide +kernel
theorem dX8_word_89 : decode cX8_word 89 = .ok (.iadd, 1) := by decide +kernel
theorem dX8_word_90 : decode cX8_word 90 = .ok (.iaload, 1) := by decide +kernel
theorem dX8_word_91 : decode cX8_word 91 = .ok (.aload_n 0, 1) := by decide +kernel
theorem dX8_word_92 : decode cX8_word 92 = .ok (.invokevirtual 164, 3) := by decide +kernel
theorem dX8_word_95 : decode cX8_word 95 = .ok (.if_icmp .ne 7, 3) := by decide +kernel
theorem dX8_word_98 : decode cX8_word 98 = .ok (.iconst 1, 1) := by decide +kernel
theorem dX8_word_99 : decode cX8_word 99 = .ok (.goto 4, 3) := by decide +kernel
theorem dX8_word_102 : decode cX8_word 102 = .ok (.iconst 0, 1) := by decide +kernel
theorem dX8_word_103 : decode cX8_word 103 = .ok (.iand, 1) := by decide +kernel
theorem dX8_word_104 : decode cX8_word 104 = .ok (.iastore, 1) := by decide +kernel
theorem dX8_word_105 : decode cX8_word 105 = .ok (.iload_n 3, 1) := by decide +kernel
theorem dX8_word_106 : decode cX8_word 106 = .ok (.aload_n 0, 1) := by decide +kernel
theorem dX8_word_107 : decode cX8_word 107 = .ok (.getfield 35, 3) := by decide +kernel
theorem dX8_word_110 : decode cX8_word 110 = .ok (.iload 4, 2) := by decide +kernel
theorem dX8_word_112 : decode cX8_word 112 = .ok (.iaload, 1) := by decide +kernel
theorem dX8_word_113 : decode cX8_word 113 = .ok (.iconst 1, 1) := by decide +kernel
theorem dX8_word_114 : decode cX8_word 114 = .ok (.if_icmp .ne 7, 3) := by decide +kernel
theorem dX8_word_117 : decode cX8_word 117 = .ok (.iconst 1, 1) := by decide +kernel
theorem dX8_word_118 : decode cX8_word 118 = .ok (.goto 4, 3) := by decide +kernel
theorem dX8_word_121 : decode cX8_word 121 = .ok (.iconst 0, 1) := by decide +kernel
theorem dX8_word_122 : decode cX8_word 122 = .ok (.ior, 1) := by decide +kernel
theorem dX8_word_123 : decode cX8_word 123 = .ok (.istore_n 3, 1) := by decide +kernel
theorem dX8_word_124 : decode cX8_word 124 = .ok (.iinc 4 1, 3) := by decide +kernel
theorem dX8_word_127 : decode cX8_word 127 = .ok (.goto (-86), 3) := by decide +kernel
theorem dX8_word_130 : decode cX8_word 130 = .ok (.aload_n 0, 1) := by decide +kernel
theorem dX8_word_131 : decode cX8_word 131 = .ok (.iload_n 3, 1) := by decide +kernel
theorem dX8_word_132 : decode cX8_word 132 = .ok (.ifCond .ne 7, 3) := by decide +kernel
theorem dX8_word_135 : decode cX8_word 135 = .ok (.iconst 1, 1) := by decide +kernel
theorem dX8_word_136 : decode cX8_word 136 = .ok (.goto 4, 3) := by decide +kernel
theorem dX8_word_139 : decode cX8_word 139 = .ok (.iconst 0, 1) := by decide +kernel
theorem dX8_word_140 : decode cX8_word 140 = .ok (.putfield 160, 3) := by decide +kernel
theorem dX8_word_143 : decode cX8_word 143 = .ok (.aload_n 0, 1) := by decide +kernel
theorem dX8_word_144 : decode cX8_word 144 = .ok (.dup, 1) := by decide +kernel
theorem dX8_word_145 : decode cX8_word 145 = .ok (.getfield 154, 3) := by decide +kernel
theorem dX8_word_148 : decode cX8_word 148 = .ok (.iload_n 3, 1) := by decide +kernel
theorem dX8_word_149 : decode cX8_word 149 = .ok (.ifCond .eq 7, 3) := by decide +kernel
theorem dX8_word_152 : decode cX8_word 152 = .ok (.iconst 1, 1) := by decide +kernel
theorem dX8_word_153 : decode cX8_word 153 = .ok (.goto 4, 3) := by decide +kernel
theorem dX8_word_156 : decode cX8_word 156 = .ok (.iconst 0, 1) := by decide +kernel
theorem dX8_word_157 : decode cX8_word 157 = .ok (.iadd, 1) := by decide +kernel
theorem dX8_word_158 : decode cX8_word 158 = .ok (.putfield 154, 3) := by decide +kernel
theorem dX8_word_161 : decode cX8_word 161 = .ok (.iinc 1 1, 3) := by decide +kernel
theorem dX8_word_164 : decode cX8_word 164 = .ok (.iconst 0, 1) := by decide +kernel
theorem dX8_word_165 : decode cX8_word 165 = .ok (.istore 4, 2) := by decide +kernel
theorem dX8_word_167 : decode cX8_word 167 = .ok (.iload 4, 2) := by decide +kernel
theorem dX8_word_169 : decode cX8_word 169 = .ok (.bipush 10, 2) := by decide +kernel
theorem dX8_word_171 : decode cX8_word 171 = .ok (.if_icmp .ge 48, 3) := by decide +kernel
theorem dX8_word_174 : decode cX8_word 174 = .ok (.aload_n 0, 1) := by decide +kernel
theorem dX8_word_175 : decode cX8_word 175 = .ok (.getfield 35, 3) := by decide +kernel
theorem dX8_word_178 : decode cX8_word 178 = .ok (.iload 4, 2) := by decide +kernel
theorem dX8_word_180 : decode cX8_word 180 = .ok (.iaload, 1) := by decide +kernel
theorem dX8_word_181 : decode cX8_word 181 = .ok (.iconst 1, 1) := by decide +kernel
theorem dX8_word_182 : decode cX8_word 182 = .ok (.if_icmp .ne 29, 3) := by decide +kernel
theorem dX8_word_185 : decode cX8_word 185 = .ok (.aload_n 0, 1) := by decide +kernel
theorem dX8_word_186 : decode cX8_word 186 = .ok (.getfield 41, 3) := by decide +kernel
theorem dX8_word_189 : decode cX8_word 189 = .ok (.iload 4, 2) := by decide +kernel
theorem dX8_word_191 : decode cX8_word 191 = .ok (.iaload, 1) := by decide +kernel
theorem dX8_word_192 : decode cX8_word 192 = .ok (.iload_n 1, 1) := by decide +kernel
theorem dX8_word_193 : decode cX8_word 193 = .ok (.iadd, 1) := by decide +kernel
theorem dX8_word_194 : decode cX8_word 194 = .ok (.aload_n 0, 1) := by decide +kernel
theorem dX8_word_195 : decode cX8_word 195 = .ok (.getfield 41, 3) := by decide +kernel
theorem dX8_word_198 : decode cX8_word 198 = .ok (.iload 4, 2) := by decide +kernel
theorem dX8_word_200 : decode cX8_word 200 = .ok (.iconst 1, 1) := by decide +kernel
theorem dX8_word_201 : decode cX8_word 201 = .ok (.iadd, 1) := by decide +kernel
theorem dX8_word_202 : decode cX8_word 202 = .ok (.iaload, 1) := by decide +kernel
theorem dX8_word_203 : decode cX8_word 203 = .ok (.if_icmp .ne 8, 3) := by decide +kernel
theorem dX8_word_206 : decode cX8_word 206 = .ok (.iload 4, 2) := by decide +kernel
theorem dX8_word_208 : decode cX8_word 208 = .ok (.goto 4, 3) := by decide +kernel
theorem dX8_word_211 : decode cX8_word 211 = .ok (.iload_n 2, 1) := by decide +kernel
theorem dX8_word_212 : decode cX8_word 212 = .ok (.istore_n 2, 1) := by decide +kernel
theorem dX8_word_213 : decode cX8_word 213 = .ok (.iinc 4 1, 3) := by decide +kernel
theorem dX8_word_216 : decode cX8_word 216 = .ok (.goto (-49), 3) := by decide +kernel
theorem dX8_word_219 : decode cX8_word 219 = .ok (.goto (-194), 3) := by decide +kernel
theorem dX8_word_222 : decode cX8_word 222 = .ok (.iload_n 2, 1) := by decide +kernel
theorem dX8_word_223 : decode cX8_word 223 = .ok (.ireturn, 1) := by decide +kernel
theorem dX8_does_0 : decode cX8_does 0 = .ok (.iload_n 1, 1) := by decide +kernel
theorem dX8_does_1 : decode cX8_does 1 = .ok (.tableswitch 108 0 8 #[51, 58, 65, 71, 78, 83, 89, 96, 102], 51) := by decide +kernel
theorem dX8_does_52 : decode cX8_does 52 = .ok (.aload_n 0, 1) := by decide +kernel
theorem dX8_does_53 : decode cX8_does 53 = .ok (.iload_n 2, 1) := by decide +kernel
theorem dX8_does_54 : decode cX8_does 54 = .ok (.iload_n 3, 1) := by decide +kernel
theorem dX8_does_55 : decode cX8_does 55 = .ok (.invokevirtual 69, 3) := by decide +kernel
theorem dX8_does_58 : decode cX8_does 58 = .ok (.ireturn, 1) := by decide +kernel
theorem dX8_does_59 : decode cX8_does 59 = .ok (.aload_n 0, 1) := by decide +kernel
theorem dX8_does_60 : decode cX8_does 60 = .ok (.iload_n 2, 1) := by decide +kernel
theorem dX8_does_61 : decode cX8_does 61 = .ok (.iload_n 3, 1) := by decide +kernel
theorem dX8_does_62 : decode cX8_does 62 = .ok (.invokevirtual 89, 3) := by decide +kernel
theorem dX8_does_65 : decode cX8_does 65 = .ok (.ireturn, 1) := by decide +kernel
theorem dX8_does_66 : decode cX8_does 66 = .ok (.aload_n 0, 1) := by decide +kernel
theorem dX8_does_67 : decode cX8_does 67 = .ok (.iload_n 2, 1) := by decide +kernel
theorem dX8_does_68 : decode cX8_does 68 = .ok (.invokevirtual 108, 3) := by decide +kernel
theorem dX8_does_71 : decode cX8_does 71 = .ok (.ireturn, 1) := by decide +kernel
theorem dX8_does_72 : decode cX8_does 72 = .ok (.aload_n 0, 1) := by decide +kernel
theorem dX8_does_73 : decode cX8_does 73 = .ok (.iload_n 2, 1) := by decide +kernel
theorem dX8_does_74 : decode cX8_does 74 = .ok (.iload_n 3, 1) := by decide +kernel
theorem dX8_does_75 : decode cX8_does 75 = .ok (.invokevirtual 114, 3) := by decide +kernel
theorem dX8_does_78 : decode cX8_does 78 = .ok (.ireturn, 1) := by decide +kernel
theorem dX8_does_79 : decode cX8_does 79 = .ok (.aload_n 0, 1) := by decide +kernel
theorem dX8_does_80 : decode cX8_does 80 = .ok (.invokevirtual 117, 3) := by decide +kernel
theorem dX8_does_83 : decode cX8_does 83 = .ok (.ireturn, 1) := by decide +kernel
theorem dX8_does_84 : decode cX8_does 84 = .ok (.aload_n 0, 1) := by decide +kernel
theorem dX8_does_85 : decode cX8_does 85 = .ok (.iload_n 2, 1) := by decide +kernel
theorem dX8_does_86 : decode cX8_does 86 = .ok (.invokevirtual 121, 3) := by decide +kernel
theorem dX8_does_89 : decode cX8_does 89 = .ok (.ireturn, 1) := by decide +kernel
theorem dX8_does_90 : decode cX8_does 90 = .ok (.aload_n 0, 1) := by decide +kernel
theorem dX8_does_91 : decode cX8_does 91 = .ok (.iload_n 2, 1) := by decide +kernel
theorem dX8_does_92 : decode cX8_does 92 = .ok (.iload_n 3, 1) := by decide +kernel
theorem dX8_does_93 : decode cX8_does 93 = .ok (.invokevirtual 130, 3) := by decide +kernel
theorem dX8_does_96 : decode cX8_does 96 = .ok (.ireturn, 1) := by decide +kernel
theorem dX8_does_97 : decode cX8_does 97 = .ok (.aload_n 0, 1) := by decide +kernel
theorem dX8_does_98 : decode cX8_does 98 = .ok (.iload_n 2, 1) := by decide +kernel
theorem dX8_does_99 : decode cX8_does 99 = .ok (.invokevirtual 133, 3) := by decide +kernel
theorem dX8_does_102 : decode cX8_does 102 = .ok (.ireturn, 1) := by decide +kernel
theorem dX8_does_103 : decode cX8_does 103 = .ok (.aload_n 0, 1) := by decide +kernel
theorem dX8_does_104 : decode cX8_does 104 = .ok (.iload_n 2, 1) := by decide +kernel
theorem dX8_does_105 : decode cX8_does 105 = .ok (.invokevirtual 136, 3) := by decide +kernel
theorem dX8_does_108 : decode cX8_does 108 = .ok (.ireturn, 1) := by decide +kernel
theorem dX8_does_109 : decode cX8_does 109 = .ok (.aload_n 0, 1) := by decide +kernel
theorem dX8_does_110 : decode cX8_does 110 = .ok (.iload_n 2, 1) := by decide +kernel
theorem dX8_does_111 : decode cX8_does 111 = .ok (.invokevirtual 145, 3) := by decide +kernel
theorem dX8_does_114 : decode cX8_does 114 = .ok (.ireturn, 1) := by decide +kernel
theorem dX8_command_0 : decode cX8_command 0 = .ok (.aload_n 0, 1) := by decide +kernel
theorem dX8_command_1 : decode cX8_command 1 = .ok (.invokevirtual 173, 3) := by decide +kernel
theorem dX8_command_4 : decode cX8_command 4 = .ok (.istore_n 1, 1) := by decide +kernel
theorem dX8_command_5 : decode cX8_command 5 = .ok (.iconst 0, 1) := by decide +kernel
theorem dX8_command_6 : decode cX8_command 6 = .ok (.istore_n 2, 1) := by decide +kernel
theorem dX8_command_7 : decode cX8_command 7 = .ok (.iconst 0, 1) := by decide +kernel
theorem dX8_command_8 : decode cX8_command 8 = .ok (.istore_n 3, 1) := by decide +kernel
theorem dX8_command_9 : decode cX8_command 9 = .ok (.aload_n 0, 1) := by decide +kernel
theorem dX8_command_10 : decode cX8_command 10 = .ok (.getfield 160, 3) := by decide +kernel
theorem dX8_command_13 : decode cX8_command 13 = .ok (.ifCond .eq 4, 3) := by decide +kernel
theorem dX8_command_16 : decode cX8_command 16 = .ok (.return_, 1) := by decide +kernel
theorem dX8_command_17 : decode cX8_command 17 = .ok (.iload_n 1, 1) := by decide +kernel
theorem dX8_command_18 : decode cX8_command 18 = .ok (.ifCond .eq 14, 3) := by decide +kernel
theorem dX8_command_21 : decode cX8_command 21 = .ok (.iload_n 1, 1) := by decide +kernel
theorem dX8_command_22 : decode cX8_command 22 = .ok (.iconst 1, 1) := by decide +kernel
theorem dX8_command_23 : decode cX8_command 23 = .ok (.if_icmp .eq 9, 3) := by decide +kernel
theorem dX8_command_26 : decode cX8_command 26 = .ok (.iload_n 1, 1) := by decide +kernel
theorem dX8_command_27 : decode cX8_command 27 = .ok (.bipush 6, 2) := by decide +kernel
theorem dX8_command_29 : decode cX8_command 29 = .ok (.if_icmp .ne 7, 3) := by decide +kernel
theorem dX8_command_32 : decode cX8_command 32 = .ok (.iconst 1, 1) := by decide +kernel
theorem dX8_command_33 : decode cX8_command 33 = .ok (.goto 4, 3) := by decide +kernel
theorem dX8_command_36 : decode cX8_command 36 = .ok (.iconst 0, 1) := by decide +kernel
theorem dX8_command_37 : decode cX8_command 37 = .ok (.istore 4, 2) := by decide +kernel
theorem dX8_command_39 : decode cX8_command 39 = .ok (.iload_n 1, 1) := by decide +kernel
theorem dX8_command_40 : decode cX8_command 40 = .ok (.iconst 4, 1) := by decide +kernel
theorem dX8_command_41 : decode cX8_command 41 = .ok (.if_icmp .eq 18, 3) := by decide +kernel
theorem dX8_command_44 : decode cX8_command 44 = .ok (.aload_n 0, 1) := by decide +kernel
theorem dX8_command_45 : decode cX8_command 45 = .ok (.iload 4, 2) := by decide +kernel
theorem dX8_command_47 : decode cX8_command 47 = .ok (.ifCond .eq 7, 3) := by decide +kernel
theorem dX8_command_50 : decode cX8_command 50 = .ok (.iconst 1, 1) := by decide +kernel
theorem dX8_command_51 : decode cX8_command 51 = .ok (.goto 4, 3) := by decide +kernel
theorem dX8_command_54 : decode cX8_command 54 = .ok (.iconst 3, 1) := by decide +kernel
theorem dX8_command_55 : decode cX8_command 55 = .ok (.invokevirtual 170, 3) := by decide +kernel
theorem dX8_command_58 : decode cX8_command 58 = .ok (.istore_n 2, 1) := by decide +kernel
theorem dX8_command_59 : decode cX8_command 59 = .ok (.iload 4, 2) := by decide +kernel
theorem dX8_command_61 : decode cX8_command 61 = .ok (.ifCond .eq 16, 3) := by decide +kernel
theorem dX8_command_64 : decode cX8_command 64 = .ok (.aload_n 0, 1) := by decide +kernel
theorem dX8_command_65 : decode cX8_command 65 = .ok (.getfield 160, 3) := by decide +kernel
theorem dX8_command_68 : decode cX8_command 68 = .ok (.ifCond .ne 9, 3) := by decide +kernel
theorem dX8_command_71 : decode cX8_command 71 = .ok (.aload_n 0, 1) := by decide +kernel
theorem dX8_command_72 : decode cX8_command 72 = .ok (.iconst 3, 1) := by decide +kernel
theorem dX8_command_73 : decode cX8_command 73 = .ok (.invokevirtual 176, 3) := by decide +kernel
theorem dX8_command_76 : decode cX8_command 76 = .ok (.istore_n 3, 1) := by decide +kernel
theorem dX8_command_77 : decode cX8_command 77 = .ok (.iload_n 1, 1) := by decide +kernel
theorem dX8_command_78 : decode cX8_command 78 = .ok (.iconst 3, 1) := by decide +kernel
theorem dX8_command_79 : decode cX8_command 79 = .ok (.if_icmp .ne 8, 3) := by decide +kernel
theorem dX8_command_82 : decode cX8_command 82 = .ok (.aload_n 0, 1) := by decide +kernel
theorem dX8_command_83 : decode cX8_command 83 = .ok (.invokevirtual 179, 3) := by decide +kernel
theorem dX8_command_86 : decode cX8_command 86 = .ok (.istore_n 3, 1) := by decide +kernel
theorem dX8_command_87 : decode cX8_command 87 = .ok (.aload_n 0, 1) := by decide +kernel
theorem dX8_command_88 : decode cX8_command 88 = .ok (.getfield 160, 3) := by decide +kernel
theorem dX8_command_91 : decode cX8_command 91 = .ok (.ifCond .ne 10, 3) := by decide +kernel
theorem dX8_command_94 : decode cX8_command 94 = .ok (.aload_n 0, 1) := by decide +kernel
theorem dX8_command_95 : decode cX8_command 95 = .ok (.getfield 182, 3) := by decide +kernel
theorem dX8_command_98 : decode cX8_command 98 = .ok (.ifCond .ne 4, 3) := by decide +kernel
theorem dX8_command_101 : decode cX8_command 101 = .ok (.return_, 1) := by decide +kernel
theorem dX8_command_102 : decode cX8_command 102 = .ok (.aload_n 0, 1) := by decide +kernel
theorem dX8_command_103 : decode cX8_command 103 = .ok (.iload_n 1, 1) := by decide +kernel
theorem dX8_command_104 : decode cX8_command 104 = .ok (.iload_n 2, 1) := by decide +kernel
theorem dX8_command_105 : decode cX8_command 105 = .ok (.iload_n 3, 1) := by decide +kernel
theorem dX8_command_106 : decode cX8_command 106 = .ok (.invokevirtual 185, 3) := by decide +kernel
theorem dX8_command_109 : decode cX8_command 109 = .ok (.istore 5, 2) := by decide +kernel
theorem dX8_command_111 : decode cX8_command 111 = .ok (.return_, 1) := by decide +kernel
theorem dX8_commands_0 : decode cX8_commands 0 = .ok (.aload_n 0, 1) := by decide +kernel
theorem dX8_commands_1 : decode cX8_commands 1 = .ok (.iconst 0, 1) := by decide +kernel
theorem dX8_commands_2 : decode cX8_commands 2 = .ok (.putfield 154, 3) := by decide +kernel
theorem dX8_commands_5 : decode cX8_commands 5 = .ok (.aload_n 0, 1) := by decide +kernel
theorem dX8_commands_6 : decode cX8_commands 6 = .ok (.iconst 0, 1) := by decide +kernel
theorem dX8_commands_7 : decode cX8_commands 7 = .ok (.putfield 160, 3) := by decide +kernel
theorem dX8_commands_10 : decode cX8_commands 10 = .ok (.iconst 1, 1) := by decide +kernel
theorem dX8_commands_11 : decode cX8_commands 11 = .ok (.istore_n 1, 1) := by decide +kernel
theorem dX8_commands_12 : decode cX8_commands 12 = .ok (.aload_n 0, 1) := by decide +kernel
theorem dX8_commands_13 : decode cX8_commands 13 = .ok (.invokevirtual 189, 3) := by decide +kernel
theorem dX8_commands_16 : decode cX8_commands 16 = .ok (.aload_n 0, 1) := by decide +kernel
theorem dX8_commands_17 : decode cX8_commands 17 = .ok (.getfield 160, 3) := by decide +kernel
theorem dX8_commands_20 : decode cX8_commands 20 = .ok (.ifCond .ne 44, 3) := by decide +kernel
theorem dX8_commands_23 : decode cX8_commands 23 = .ok (.aload_n 0, 1) := by decide +kernel
theorem dX8_commands_24 : decode cX8_commands 24 = .ok (.getfield 44, 3) := by decide +kernel
theorem dX8_commands_27 : decode cX8_commands 27 = .ok (.ifCond .ne 37, 3) := by decide +kernel
theorem dX8_commands_30 : decode cX8_commands 30 = .ok (.aload_n 0, 1) := by decide +kernel
theorem dX8_commands_31 : decode cX8_commands 31 = .ok (.getfield 154, 3) := by decide +kernel
theorem dX8_commands_34 : decode cX8_commands 34 = .ok (.aload_n 0, 1) := by decide +kernel
theorem dX8_commands_35 : decode cX8_commands 35 = .ok (.getfield 157, 3) := by decide +kernel
theorem dX8_commands_38 : decode cX8_commands 38 = .ok (.if_icmp .ge 26, 3) := by decide +kernel
theorem dX8_commands_41 : decode cX8_commands 41 = .ok (.aload_n 0, 1) := by decide +kernel
theorem dX8_commands_42 : decode cX8_commands 42 = .ok (.bipush 59, 2) := by decide +kernel
theorem dX8_commands_44 : decode cX8_commands 44 = .ok (.invokevirtual 167, 3) := by decide +kernel
theorem dX8_commands_47 : decode cX8_commands 47 = .ok (.aload_n 0, 1) := by decide +kernel
theorem dX8_commands_48 : decode cX8_commands 48 = .ok (.getfield 160, 3) := by decide +kernel
theorem dX8_commands_51 : decode cX8_commands 51 = .ok (.ifCond .ne 7, 3) := by decide +kernel
theorem dX8_commands_54 : decode cX8_commands 54 = .ok (.aload_n 0, 1) := by decide +kernel
theorem dX8_commands_55 : decode cX8_commands 55 = .ok (.invokevirtual 189, 3) := by decide +kernel
theorem dX8_commands_58 : decode cX8_commands 58 = .ok (.iinc 1 1, 3) := by decide +kernel
theorem dX8_commands_61 : decode cX8_commands 61 = .ok (.goto (-45), 3) := by decide +kernel
theorem dX8_commands_64 : decode cX8_commands 64 = .ok (.iload_n 1, 1) := by decide +kernel
theorem dX8_commands_65 : decode cX8_commands 65 = .ok (.ireturn, 1) := by decide +kernel
theorem dX8_run_0 : decode cX8_run 0 = .ok (.aload_n 0, 1) := by decide +kernel
theorem dX8_run_1 : decode cX8_run 1 = .ok (.invokevirtual 66, 3) := by decide +kernel
theorem dX8_run_4 : decode cX8_run 4 = .ok (.aload_n 0, 1) := by decide +kernel
theorem dX8_run_5 : decode cX8_run 5 = .ok (.aload_n 0, 1) := by decide +kernel
theorem dX8_run_6 : decode cX8_run 6 = .ok (.getfield 151, 3) := by decide +kernel
theorem dX8_run_9 : decode cX8_run 9 = .ok (.putfield 157, 3) := by decide +kernel
theorem dX8_run_12 : decode cX8_run 12 = .ok (.aload_n 0, 1) := by decide +kernel
theorem dX8_run_13 : decode cX8_run 13 = .ok (.iconst 0, 1) := by decide +kernel
theorem dX8_run_14 : decode cX8_run 14 = .ok (.putfield 151, 3) := by decide +kernel
theorem dX8_run_17 : decode cX8_run 17 = .ok (.aload_n 0, 1) := by decide +kernel
theorem dX8_run_18 : decode cX8_run 18 = .ok (.iconst 0, 1) := by decide +kernel
theorem dX8_run_19 : decode cX8_run 19 = .ok (.putfield 182, 3) := by decide +kernel
theorem dX8_run_22 : decode cX8_run 22 = .ok (.aload_n 0, 1) := by decide +kernel
theorem dX8_run_23 : decode cX8_run 23 = .ok (.invokevirtual 192, 3) := by decide +kernel
theorem dX8_run_26 : decode cX8_run 26 = .ok (.istore_n 1, 1) := by decide +kernel
theorem dX8_run_27 : decode cX8_run 27 = .ok (.aload_n 0, 1) := by decide +kernel
theorem dX8_run_28 : decode cX8_run 28 = .ok (.getfield 160, 3) := by decide +kernel
theorem dX8_run_31 : decode cX8_run 31 = .ok (.ifCond .eq 17, 3) := by decide +kernel
theorem dX8_run_34 : decode cX8_run 34 = .ok (.aload_n 0, 1) := by decide +kernel
theorem dX8_run_35 : decode cX8_run 35 = .ok (.aload_n 0, 1) := by decide +kernel
theorem dX8_run_36 : decode cX8_run 36 = .ok (.getfield 154, 3) := by decide +kernel
theorem dX8_run_39 : decode cX8_run 39 = .ok (.putfield 7, 3) := by decide +kernel
theorem dX8_run_42 : decode cX8_run 42 = .ok (.aload_n 0, 1) := by decide +kernel
theorem dX8_run_43 : decode cX8_run 43 = .ok (.iconst 1, 1) := by decide +kernel
theorem dX8_run_44 : decode cX8_run 44 = .ok (.invokevirtual 62, 3) := by decide +kernel
theorem dX8_run_47 : decode cX8_run 47 = .ok (.ireturn, 1) := by decide +kernel
theorem dX8_run_48 : decode cX8_run 48 = .ok (.aload_n 0, 1) := by decide +kernel
theorem dX8_run_49 : decode cX8_run 49 = .ok (.iconst 1, 1) := by decide +kernel
theorem dX8_run_50 : decode cX8_run 50 = .ok (.putfield 182, 3) := by decide +kernel
theorem dX8_run_53 : decode cX8_run 53 = .ok (.aload_n 0, 1) := by decide +kernel
theorem dX8_run_54 : decode cX8_run 54 = .ok (.invokevirtual 192, 3) := by decide +kernel
theorem dX8_run_57 : decode cX8_run 57 = .ok (.istore_n 1, 1) := by decide +kernel
theorem dX8_run_58 : decode cX8_run 58 = .ok (.aload_n 0, 1) := by decide +kernel
theorem dX8_run_59 : decode cX8_run 59 = .ok (.getfield 44, 3) := by decide +kernel
theorem dX8_run_62 : decode cX8_run 62 = .ok (.ifCond .eq 15, 3) := by decide +kernel
theorem dX8_run_65 : decode cX8_run 65 = .ok (.aload_n 0, 1) := by decide +kernel
theorem dX8_run_66 : decode cX8_run 66 = .ok (.iload_n 1, 1) := by decide +kernel
theorem dX8_run_67 : decode cX8_run 67 = .ok (.iconst 1, 1) := by decide +kernel
theorem dX8_run_68 : decode cX8_run 68 = .ok (.isub, 1) := by decide +kernel
theorem dX8_run_69 : decode cX8_run 69 = .ok (.putfield 13, 3) := by decide +kernel
theorem dX8_run_72 : decode cX8_run 72 = .ok (.aload_n 0, 1) := by decide +kernel
theorem dX8_run_73 : decode cX8_run 73 = .ok (.iconst 2, 1) := by decide +kernel
theorem dX8_run_74 : decode cX8_run 74 = .ok (.putfield 44, 3) := by decide +kernel
theorem dX8_run_77 : decode cX8_run 77 = .ok (.aload_n 0, 1) := by decide +kernel
theorem dX8_run_78 : decode cX8_run 78 = .ok (.iload_n 1, 1) := by decide +kernel
theorem dX8_run_79 : decode cX8_run 79 = .ok (.invokevirtual 73, 3) := by decide +kernel
theorem dX8_run_82 : decode cX8_run 82 = .ok (.ireturn, 1) := by decide +kernel
theorem dX8_errorPosition_0 : decode cX8_errorPosition 0 = .ok (.aload_n 0, 1) := by decide +kernel
theorem dX8_errorPosition_1 : decode cX8_errorPosition 1 = .ok (.aload_n 0, 1) := by decide +kernel
theorem dX8_errorPosition_2 : decode cX8_errorPosition 2 = .ok (.getfield 7, 3) := by decide +kernel
theorem dX8_errorPosition_5 : decode cX8_errorPosition 5 = .ok (.ifCond .ge 7, 3) := by decide +kernel
theorem dX8_errorPosition_8 : decode cX8_errorPosition 8 = .ok (.iconst 1, 1) := by decide +kernel
theorem dX8_errorPosition_9 : decode cX8_errorPosition 9 = .ok (.goto 4, 3) := by decide +kernel
theorem dX8_errorPosition_12 : decode cX8_errorPosition 12 = .ok (.iconst 0, 1) := by decide +kernel
theorem dX8_errorPosition_13 : decode cX8_errorPosition 13 = .ok (.putfield 44, 3) := by decide +kernel
theorem dX8_errorPosition_16 : decode cX8_errorPosition 16 = .ok (.aload_n 0, 1) := by decide +kernel
theorem dX8_errorPosition_17 : decode cX8_errorPosition 17 = .ok (.getfield 44, 3) := by decide +kernel
theorem dX8_errorPosition_20 : decode cX8_errorPosition 20 = .ok (.ifCond .ne 10, 3) := by decide +kernel
theorem dX8_errorPosition_23 : decode cX8_errorPosition 23 = .ok (.aload_n 0, 1) := by decide +kernel
theorem dX8_errorPosition_24 : decode cX8_errorPosition 24 = .ok (.getfield 7, 3) := by decide +kernel
theorem dX8_errorPosition_27 : decode cX8_errorPosition 27 = .ok (.goto 4, 3) := by decide +kernel
theorem dX8_errorPosition_30 : decode cX8_errorPosition 30 = .ok (.iconst 0, 1) := by decide +kernel
theorem dX8_errorPosition_31 : decode cX8_errorPosition 31 = .ok (.ireturn, 1) := by decide +kernel
theorem dX8_failedCommand_0 : decode cX8_failedCommand 0 = .ok (.aload_n 0, 1) := by decide +kernel
theorem dX8_failedCommand_1 : decode cX8_failedCommand 1 = .ok (.aload_n 0, 1) := by decide +kernel
theorem dX8_failedCommand_2 : decode cX8_failedCommand 2 = .ok (.getfield 13, 3) := by decide +kernel
theorem dX8_failedCommand_5 : decode cX8_failedCommand 5 = .ok (.ifCond .ge 7, 3) := by decide +kernel
theorem dX8_failedCommand_8 : decode cX8_failedCommand 8 = .ok (.iconst 1, 1) := by decide +kernel
theorem dX8_failedCommand_9 : decode cX8_failedCommand 9 = .ok (.goto 4, 3) := by decide +kernel
theorem dX8_failedCommand_12 : decode cX8_failedCommand 12 = .ok (.iconst 0, 1) := by decide +kernel
theorem dX8_failedCommand_13 : decode cX8_failedCommand 13 = .ok (.putfield 44, 3) := by decide +kernel
theorem dX8_failedCommand_16 : decode cX8_failedCommand 16 = .ok (.aload_n 0, 1) := by decide +kernel
theorem dX8_failedCommand_17 : decode cX8_failedCommand 17 = .ok (.getfield 44, 3) := by decide +kernel
theorem dX8_failedCommand_20 : decode cX8_failedCommand 20 = .ok (.ifCond .ne 10, 3) := by decide +kernel
theorem dX8_failedCommand_23 : decode cX8_failedCommand 23 = .ok (.aload_n 0, 1) := by decide +kernel
theorem dX8_failedCommand_24 : decode cX8_failedCommand 24 = .ok (.getfield 13, 3) := by decide +kernel
theorem dX8_failedCommand_27 : decode cX8_failedCommand 27 = .ok (.goto 4, 3) := by decide +kernel
theorem dX8_failedCommand_30 : decode cX8_failedCommand 30 = .ok (.iconst 0, 1) := by decide +kernel
theorem dX8_failedCommand_31 : decode cX8_failedCommand 31 = .ok (.ireturn, 1) := by decide +kernel
theorem dX8_writes_0 : decode cX8_writes 0 = .ok (.aload_n 0, 1) := by decide +kernel
theorem dX8_writes_1 : decode cX8_writes 1 = .ok (.getfield 32, 3) := by decide +kernel
theorem dX8_writes_4 : decode cX8_writes 4 = .ok (.aload_n 0, 1) := by decide +kernel
theorem dX8_writes_5 : decode cX8_writes 5 = .ok (.getfield 195, 3) := by decide +kernel
theorem dX8_writes_8 : decode cX8_writes 8 = .ok (.iload_n 1, 1) := by decide +kernel
theorem dX8_writes_9 : decode cX8_writes 9 = .ok (.iastore, 1) := by decide +kernel
theorem dX8_writes_10 : decode cX8_writes 10 = .ok (.aload_n 0, 1) := by decide +kernel
theorem dX8_writes_11 : decode cX8_writes 11 = .ok (.dup, 1) := by decide +kernel
theorem dX8_writes_12 : decode cX8_writes 12 = .ok (.getfield 195, 3) := by decide +kernel
theorem dX8_writes_15 : decode cX8_writes 15 = .ok (.iconst 1, 1) := by decide +kernel
theorem dX8_writes_16 : decode cX8_writes 16 = .ok (.iadd, 1) := by decide +kernel
theorem dX8_writes_17 : decode cX8_writes 17 = .ok (.putfield 195, 3) := by decide +kernel
theorem dX8_writes_20 : decode cX8_writes 20 = .ok (.return_, 1) := by decide +kernel
theorem dX8_writesNumber_0 : decode cX8_writesNumber 0 = .ok (.iconst 1, 1) := by decide +kernel
theorem dX8_writesNumber_1 : decode cX8_writesNumber 1 = .ok (.istore_n 2, 1) := by decide +kernel
theorem dX8_writesNumber_2 : decode cX8_writesNumber 2 = .ok (.iload_n 1, 1) := by decide +kernel
theorem dX8_writesNumber_3 : decode cX8_writesNumber 3 = .ok (.iload_n 2, 1) := by decide +kernel
theorem dX8_writesNumber_4 : decode cX8_writesNumber 4 = .ok (.idiv, 1) := by decide +kernel
theorem dX8_writesNumber_5 : decode cX8_writesNumber 5 = .ok (.bipush 10, 2) := by decide +kernel
theorem dX8_writesNumber_7 : decode cX8_writesNumber 7 = .ok (.if_icmp .lt 11, 3) := by decide +kernel
theorem dX8_writesNumber_10 : decode cX8_writesNumber 10 = .ok (.iload_n 2, 1) := by decide +kernel
theorem dX8_writesNumber_11 : decode cX8_writesNumber 11 = .ok (.bipush 10, 2) := by decide +kernel
theorem dX8_writesNumber_13 : decode cX8_writesNumber 13 = .ok (.imul, 1) := by decide +kernel
theorem dX8_writesNumber_14 : decode cX8_writesNumber 14 = .ok (.istore_n 2, 1) := by decide +kernel
theorem dX8_writesNumber_15 : decode cX8_writesNumber 15 = .ok (.goto (-13), 3) := by decide +kernel
theorem dX8_writesNumber_18 : decode cX8_writesNumber 18 = .ok (.iload_n 2, 1) := by decide +kernel
theorem dX8_writesNumber_19 : decode cX8_writesNumber 19 = .ok (.ifCond .le 24, 3) := by decide +kernel
theorem dX8_writesNumber_22 : decode cX8_writesNumber 22 = .ok (.aload_n 0, 1) := by decide +kernel
theorem dX8_writesNumber_23 : decode cX8_writesNumber 23 = .ok (.bipush 48, 2) := by decide +kernel
theorem dX8_writesNumber_25 : decode cX8_writesNumber 25 = .ok (.iload_n 1, 1) := by decide +kernel
theorem dX8_writesNumber_26 : decode cX8_writesNumber 26 = .ok (.iload_n 2, 1) := by decide +kernel
theorem dX8_writesNumber_27 : decode cX8_writesNumber 27 = .ok (.idiv, 1) := by decide +kernel
theorem dX8_writesNumber_28 : decode cX8_writesNumber 28 = .ok (.bipush 10, 2) := by decide +kernel
theorem dX8_writesNumber_30 : decode cX8_writesNumber 30 = .ok (.irem, 1) := by decide +kernel
theorem dX8_writesNumber_31 : decode cX8_writesNumber 31 = .ok (.iadd, 1) := by decide +kernel
theorem dX8_writesNumber_32 : decode cX8_writesNumber 32 = .ok (.invokevirtual 198, 3) := by decide +kernel
theorem dX8_writesNumber_35 : decode cX8_writesNumber 35 = .ok (.iload_n 2, 1) := by decide +kernel
theorem dX8_writesNumber_36 : decode cX8_writesNumber 36 = .ok (.bipush 10, 2) := by decide +kernel
theorem dX8_writesNumber_38 : decode cX8_writesNumber 38 = .ok (.idiv, 1) := by decide +kernel
theorem dX8_writesNumber_39 : decode cX8_writesNumber 39 = .ok (.istore_n 2, 1) := by decide +kernel
theorem dX8_writesNumber_40 : decode cX8_writesNumber 40 = .ok (.goto (-22), 3) := by decide +kernel
theorem dX8_writesNumber_43 : decode cX8_writesNumber 43 = .ok (.return_, 1) := by decide +kernel
theorem dX8_writesPart_0 : decode cX8_writesPart 0 = .ok (.iload_n 2, 1) := by decide +kernel
theorem dX8_writesPart_1 : decode cX8_writesPart 1 = .ok (.ifCond .ne 4, 3) := by decide +kernel
theorem dX8_writesPart_4 : decode cX8_writesPart 4 = .ok (.return_, 1) := by decide +kernel
theorem dX8_writesPart_5 : decode cX8_writesPart 5 = .ok (.aload_n 0, 1) := by decide +kernel
theorem dX8_writesPart_6 : decode cX8_writesPart 6 = .ok (.iload_n 1, 1) := by decide +kernel
theorem dX8_writesPart_7 : decode cX8_writesPart 7 = .ok (.invokevirtual 198, 3) := by decide +kernel
theorem dX8_writesPart_10 : decode cX8_writesPart 10 = .ok (.aload_n 0, 1) := by decide +kernel
theorem dX8_writesPart_11 : decode cX8_writesPart 11 = .ok (.iload_n 2, 1) := by decide +kernel
theorem dX8_writesPart_12 : decode cX8_writesPart 12 = .ok (.invokevirtual 201, 3) := by decide +kernel
theorem dX8_writesPart_15 : decode cX8_writesPart 15 = .ok (.return_, 1) := by decide +kernel
theorem dX8_describeMember_0 : decode cX8_describeMember 0 = .ok (.aload_n 0, 1) := by decide +kernel
theorem dX8_describeMember_1 : decode cX8_describeMember 1 = .ok (.aload_n 0, 1) := by decide +kernel
theorem dX8_describeMember_2 : decode cX8_describeMember 2 = .ok (.iload_n 1, 1) := by decide +kernel
theorem dX8_describeMember_3 : decode cX8_describeMember 3 = .ok (.invokevirtual 76, 3) := by decide +kernel
theorem dX8_describeMember_6 : decode cX8_describeMember 6 = .ok (.ifCond .eq 7, 3) := by decide +kernel
theorem dX8_describeMember_9 : decode cX8_describeMember 9 = .ok (.iconst 0, 1) := by decide +kernel
theorem dX8_describeMember_10 : decode cX8_describeMember 10 = .ok (.goto 4, 3) := by decide +kernel
theorem dX8_describeMember_13 : decode cX8_describeMember 13 = .ok (.iconst 1, 1) := by decide +kernel
theorem dX8_describeMember_14 : decode cX8_describeMember 14 = .ok (.putfield 44, 3) := by decide +kernel
theorem dX8_describeMember_17 : decode cX8_describeMember 17 = .ok (.aload_n 0, 1) := by decide +kernel
theorem dX8_describeMember_18 : decode cX8_describeMember 18 = .ok (.getfield 44, 3) := by decide +kernel
theorem dX8_describeMember_21 : decode cX8_describeMember 21 = .ok (.ifCond .eq 5, 3) := by decide +kernel
theorem dX8_describeMember_24 : decode cX8_describeMember 24 = .ok (.iconst 0, 1) := by decide +kernel
theorem dX8_describeMember_25 : decode cX8_describeMember 25 = .ok (.ireturn, 1) := by decide +kernel
theorem dX8_describeMember_26 : decode cX8_describeMember 26 = .ok (.aload_n 0, 1) := by decide +kernel
theorem dX8_describeMember_27 : decode cX8_describeMember 27 = .ok (.iconst 0, 1) := by decide +kernel
theorem dX8_describeMember_28 : decode cX8_describeMember 28 = .ok (.putfield 195, 3) := by decide +kernel
theorem dX8_describeMember_31 : decode cX8_describeMember 31 = .ok (.aload_n 0, 1) := by decide +kernel
theorem dX8_describeMember_32 : decode cX8_describeMember 32 = .ok (.bipush 109, 2) := by decide +kernel
theorem dX8_describeMember_34 : decode cX8_describeMember 34 = .ok (.invokevirtual 198, 3) := by decide +kernel
theorem dX8_describeMember_37 : decode cX8_describeMember 37 = .ok (.aload_n 0, 1) := by decide +kernel
theorem dX8_describeMember_38 : decode cX8_describeMember 38 = .ok (.iload_n 1, 1) := by decide +kernel
theorem dX8_describeMember_39 : decode cX8_describeMember 39 = .ok (.invokevirtual 201, 3) := by decide +kernel
theorem dX8_describeMember_42 : decode cX8_describeMember 42 = .ok (.aload_n 0, 1) := by decide +kernel
theorem dX8_describeMember_43 : decode cX8_describeMember 43 = .ok (.bipush 64, 2) := by decide +kernel
theorem dX8_describeMember_45 : decode cX8_describeMember 45 = .ok (.invokevirtual 198, 3) := by decide +kernel
theorem dX8_describeMember_48 : decode cX8_describeMember 48 = .ok (.aload_n 0, 1) := by decide +kernel
theorem dX8_describeMember_49 : decode cX8_describeMember 49 = .ok (.aload_n 0, 1) := by decide +kernel
theorem dX8_describeMember_50 : decode cX8_describeMember 50 = .ok (.getfield 16, 3) := by decide +kernel
theorem dX8_describeMember_53 : decode cX8_describeMember 53 = .ok (.bipush 11, 2) := by decide +kernel
theorem dX8_describeMember_55 : decode cX8_describeMember 55 = .ok (.iload_n 1, 1) := by decide +kernel
theorem dX8_describeMember_56 : decode cX8_describeMember 56 = .ok (.iadd, 1) := by decide +kernel
theorem dX8_describeMember_57 : decode cX8_describeMember 57 = .ok (.iaload, 1) := by decide +kernel
theorem dX8_describeMember_58 : decode cX8_describeMember 58 = .ok (.invokevirtual 201, 3) := by decide +kernel
theorem dX8_describeMember_61 : decode cX8_describeMember 61 = .ok (.aload_n 0, 1) := by decide +kernel
theorem dX8_describeMember_62 : decode cX8_describeMember 62 = .ok (.bipush 97, 2) := by decide +kernel
theorem dX8_describeMember_64 : decode cX8_describeMember 64 = .ok (.aload_n 0, 1) := by decide +kernel
theorem dX8_describeMember_65 : decode cX8_describeMember 65 = .ok (.getfield 16, 3) := by decide +kernel
theorem dX8_describeMember_68 : decode cX8_describeMember 68 = .ok (.bipush 35, 2) := by decide +kernel
theorem dX8_describeMember_70 : decode cX8_describeMember 70 = .ok (.iload_n 1, 1) := by decide +kernel
theorem dX8_describeMember_71 : decode cX8_describeMember 71 = .ok (.iadd, 1) := by decide +kernel
theorem dX8_describeMember_72 : decode cX8_describeMember 72 = .ok (.iaload, 1) := by decide +kernel
theorem dX8_describeMember_73 : decode cX8_describeMember 73 = .ok (.iadd, 1) := by decide +kernel
theorem dX8_describeMember_74 : decode cX8_describeMember 74 = .ok (.invokevirtual 198, 3) := by decide +kernel
theorem dX8_describeMember_77 : decode cX8_describeMember 77 = .ok (.aload_n 0, 1) := by decide +kernel
theorem dX8_describeMember_78 : decode cX8_describeMember 78 = .ok (.bipush 32, 2) := by decide +kernel
theorem dX8_describeMember_80 : decode cX8_describeMember 80 = .ok (.invokevirtual 198, 3) := by decide +kernel
theorem dX8_describeMember_83 : decode cX8_describeMember 83 = .ok (.aload_n 0, 1) := by decide +kernel
theorem dX8_describeMember_84 : decode cX8_describeMember 84 = .ok (.aload_n 0, 1) := by decide +kernel
theorem dX8_describeMember_85 : decode cX8_describeMember 85 = .ok (.getfield 16, 3) := by decide +kernel
theorem dX8_describeMember_88 : decode cX8_describeMember 88 = .ok (.bipush 47, 2) := by decide +kernel
theorem dX8_describeMember_90 : decode cX8_describeMember 90 = .ok (.iload_n 1, 1) := by decide +kernel
theorem dX8_describeMember_91 : decode cX8_describeMember 91 = .ok (.iadd, 1) := by decide +kernel
theorem dX8_describeMember_92 : decode cX8_describeMember 92 = .ok (.iaload, 1) := by decide +kernel
theorem dX8_describeMember_93 : decode cX8_describeMember 93 = .ok (.invokevirtual 201, 3) := by decide +kernel
theorem dX8_describeMember_96 : decode cX8_describeMember 96 = .ok (.aload_n 0, 1) := by decide +kernel
theorem dX8_describeMember_97 : decode cX8_describeMember 97 = .ok (.bipush 43, 2) := by decide +kernel
theorem dX8_describeMember_99 : decode cX8_describeMember 99 = .ok (.aload_n 0, 1) := by decide +kernel
theorem dX8_describeMember_100 : decode cX8_describeMember 100 = .ok (.getfield 16, 3) := by decide +kernel
theorem dX8_describeMember_103 : decode cX8_describeMember 103 = .ok (.bipush 59, 2) := by decide +kernel
theorem dX8_describeMember_105 : decode cX8_describeMember 105 = .ok (.iload_n 1, 1) := by decide +kernel
theorem dX8_describeMember_106 : decode cX8_describeMember 106 = .ok (.iadd, 1) := by decide +kernel
theorem dX8_describeMember_107 : decode cX8_describeMember 107 = .ok (.iaload, 1) := by decide +kernel
theorem dX8_describeMember_108 : decode cX8_describeMember 108 = .ok (.invokevirtual 204, 3) := by decide +kernel
theorem dX8_describeMember_111 : decode cX8_describeMember 111 = .ok (.aload_n 0, 1) := by decide +kernel
theorem dX8_describeMember_112 : decode cX8_describeMember 112 = .ok (.bipush 45, 2) := by decide +kernel
theorem dX8_describeMember_114 : decode cX8_describeMember 114 = .ok (.aload_n 0, 1) := by decide +kernel
theorem dX8_describeMember_115 : decode cX8_describeMember 115 = .ok (.getfield 16, 3) := by decide +kernel
theorem dX8_describeMember_118 : decode cX8_describeMember 118 = .ok (.bipush 71, 2) := by decide +kernel
theorem dX8_describeMember_120 : decode cX8_describeMember 120 = .ok (.iload_n 1, 1) := by decide +kernel
theorem dX8_describeMember_121 : decode cX8_describeMember 121 = .ok (.iadd, 1) := by decide +kernel
theorem dX8_describeMember_122 : decode cX8_describeMember 122 = .ok (.iaload, 1) := by decide +kernel
theorem dX8_describeMember_123 : decode cX8_describeMember 123 = .ok (.invokevirtual 204, 3) := by decide +kernel
theorem dX8_describeMember_126 : decode cX8_describeMember 126 = .ok (.aload_n 0, 1) := by decide +kernel
theorem dX8_describeMember_127 : decode cX8_describeMember 127 = .ok (.iload_n 1, 1) := by decide +kernel
theorem dX8_describeMember_128 : decode cX8_describeMember 128 = .ok (.invokevirtual 127, 3) := by decide +kernel
theorem dX8_describeMember_131 : decode cX8_describeMember 131 = .ok (.ifCond .lt 9, 3) := by decide +kernel
theorem dX8_describeMember_134 : decode cX8_describeMember 134 = .ok (.aload_n 0, 1) := by decide +kernel
theorem dX8_describeMember_135 : decode cX8_describeMember 135 = .ok (.bipush 33, 2) := by decide +kernel
theorem dX8_describeMember_137 : decode cX8_describeMember 137 = .ok (.invokevirtual 198, 3) := by decide +kernel
theorem dX8_describeMember_140 : decode cX8_describeMember 140 = .ok (.aload_n 0, 1) := by decide +kernel
theorem dX8_describeMember_141 : decode cX8_describeMember 141 = .ok (.getfield 195, 3) := by decide +kernel
theorem dX8_describeMember_144 : decode cX8_describeMember 144 = .ok (.ireturn, 1) := by decide +kernel
theorem dX8_lineAt_0 : decode cX8_lineAt 0 = .ok (.aload_n 0, 1) := by decide +kernel
theorem dX8_lineAt_1 : decode cX8_lineAt 1 = .ok (.iload_n 1, 1) := by decide +kernel
theorem dX8_lineAt_2 : decode cX8_lineAt 2 = .ok (.iconst 0, 1) := by decide +kernel
theorem dX8_lineAt_3 : decode cX8_lineAt 3 = .ok (.aload_n 0, 1) := by decide +kernel
theorem dX8_lineAt_4 : decode cX8_lineAt 4 = .ok (.getfield 195, 3) := by decide +kernel
theorem dX8_lineAt_7 : decode cX8_lineAt 7 = .ok (.iconst 1, 1) := by decide +kernel
theorem dX8_lineAt_8 : decode cX8_lineAt 8 = .ok (.isub, 1) := by decide +kernel
theorem dX8_lineAt_9 : decode cX8_lineAt 9 = .ok (.invokestatic 54, 3) := by decide +kernel
theorem dX8_lineAt_12 : decode cX8_lineAt 12 = .ok (.ifCond .eq 7, 3) := by decide +kernel
theorem dX8_lineAt_15 : decode cX8_lineAt 15 = .ok (.iconst 0, 1) := by decide +kernel
theorem dX8_lineAt_16 : decode cX8_lineAt 16 = .ok (.goto 4, 3) := by decide +kernel
theorem dX8_lineAt_19 : decode cX8_lineAt 19 = .ok (.iconst 1, 1) := by decide +kernel
theorem dX8_lineAt_20 : decode cX8_lineAt 20 = .ok (.putfield 44, 3) := by decide +kernel
theorem dX8_lineAt_23 : decode cX8_lineAt 23 = .ok (.aload_n 0, 1) := by decide +kernel
theorem dX8_lineAt_24 : decode cX8_lineAt 24 = .ok (.getfield 44, 3) := by decide +kernel
theorem dX8_lineAt_27 : decode cX8_lineAt 27 = .ok (.ifCond .ne 13, 3) := by decide +kernel
theorem dX8_lineAt_30 : decode cX8_lineAt 30 = .ok (.aload_n 0, 1) := by decide +kernel
theorem dX8_lineAt_31 : decode cX8_lineAt 31 = .ok (.getfield 32, 3) := by decide +kernel
theorem dX8_lineAt_34 : decode cX8_lineAt 34 = .ok (.iload_n 1, 1) := by decide +kernel
theorem dX8_lineAt_35 : decode cX8_lineAt 35 = .ok (.iaload, 1) := by decide +kernel
theorem dX8_lineAt_36 : decode cX8_lineAt 36 = .ok (.i2c, 1) := by decide +kernel
theorem dX8_lineAt_37 : decode cX8_lineAt 37 = .ok (.goto 5, 3) := by decide +kernel
theorem dX8_lineAt_40 : decode cX8_lineAt 40 = .ok (.bipush 97, 2) := by decide +kernel
theorem dX8_lineAt_42 : decode cX8_lineAt 42 = .ok (.ireturn, 1) := by decide +kernel
theorem dX8_meanLostDays_0 : decode cX8_meanLostDays 0 = .ok (.aload_n 0, 1) := by decide +kernel
theorem dX8_meanLostDays_1 : decode cX8_meanLostDays 1 = .ok (.aload_n 0, 1) := by decide +kernel
theorem dX8_meanLostDays_2 : decode cX8_meanLostDays 2 = .ok (.getfield 16, 3) := by decide +kernel
theorem dX8_meanLostDays_5 : decode cX8_meanLostDays 5 = .ok (.iconst 0, 1) := by decide +kernel
theorem dX8_meanLostDays_6 : decode cX8_meanLostDays 6 = .ok (.iaload, 1) := by decide +kernel
theorem dX8_meanLostDays_7 : decode cX8_meanLostDays 7 = .ok (.ifCond .ne 7, 3) := by decide +kernel
theorem dX8_meanLostDays_10 : decode cX8_meanLostDays 10 = .ok (.iconst 1, 1) := by decide +kernel
theorem dX8_meanLostDays_11 : decode cX8_meanLostDays 11 = .ok (.goto 4, 3) := by decide +kernel
theorem dX8_meanLostDays_14 : decode cX8_meanLostDays 14 = .ok (.iconst 0, 1) := by decide +kernel
theorem dX8_meanLostDays_15 : decode cX8_meanLostDays 15 = .ok (.putfield 44, 3) := by decide +kernel
theorem dX8_meanLostDays_18 : decode cX8_meanLostDays 18 = .ok (.aload_n 0, 1) := by decide +kernel
theorem dX8_meanLostDays_19 : decode cX8_meanLostDays 19 = .ok (.getfield 44, 3) := by decide +kernel
theorem dX8_meanLostDays_22 : decode cX8_meanLostDays 22 = .ok (.ifCond .ne 21, 3) := by decide +kernel
theorem dX8_meanLostDays_25 : decode cX8_meanLostDays 25 = .ok (.aload_n 0, 1) := by decide +kernel
theorem dX8_meanLostDays_26 : decode cX8_meanLostDays 26 = .ok (.invokevirtual 148, 3) := by decide +kernel
theorem dX8_meanLostDays_29 : decode cX8_meanLostDays 29 = .ok (.i2d, 1) := by decide +kernel
theorem dX8_meanLostDays_30 : decode cX8_meanLostDays 30 = .ok (.iconst 3, 1) := by decide +kernel
theorem dX8_meanLostDays_31 : decode cX8_meanLostDays 31 = .ok (.aload_n 0, 1) := by decide +kernel
theorem dX8_meanLostDays_32 : decode cX8_meanLostDays 32 = .ok (.getfield 16, 3) := by decide +kernel
theorem dX8_meanLostDays_35 : decode cX8_meanLostDays 35 = .ok (.iconst 0, 1) := by decide +kernel
theorem dX8_meanLostDays_36 : decode cX8_meanLostDays 36 = .ok (.iaload, 1) := by decide +kernel
theorem dX8_meanLostDays_37 : decode cX8_meanLostDays 37 = .ok (.imul, 1) := by decide +kernel
theorem dX8_meanLostDays_38 : decode cX8_meanLostDays 38 = .ok (.i2d, 1) := by decide +kernel
theorem dX8_meanLostDays_39 : decode cX8_meanLostDays 39 = .ok (.ddiv, 1) := by decide +kernel
theorem dX8_meanLostDays_40 : decode cX8_meanLostDays 40 = .ok (.goto 4, 3) := by decide +kernel
theorem dX8_meanLostDays_43 : decode cX8_meanLostDays 43 = .ok (.dconst 0, 1) := by decide +kernel
theorem dX8_meanLostDays_44 : decode cX8_meanLostDays 44 = .ok (.dreturn, 1) := by decide +kernel
theorem dX8_isConsistent_0 : decode cX8_isConsistent 0 = .ok (.aload_n 0, 1) := by decide +kernel
theorem dX8_isConsistent_1 : decode cX8_isConsistent 1 = .ok (.iconst 0, 1) := by decide +kernel
theorem dX8_isConsistent_2 : decode cX8_isConsistent 2 = .ok (.putfield 44, 3) := by decide +kernel
theorem dX8_isConsistent_5 : decode cX8_isConsistent 5 = .ok (.aload_n 0, 1) := by decide +kernel
theorem dX8_isConsistent_6 : decode cX8_isConsistent 6 = .ok (.getfield 16, 3) := by decide +kernel
theorem dX8_isConsistent_9 : decode cX8_isConsistent 9 = .ok (.bipush 7, 2) := by decide +kernel
theorem dX8_isConsistent_11 : decode cX8_isConsistent 11 = .ok (.iaload, 1) := by decide +kernel
theorem dX8_isConsistent_12 : decode cX8_isConsistent 12 = .ok (.ifCond .lt 20, 3) := by decide +kernel
theorem dX8_isConsistent_15 : decode cX8_isConsistent 15 = .ok (.aload_n 0, 1) := by decide +kernel
theorem dX8_isConsistent_16 : decode cX8_isConsistent 16 = .ok (.getfield 16, 3) := by decide +kernel
theorem dX8_isConsistent_19 : decode cX8_isConsistent 19 = .ok (.bipush 7, 2) := by decide +kernel
theorem dX8_isConsistent_21 : decode cX8_isConsistent 21 = .ok (.iaload, 1) := by decide +kernel
theorem dX8_isConsistent_22 : decode cX8_isConsistent 22 = .ok (.sipush 9999, 3) := by decide +kernel
theorem dX8_isConsistent_25 : decode cX8_isConsistent 25 = .ok (.if_icmp .gt 7, 3) := by decide +kernel
theorem dX8_isConsistent_28 : decode cX8_isConsistent 28 = .ok (.iconst 1, 1) := by decide +kernel
theorem dX8_isConsistent_29 : decode cX8_isConsistent 29 = .ok (.goto 4, 3) := by decide +kernel
theorem dX8_isConsistent_32 : decode cX8_isConsistent 32 = .ok (.iconst 0, 1) := by decide +kernel
theorem dX8_isConsistent_33 : decode cX8_isConsistent 33 = .ok (.ireturn, 1) := by decide +kernel
theorem dX8_undo_0 : decode cX8_undo 0 = .ok (.aload_n 0, 1) := by decide +kernel
theorem dX8_undo_1 : decode cX8_undo 1 = .ok (.aload_n 0, 1) := by decide +kernel
theorem dX8_undo_2 : decode cX8_undo 2 = .ok (.getfield 51, 3) := by decide +kernel
theorem dX8_undo_5 : decode cX8_undo 5 = .ok (.ifCond .ne 7, 3) := by decide +kernel
theorem dX8_undo_8 : decode cX8_undo 8 = .ok (.iconst 1, 1) := by decide +kernel
theorem dX8_undo_9 : decode cX8_undo 9 = .ok (.goto 4, 3) := by decide +kernel
theorem dX8_undo_12 : decode cX8_undo 12 = .ok (.iconst 0, 1) := by decide +kernel
theorem dX8_undo_13 : decode cX8_undo 13 = .ok (.putfield 44, 3) := by decide +kernel
theorem dX8_undo_16 : decode cX8_undo 16 = .ok (.aload_n 0, 1) := by decide +kernel
theorem dX8_undo_17 : decode cX8_undo 17 = .ok (.getfield 44, 3) := by decide +kernel
theorem dX8_undo_20 : decode cX8_undo 20 = .ok (.ifCond .eq 5, 3) := by decide +kernel
theorem dX8_undo_23 : decode cX8_undo 23 = .ok (.iconst 0, 1) := by decide +kernel
theorem dX8_undo_24 : decode cX8_undo 24 = .ok (.ireturn, 1) := by decide +kernel
theorem dX8_undo_25 : decode cX8_undo 25 = .ok (.aload_n 0, 1) := by decide +kernel
theorem dX8_undo_26 : decode cX8_undo 26 = .ok (.dup, 1) := by decide +kernel
theorem dX8_undo_27 : decode cX8_undo 27 = .ok (.getfield 51, 3) := by decide +kernel
theorem dX8_undo_30 : decode cX8_undo 30 = .ok (.iconst 1, 1) := by decide +kernel
theorem dX8_undo_31 : decode cX8_undo 31 = .ok (.isub, 1) := by decide +kernel
theorem dX8_undo_32 : decode cX8_undo 32 = .ok (.putfield 51, 3) := by decide +kernel
theorem dX8_undo_35 : decode cX8_undo 35 = .ok (.iconst 0, 1) := by decide +kernel
theorem dX8_undo_36 : decode cX8_undo 36 = .ok (.istore_n 1, 1) := by decide +kernel
theorem dX8_undo_37 : decode cX8_undo 37 = .ok (.iload_n 1, 1) := by decide +kernel
theorem dX8_undo_38 : decode cX8_undo 38 = .ok (.sipush 169, 3) := by decide +kernel
theorem dX8_undo_41 : decode cX8_undo 41 = .ok (.if_icmp .ge 30, 3) := by decide +kernel
theorem dX8_undo_44 : decode cX8_undo 44 = .ok (.aload_n 0, 1) := by decide +kernel
theorem dX8_undo_45 : decode cX8_undo 45 = .ok (.getfield 16, 3) := by decide +kernel
theorem dX8_undo_48 : decode cX8_undo 48 = .ok (.iload_n 1, 1) := by decide +kernel
theorem dX8_undo_49 : decode cX8_undo 49 = .ok (.aload_n 0, 1) := by decide +kernel
theorem dX8_undo_50 : decode cX8_undo 50 = .ok (.getfield 26, 3) := by decide +kernel
theorem dX8_undo_53 : decode cX8_undo 53 = .ok (.aload_n 0, 1) := by decide +kernel
theorem dX8_undo_54 : decode cX8_undo 54 = .ok (.getfield 51, 3) := by decide +kernel
theorem dX8_undo_57 : decode cX8_undo 57 = .ok (.sipush 169, 3) := by decide +kernel
theorem dX8_undo_60 : decode cX8_undo 60 = .ok (.imul, 1) := by decide +kernel
theorem dX8_undo_61 : decode cX8_undo 61 = .ok (.iload_n 1, 1) := by decide +kernel
theorem dX8_undo_62 : decode cX8_undo 62 = .ok (.iadd, 1) := by decide +kernel
theorem dX8_undo_63 : decode cX8_undo 63 = .ok (.iaload, 1) := by decide +kernel
theorem dX8_undo_64 : decode cX8_undo 64 = .ok (.iastore, 1) := by decide +kernel
theorem dX8_undo_65 : decode cX8_undo 65 = .ok (.iinc 1 1, 3) := by decide +kernel
theorem dX8_undo_68 : decode cX8_undo 68 = .ok (.goto (-31), 3) := by decide +kernel
theorem dX8_undo_71 : decode cX8_undo 71 = .ok (.aload_n 0, 1) := by decide +kernel
theorem dX8_undo_72 : decode cX8_undo 72 = .ok (.getfield 51, 3) := by decide +kernel
theorem dX8_undo_75 : decode cX8_undo 75 = .ok (.ireturn, 1) := by decide +kernel
theorem dX8_save_0 : decode cX8_save 0 = .ok (.aload_n 0, 1) := by decide +kernel
theorem dX8_save_1 : decode cX8_save 1 = .ok (.iconst 0, 1) := by decide +kernel
theorem dX8_save_2 : decode cX8_save 2 = .ok (.putfield 44, 3) := by decide +kernel
theorem dX8_save_5 : decode cX8_save 5 = .ok (.aload_n 0, 1) := by decide +kernel
theorem dX8_save_6 : decode cX8_save 6 = .ok (.getfield 23, 3) := by decide +kernel
theorem dX8_save_9 : decode cX8_save 9 = .ok (.aload_n 0, 1) := by decide +kernel
theorem dX8_save_10 : decode cX8_save 10 = .ok (.getfield 16, 3) := by decide +kernel
theorem dX8_save_13 : decode cX8_save 13 = .ok (.invokestatic 47, 3) := by decide +kernel
theorem dX8_save_16 : decode cX8_save 16 = .ok (.aload_n 0, 1) := by decide +kernel
theorem dX8_save_17 : decode cX8_save 17 = .ok (.iconst 1, 1) := by decide +kernel
theorem dX8_save_18 : decode cX8_save 18 = .ok (.putfield 208, 3) := by decide +kernel
theorem dX8_save_21 : decode cX8_save 21 = .ok (.aload_n 0, 1) := by decide +kernel
theorem dX8_save_22 : decode cX8_save 22 = .ok (.getfield 16, 3) := by decide +kernel
theorem dX8_save_25 : decode cX8_save 25 = .ok (.iconst 0, 1) := by decide +kernel
theorem dX8_save_26 : decode cX8_save 26 = .ok (.iaload, 1) := by decide +kernel
theorem dX8_save_27 : decode cX8_save 27 = .ok (.ireturn, 1) := by decide +kernel
theorem dX8_restore_0 : decode cX8_restore 0 = .ok (.aload_n 0, 1) := by decide +kernel
theorem dX8_restore_1 : decode cX8_restore 1 = .ok (.aload_n 0, 1) := by decide +kernel
theorem dX8_restore_2 : decode cX8_restore 2 = .ok (.getfield 208, 3) := by decide +kernel
theorem dX8_restore_5 : decode cX8_restore 5 = .ok (.ifCond .eq 7, 3) := by decide +kernel
theorem dX8_restore_8 : decode cX8_restore 8 = .ok (.iconst 0, 1) := by decide +kernel
theorem dX8_restore_9 : decode cX8_restore 9 = .ok (.goto 4, 3) := by decide +kernel
theorem dX8_restore_12 : decode cX8_restore 12 = .ok (.iconst 1, 1) := by decide +kernel
theorem dX8_restore_13 : decode cX8_restore 13 = .ok (.putfield 44, 3) := by decide +kernel
theorem dX8_restore_16 : decode cX8_restore 16 = .ok (.aload_n 0, 1) := by decide +kernel
theorem dX8_restore_17 : decode cX8_restore 17 = .ok (.getfield 44, 3) := by decide +kernel
theorem dX8_restore_20 : decode cX8_restore 20 = .ok (.ifCond .eq 5, 3) := by decide +kernel
theorem dX8_restore_23 : decode cX8_restore 23 = .ok (.iconst 0, 1) := by decide +kernel
theorem dX8_restore_24 : decode cX8_restore 24 = .ok (.ireturn, 1) := by decide +kernel
theorem dX8_restore_25 : decode cX8_restore 25 = .ok (.aload_n 0, 1) := by decide +kernel
theorem dX8_restore_26 : decode cX8_restore 26 = .ok (.getfield 16, 3) := by decide +kernel
theorem dX8_restore_29 : decode cX8_restore 29 = .ok (.aload_n 0, 1) := by decide +kernel
theorem dX8_restore_30 : decode cX8_restore 30 = .ok (.getfield 23, 3) := by decide +kernel
theorem dX8_restore_33 : decode cX8_restore 33 = .ok (.invokestatic 47, 3) := by decide +kernel
theorem dX8_restore_36 : decode cX8_restore 36 = .ok (.aload_n 0, 1) := by decide +kernel
theorem dX8_restore_37 : decode cX8_restore 37 = .ok (.iconst 0, 1) := by decide +kernel
theorem dX8_restore_38 : decode cX8_restore 38 = .ok (.putfield 51, 3) := by decide +kernel
theorem dX8_restore_41 : decode cX8_restore 41 = .ok (.aload_n 0, 1) := by decide +kernel
theorem dX8_restore_42 : decode cX8_restore 42 = .ok (.getfield 16, 3) := by decide +kernel
theorem dX8_restore_45 : decode cX8_restore 45 = .ok (.iconst 0, 1) := by decide +kernel
theorem dX8_restore_46 : decode cX8_restore 46 = .ok (.iaload, 1) := by decide +kernel
theorem dX8_restore_47 : decode cX8_restore 47 = .ok (.ireturn, 1) := by decide +kernel
